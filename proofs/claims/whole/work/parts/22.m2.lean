-- StandInsModel matchesCall (IIII)Z
set_option maxRecDepth 100000 in
theorem dM_matchesCall_0 : decode bM_matchesCall 0 = .ok (.aload_n 0, 1) := by decide +kernel
set_option maxRecDepth 100000 in
theorem dM_matchesCall_1 : decode bM_matchesCall 1 = .ok (.getfield 7, 3) := by decide +kernel
set_option maxRecDepth 100000 in
theorem dM_matchesCall_4 : decode bM_matchesCall 4 = .ok (.iload_n 2, 1) := by decide +kernel
set_option maxRecDepth 100000 in
theorem dM_matchesCall_5 : decode bM_matchesCall 5 = .ok (.iaload, 1) := by decide +kernel
set_option maxRecDepth 100000 in
theorem dM_matchesCall_6 : decode bM_matchesCall 6 = .ok (.ifCond .eq 12, 3) := by decide +kernel
set_option maxRecDepth 100000 in
theorem dM_matchesCall_9 : decode bM_matchesCall 9 = .ok (.aload_n 0, 1) := by decide +kernel
set_option maxRecDepth 100000 in
theorem dM_matchesCall_10 : decode bM_matchesCall 10 = .ok (.iload_n 1, 1) := by decide +kernel
set_option maxRecDepth 100000 in
theorem dM_matchesCall_11 : decode bM_matchesCall 11 = .ok (.iload_n 3, 1) := by decide +kernel
set_option maxRecDepth 100000 in
theorem dM_matchesCall_12 : decode bM_matchesCall 12 = .ok (.invokevirtual 124, 3) := by decide +kernel
set_option maxRecDepth 100000 in
theorem dM_matchesCall_15 : decode bM_matchesCall 15 = .ok (.ifCond .eq 7, 3) := by decide +kernel
set_option maxRecDepth 100000 in
theorem dM_matchesCall_18 : decode bM_matchesCall 18 = .ok (.iconst 1, 1) := by decide +kernel
set_option maxRecDepth 100000 in
theorem dM_matchesCall_19 : decode bM_matchesCall 19 = .ok (.goto 4, 3) := by decide +kernel
set_option maxRecDepth 100000 in
theorem dM_matchesCall_22 : decode bM_matchesCall 22 = .ok (.iconst 0, 1) := by decide +kernel
set_option maxRecDepth 100000 in
theorem dM_matchesCall_23 : decode bM_matchesCall 23 = .ok (.istore 5, 2) := by decide +kernel
set_option maxRecDepth 100000 in
theorem dM_matchesCall_25 : decode bM_matchesCall 25 = .ok (.iload 5, 2) := by decide +kernel
set_option maxRecDepth 100000 in
theorem dM_matchesCall_27 : decode bM_matchesCall 27 = .ok (.ifCond .eq 29, 3) := by decide +kernel
set_option maxRecDepth 100000 in
theorem dM_matchesCall_30 : decode bM_matchesCall 30 = .ok (.aload_n 0, 1) := by decide +kernel
set_option maxRecDepth 100000 in
theorem dM_matchesCall_31 : decode bM_matchesCall 31 = .ok (.getfield 7, 3) := by decide +kernel
set_option maxRecDepth 100000 in
theorem dM_matchesCall_34 : decode bM_matchesCall 34 = .ok (.iload_n 2, 1) := by decide +kernel
set_option maxRecDepth 100000 in
theorem dM_matchesCall_35 : decode bM_matchesCall 35 = .ok (.iaload, 1) := by decide +kernel
set_option maxRecDepth 100000 in
theorem dM_matchesCall_36 : decode bM_matchesCall 36 = .ok (.iconst 2, 1) := by decide +kernel
set_option maxRecDepth 100000 in
theorem dM_matchesCall_37 : decode bM_matchesCall 37 = .ok (.if_icmp .lt 15, 3) := by decide +kernel
set_option maxRecDepth 100000 in
theorem dM_matchesCall_40 : decode bM_matchesCall 40 = .ok (.aload_n 0, 1) := by decide +kernel
set_option maxRecDepth 100000 in
theorem dM_matchesCall_41 : decode bM_matchesCall 41 = .ok (.iload_n 1, 1) := by decide +kernel
set_option maxRecDepth 100000 in
theorem dM_matchesCall_42 : decode bM_matchesCall 42 = .ok (.iconst 1, 1) := by decide +kernel
set_option maxRecDepth 100000 in
theorem dM_matchesCall_43 : decode bM_matchesCall 43 = .ok (.iadd, 1) := by decide +kernel
set_option maxRecDepth 100000 in
theorem dM_matchesCall_44 : decode bM_matchesCall 44 = .ok (.iload 4, 2) := by decide +kernel
set_option maxRecDepth 100000 in
theorem dM_matchesCall_46 : decode bM_matchesCall 46 = .ok (.invokevirtual 124, 3) := by decide +kernel
set_option maxRecDepth 100000 in
theorem dM_matchesCall_49 : decode bM_matchesCall 49 = .ok (.ifCond .eq 7, 3) := by decide +kernel
set_option maxRecDepth 100000 in
theorem dM_matchesCall_52 : decode bM_matchesCall 52 = .ok (.iconst 1, 1) := by decide +kernel
set_option maxRecDepth 100000 in
theorem dM_matchesCall_53 : decode bM_matchesCall 53 = .ok (.goto 4, 3) := by decide +kernel
set_option maxRecDepth 100000 in
theorem dM_matchesCall_56 : decode bM_matchesCall 56 = .ok (.iconst 0, 1) := by decide +kernel
set_option maxRecDepth 100000 in
theorem dM_matchesCall_57 : decode bM_matchesCall 57 = .ok (.ireturn, 1) := by decide +kernel
def fM_matchesCall_52 (N : Nat) (τ : yS) : Option (Int32) :=
  some 1
def fM_matchesCall_23 (N : Nat) (τ : yS) (a1 : Int32) (a2 : Int32) (a4 : Int32) (t0 : Int32) : Option (Int32) :=
  if t0 = 0 then
  (some 0)
  else
  (if ¬ (a2 < 0 ∨ 12 ≤ a2.toNatClampNeg) then
  if (τ 31 0 a2.toNatClampNeg) < 2 then
  (fM_matchesCall_52 N τ)
  else
  (xp (fM_matches N τ (a1 + 1) a4) fun r11 =>
  if r11 = 0 then
  (some 0)
  else
  (fM_matchesCall_52 N τ))
  else none)
def fM_matchesCall_18 (N : Nat) (τ : yS) (a1 : Int32) (a2 : Int32) (a4 : Int32) : Option (Int32) :=
  fM_matchesCall_23 N τ a1 a2 a4 1
def fM_matchesCall (N : Nat) (τ : yS) (a1 : Int32) (a2 : Int32) (a3 : Int32) (a4 : Int32) : Option (Int32) :=
  if ¬ (a2 < 0 ∨ 12 ≤ a2.toNatClampNeg) then
  if (τ 31 0 a2.toNatClampNeg) = 0 then
  (fM_matchesCall_18 N τ a1 a2 a4)
  else
  (xp (fM_matches N τ a1 a3) fun r16 =>
  if r16 = 0 then
  (fM_matchesCall_23 N τ a1 a2 a4 0)
  else
  (fM_matchesCall_18 N τ a1 a2 a4))
  else none
set_option maxHeartbeats 4000000 in
set_option maxRecDepth 100000 in
theorem wM_matchesCall_52 {p : Program} {l : Launch} {e : Env} {R : Room} {s : State} {m : MethodId} {args : Array Value} {below : List Frame} {meth : Method} {c : Code} {E : xE} {A : Nat → Prop} {σ : xS} (C : xC p s m args meth c R E A bM_matchesCall 6 yM_matchesCall (some .boolean) 1 0 0) (N : Nat) (τ : yS) (res : Int32) (hf : fM_matchesCall_52 N τ = some res) (H : Heap) (locs : List Loc) (ls : Array Slot) (hw : xW E A s σ τ H locs) (hl : lv_has ls 6 []) : W p l e R s m args below meth c H locs 0 0 (MQ below (xQ E A (some (.int res)) σ τ) args s 0 0 A) (F0 m 52 ls []) := by
  have hx := C.1
  have hb := C.2.1
  unfold fM_matchesCall_52 at hf
  refine lv_iconst (v := 1) hx hb dM_matchesCall_52 (by decide) ?_
  refine lv_goto (tgt := 57) hx hb dM_matchesCall_53 (by decide) ?_
  obtain rfl := Option.some.inj hf
  exact x_zret C hw (x_nz (v := 1) (Or.inr rfl)) dM_matchesCall_57
set_option maxHeartbeats 4000000 in
set_option maxRecDepth 100000 in
theorem wM_matchesCall_23 {p : Program} {l : Launch} {e : Env} {R : Room} {s : State} {m : MethodId} {args : Array Value} {below : List Frame} {meth : Method} {c : Code} {E : xE} {A : Nat → Prop} {σ : xS} (C : xC p s m args meth c R E A bM_matchesCall 6 yM_matchesCall (some .boolean) 1 0 0) (N : Nat) (τ : yS) (a1 : Int32) (a2 : Int32) (a4 : Int32) (t0 : Int32) (res : Int32) (hf : fM_matchesCall_23 N τ a1 a2 a4 t0 = some res) (H : Heap) (locs : List Loc) (ls : Array Slot) (hw : xW E A s σ τ H locs) (hl : lv_has ls 6 [(0, .ref (E.2.2.1 30 0)), (1, .int a1), (2, .int a2), (4, .int a4)]) : W p l e R s m args below meth c H locs 0 0 (MQ below (xQ E A (some (.int res)) σ τ) args s 0 0 A) (F0 m 23 ls [.int t0]) := by
  have hx := C.1
  have hb := C.2.1
  unfold fM_matchesCall_23 at hf
  refine lv_istore (lv' := [(5, .int t0), (0, .ref (E.2.2.1 30 0)), (1, .int a1), (2, .int a2), (4, .int a4)]) hx hb dM_matchesCall_23 hl (by decide) rfl (fun ls hl => ?_)
  refine lv_iload hx hb dM_matchesCall_25 (lv_at hl 0 rfl) ?_
  refine lv_if_eq (tgt := 56) hx hb dM_matchesCall_27 (by decide) (fun c7 => ?_) (fun c7 => ?_)
  · replace hf := x_ip c7 hf
    refine lv_iconst (v := 0) hx hb dM_matchesCall_56 (by decide) ?_
    obtain rfl := Option.some.inj hf
    exact x_zret C hw (x_nz (v := 0) (Or.inl rfl)) dM_matchesCall_57
  · replace hf := x_in c7 hf
    refine lv_aload_n hx hb dM_matchesCall_30 rfl (lv_at hl 1 rfl) ?_
    refine y_get C hw 30 0 0 (v := .ref (E.2.2.1 31 0)) at_30 rfl rfl ⟨by decide, by decide⟩ wM_7 rfl dM_matchesCall_31 ?_
    refine lv_iload_n hx hb dM_matchesCall_34 rfl (lv_at hl 3 rfl) ?_
    obtain ⟨g8, hf⟩ := x_g hf
    refine y_ild C hw 31 0 at_31 rfl g8 dM_matchesCall_35 ?_
    refine lv_iconst (v := 2) hx hb dM_matchesCall_36 (by decide) ?_
    refine lv_icmp_lt (tgt := 52) hx hb dM_matchesCall_37 (by decide) (fun c9 => ?_) (fun c9 => ?_)
    · replace hf := x_ip c9 hf
      exact wM_matchesCall_52 C N τ res hf H locs ls hw (lv_sub hl [] rfl)
    · replace hf := x_in c9 hf
      refine lv_aload_n hx hb dM_matchesCall_40 rfl (lv_at hl 1 rfl) ?_
      refine lv_iload_n hx hb dM_matchesCall_41 rfl (lv_at hl 2 rfl) ?_
      refine lv_iconst (v := 1) hx hb dM_matchesCall_42 (by decide) ?_
      refine lv_iadd hx hb dM_matchesCall_43 ?_
      refine lv_iload hx hb dM_matchesCall_44 (lv_at hl 4 rfl) ?_
      obtain ⟨r11, h10, hf⟩ := x_p hf
      refine x_callV (As := [.int (a1 + 1), .int a4]) (rest := []) (st1 := [.int r11]) C hw (cM_matches l E N τ σ (a1 + 1) a4 r11 h10) kM_124 (x_recvY C hw 30 0 at_30 rfl rfl) (by decide) rfl rfl hl.1 (lv_room (Nat.le_of_ble_eq_true rfl)) dM_matchesCall_46 ⟨by decide, by decide⟩ rfl (fun H locs hw => ?_)
      refine lv_if_eq (tgt := 56) hx hb dM_matchesCall_49 (by decide) (fun c12 => ?_) (fun c12 => ?_)
      · replace hf := x_ip c12 hf
        refine lv_iconst (v := 0) hx hb dM_matchesCall_56 (by decide) ?_
        obtain rfl := Option.some.inj hf
        exact x_zret C hw (x_nz (v := 0) (Or.inl rfl)) dM_matchesCall_57
      · replace hf := x_in c12 hf
        exact wM_matchesCall_52 C N τ res hf H locs ls hw (lv_sub hl [] rfl)
set_option maxHeartbeats 4000000 in
set_option maxRecDepth 100000 in
theorem wM_matchesCall_18 {p : Program} {l : Launch} {e : Env} {R : Room} {s : State} {m : MethodId} {args : Array Value} {below : List Frame} {meth : Method} {c : Code} {E : xE} {A : Nat → Prop} {σ : xS} (C : xC p s m args meth c R E A bM_matchesCall 6 yM_matchesCall (some .boolean) 1 0 0) (N : Nat) (τ : yS) (a1 : Int32) (a2 : Int32) (a4 : Int32) (res : Int32) (hf : fM_matchesCall_18 N τ a1 a2 a4 = some res) (H : Heap) (locs : List Loc) (ls : Array Slot) (hw : xW E A s σ τ H locs) (hl : lv_has ls 6 [(0, .ref (E.2.2.1 30 0)), (1, .int a1), (2, .int a2), (4, .int a4)]) : W p l e R s m args below meth c H locs 0 0 (MQ below (xQ E A (some (.int res)) σ τ) args s 0 0 A) (F0 m 18 ls []) := by
  have hx := C.1
  have hb := C.2.1
  unfold fM_matchesCall_18 at hf
  refine lv_iconst (v := 1) hx hb dM_matchesCall_18 (by decide) ?_
  refine lv_goto (tgt := 23) hx hb dM_matchesCall_19 (by decide) ?_
  exact wM_matchesCall_23 C N τ a1 a2 a4 1 res hf H locs ls hw (lv_sub hl [0, 1, 2, 3] rfl)
set_option maxHeartbeats 4000000 in
set_option maxRecDepth 100000 in
theorem cM_matchesCall (l : Launch) (E : xE) (N : Nat) (τ : yS) (σ : xS) (a1 : Int32) (a2 : Int32) (a3 : Int32) (a4 : Int32) (res : Int32) (hf : fM_matchesCall N τ a1 a2 a3 a4 = some res) : xM l E yM_matchesCall bM_matchesCall 6 (some .boolean) 1 0 0 [.ref (E.2.2.1 30 0), .int a1, .int a2, .int a3, .int a4] σ τ (some (.int res)) σ τ := by
  refine x_met (by decide) (Nat.le_of_ble_eq_true rfl) (fun p e R s m args below meth c A ls H locs C hw hl => ?_)
  have hl : lv_has ls 6 [(0, .ref (E.2.2.1 30 0)), (1, .int a1), (2, .int a2), (3, .int a3), (4, .int a4)] := hl
  have hx := C.1
  have hb := C.2.1
  unfold fM_matchesCall at hf
  refine lv_aload_n hx hb dM_matchesCall_0 rfl (lv_at hl 0 rfl) ?_
  refine y_get C hw 30 0 0 (v := .ref (E.2.2.1 31 0)) at_30 rfl rfl ⟨by decide, by decide⟩ wM_7 rfl dM_matchesCall_1 ?_
  refine lv_iload_n hx hb dM_matchesCall_4 rfl (lv_at hl 2 rfl) ?_
  obtain ⟨g13, hf⟩ := x_g hf
  refine y_ild C hw 31 0 at_31 rfl g13 dM_matchesCall_5 ?_
  refine lv_if_eq (tgt := 18) hx hb dM_matchesCall_6 (by decide) (fun c14 => ?_) (fun c14 => ?_)
  · replace hf := x_ip c14 hf
    exact wM_matchesCall_18 C N τ a1 a2 a4 res hf H locs ls hw (lv_sub hl [0, 1, 2, 4] rfl)
  · replace hf := x_in c14 hf
    refine lv_aload_n hx hb dM_matchesCall_9 rfl (lv_at hl 0 rfl) ?_
    refine lv_iload_n hx hb dM_matchesCall_10 rfl (lv_at hl 1 rfl) ?_
    refine lv_iload_n hx hb dM_matchesCall_11 rfl (lv_at hl 3 rfl) ?_
    obtain ⟨r16, h15, hf⟩ := x_p hf
    refine x_callV (As := [.int a1, .int a3]) (rest := []) (st1 := [.int r16]) C hw (cM_matches l E N τ σ a1 a3 r16 h15) kM_124 (x_recvY C hw 30 0 at_30 rfl rfl) (by decide) rfl rfl hl.1 (lv_room (Nat.le_of_ble_eq_true rfl)) dM_matchesCall_12 ⟨by decide, by decide⟩ rfl (fun H locs hw => ?_)
    refine lv_if_eq (tgt := 22) hx hb dM_matchesCall_15 (by decide) (fun c17 => ?_) (fun c17 => ?_)
    · replace hf := x_ip c17 hf
      refine lv_iconst (v := 0) hx hb dM_matchesCall_22 (by decide) ?_
      exact wM_matchesCall_23 C N τ a1 a2 a4 0 res hf H locs ls hw (lv_sub hl [0, 1, 2, 4] rfl)
    · replace hf := x_in c17 hf
      exact wM_matchesCall_18 C N τ a1 a2 a4 res hf H locs ls hw (lv_sub hl [0, 1, 2, 4] rfl)
-- StandInsModel real (III)I
set_option maxRecDepth 100000 in
theorem dM_real_0 : decode bM_real 0 = .ok (.bipush 7, 2) := by decide +kernel
set_option maxRecDepth 100000 in
theorem dM_real_2 : decode bM_real 2 = .ok (.iload_n 1, 1) := by decide +kernel
set_option maxRecDepth 100000 in
theorem dM_real_3 : decode bM_real 3 = .ok (.imul, 1) := by decide +kernel
set_option maxRecDepth 100000 in
theorem dM_real_4 : decode bM_real 4 = .ok (.iconst 3, 1) := by decide +kernel
set_option maxRecDepth 100000 in
theorem dM_real_5 : decode bM_real 5 = .ok (.iload_n 2, 1) := by decide +kernel
set_option maxRecDepth 100000 in
theorem dM_real_6 : decode bM_real 6 = .ok (.imul, 1) := by decide +kernel
set_option maxRecDepth 100000 in
theorem dM_real_7 : decode bM_real 7 = .ok (.iadd, 1) := by decide +kernel
set_option maxRecDepth 100000 in
theorem dM_real_8 : decode bM_real 8 = .ok (.iload_n 3, 1) := by decide +kernel
set_option maxRecDepth 100000 in
theorem dM_real_9 : decode bM_real 9 = .ok (.isub, 1) := by decide +kernel
set_option maxRecDepth 100000 in
theorem dM_real_10 : decode bM_real 10 = .ok (.ireturn, 1) := by decide +kernel
def fM_real (a1 : Int32) (a2 : Int32) (a3 : Int32) : Int32 :=
  ((7 * a1) + (3 * a2)) - a3
set_option maxHeartbeats 4000000 in
set_option maxRecDepth 100000 in
theorem cM_real (l : Launch) (E : xE) (τ : yS) (σ : xS) (a1 : Int32) (a2 : Int32) (a3 : Int32) : xM l E yM_real bM_real 4 (some .int) 0 0 0 [.ref (E.2.2.1 30 0), .int a1, .int a2, .int a3] σ τ (some (.int (fM_real a1 a2 a3))) σ τ := by
  refine x_met (by decide) (Nat.le_of_ble_eq_true rfl) (fun p e R s m args below meth c A ls H locs C hw hl => ?_)
  have hl : lv_has ls 4 [(0, .ref (E.2.2.1 30 0)), (1, .int a1), (2, .int a2), (3, .int a3)] := hl
  have hx := C.1
  have hb := C.2.1
  obtain ⟨res, hf⟩ : ∃ z, fM_real a1 a2 a3 = z := ⟨_, rfl⟩
  rw [hf]
  unfold fM_real at hf
  refine lv_bipush (v := 7) hx hb dM_real_0 (by decide) ?_
  refine lv_iload_n hx hb dM_real_2 rfl (lv_at hl 1 rfl) ?_
  refine lv_imul hx hb dM_real_3 ?_
  refine lv_iconst (v := 3) hx hb dM_real_4 (by decide) ?_
  refine lv_iload_n hx hb dM_real_5 rfl (lv_at hl 2 rfl) ?_
  refine lv_imul hx hb dM_real_6 ?_
  refine lv_iadd hx hb dM_real_7 ?_
  refine lv_iload_n hx hb dM_real_8 rfl (lv_at hl 3 rfl) ?_
  refine lv_isub hx hb dM_real_9 ?_
  obtain rfl := hf
  exact x_iret C hw dM_real_10
-- StandInsModel keep (III)V
set_option maxRecDepth 100000 in
theorem dM_keep_0 : decode bM_keep 0 = .ok (.iconst 0, 1) := by decide +kernel
set_option maxRecDepth 100000 in
theorem dM_keep_1 : decode bM_keep 1 = .ok (.istore 4, 2) := by decide +kernel
set_option maxRecDepth 100000 in
theorem dM_keep_3 : decode bM_keep 3 = .ok (.iload 4, 2) := by decide +kernel
set_option maxRecDepth 100000 in
theorem dM_keep_5 : decode bM_keep 5 = .ok (.iload_n 3, 1) := by decide +kernel
set_option maxRecDepth 100000 in
theorem dM_keep_6 : decode bM_keep 6 = .ok (.if_icmp .ge 40, 3) := by decide +kernel
set_option maxRecDepth 100000 in
theorem dM_keep_9 : decode bM_keep 9 = .ok (.aload_n 0, 1) := by decide +kernel
set_option maxRecDepth 100000 in
theorem dM_keep_10 : decode bM_keep 10 = .ok (.getfield 23, 3) := by decide +kernel
set_option maxRecDepth 100000 in
theorem dM_keep_13 : decode bM_keep 13 = .ok (.iload_n 2, 1) := by decide +kernel
set_option maxRecDepth 100000 in
theorem dM_keep_14 : decode bM_keep 14 = .ok (.iload 4, 2) := by decide +kernel
set_option maxRecDepth 100000 in
theorem dM_keep_16 : decode bM_keep 16 = .ok (.iadd, 1) := by decide +kernel
set_option maxRecDepth 100000 in
theorem dM_keep_17 : decode bM_keep 17 = .ok (.aload_n 0, 1) := by decide +kernel
set_option maxRecDepth 100000 in
theorem dM_keep_18 : decode bM_keep 18 = .ok (.getfield 23, 3) := by decide +kernel
set_option maxRecDepth 100000 in
theorem dM_keep_21 : decode bM_keep 21 = .ok (.iload_n 1, 1) := by decide +kernel
set_option maxRecDepth 100000 in
theorem dM_keep_22 : decode bM_keep 22 = .ok (.iload 4, 2) := by decide +kernel
set_option maxRecDepth 100000 in
theorem dM_keep_24 : decode bM_keep 24 = .ok (.iadd, 1) := by decide +kernel
set_option maxRecDepth 100000 in
theorem dM_keep_25 : decode bM_keep 25 = .ok (.iaload, 1) := by decide +kernel
set_option maxRecDepth 100000 in
theorem dM_keep_26 : decode bM_keep 26 = .ok (.iastore, 1) := by decide +kernel
set_option maxRecDepth 100000 in
theorem dM_keep_27 : decode bM_keep 27 = .ok (.aload_n 0, 1) := by decide +kernel
set_option maxRecDepth 100000 in
theorem dM_keep_28 : decode bM_keep 28 = .ok (.iload_n 1, 1) := by decide +kernel
set_option maxRecDepth 100000 in
theorem dM_keep_29 : decode bM_keep 29 = .ok (.iload 4, 2) := by decide +kernel
set_option maxRecDepth 100000 in
theorem dM_keep_31 : decode bM_keep 31 = .ok (.iadd, 1) := by decide +kernel
set_option maxRecDepth 100000 in
theorem dM_keep_32 : decode bM_keep 32 = .ok (.iload_n 2, 1) := by decide +kernel
set_option maxRecDepth 100000 in
theorem dM_keep_33 : decode bM_keep 33 = .ok (.iload 4, 2) := by decide +kernel
set_option maxRecDepth 100000 in
theorem dM_keep_35 : decode bM_keep 35 = .ok (.iadd, 1) := by decide +kernel
set_option maxRecDepth 100000 in
theorem dM_keep_36 : decode bM_keep 36 = .ok (.iconst 0, 1) := by decide +kernel
set_option maxRecDepth 100000 in
theorem dM_keep_37 : decode bM_keep 37 = .ok (.invokevirtual 121, 3) := by decide +kernel
set_option maxRecDepth 100000 in
theorem dM_keep_40 : decode bM_keep 40 = .ok (.iinc 4 1, 3) := by decide +kernel
set_option maxRecDepth 100000 in
theorem dM_keep_43 : decode bM_keep 43 = .ok (.goto (-40), 3) := by decide +kernel
set_option maxRecDepth 100000 in
theorem dM_keep_46 : decode bM_keep 46 = .ok (.return_, 1) := by decide +kernel
def fM_keep_3b (N : Nat) (rec3 : yS → Int32 → Int32 → Int32 → Int32 → Option (yS)) (τ : yS) (a1 : Int32) (a2 : Int32) (a3 : Int32) (a4 : Int32) : Option (yS) :=
  if a3 ≤ a4 then
  (some τ)
  else
  (if ¬ ((a1 + a4) < 0 ∨ 120 ≤ (a1 + a4).toNatClampNeg) then
  if ¬ ((a2 + a4) < 0 ∨ 120 ≤ (a2 + a4).toNatClampNeg) then
  xl (y_si τ 35 0 ((a2 + a4).toNatClampNeg) (τ 35 0 ((a1 + a4).toNatClampNeg))) fun s10 =>
  xp (fM_copy N s10 (a1 + a4) (a2 + a4) 0) fun s12 =>
  rec3 s12 a1 a2 a3 (a4 + 1)
  else none
  else none)
def fM_keep_3 (N : Nat) : Nat → yS → Int32 → Int32 → Int32 → Int32 → Option (yS)
  | 0, _, _, _, _, _ => none
  | n + 1, τ, a1, a2, a3, a4 => fM_keep_3b N (fM_keep_3 N n) τ a1 a2 a3 a4
def fM_keep (N : Nat) (τ : yS) (a1 : Int32) (a2 : Int32) (a3 : Int32) : Option (yS) :=
  fM_keep_3 N N τ a1 a2 a3 0
set_option maxHeartbeats 4000000 in
set_option maxRecDepth 100000 in
theorem wM_keep_3b {p : Program} {l : Launch} {e : Env} {R : Room} {s : State} {m : MethodId} {args : Array Value} {below : List Frame} {meth : Method} {c : Code} {E : xE} {A : Nat → Prop} {σ : xS} (C : xC p s m args meth c R E A bM_keep 5 yM_keep none 1 0 0) (N : Nat) (τ : yS) (rec3 : yS → Int32 → Int32 → Int32 → Int32 → Option (yS)) (hrec3 : ∀ (τ : yS) (a1 : Int32) (a2 : Int32) (a3 : Int32) (a4 : Int32) (res : yS), rec3 τ a1 a2 a3 a4 = some res → ∀ (H : Heap) (locs : List Loc) (ls : Array Slot), xW E A s σ τ H locs → lv_has ls 5 [(0, .ref (E.2.2.1 30 0)), (1, .int a1), (2, .int a2), (3, .int a3), (4, .int a4)] → W p l e R s m args below meth c H locs 0 0 (MQ below (xQ E A none σ res) args s 0 0 A) (F0 m 3 ls [])) (a1 : Int32) (a2 : Int32) (a3 : Int32) (a4 : Int32) (res : yS) (hf : fM_keep_3b N rec3 τ a1 a2 a3 a4 = some res) (H : Heap) (locs : List Loc) (ls : Array Slot) (hw : xW E A s σ τ H locs) (hl : lv_has ls 5 [(0, .ref (E.2.2.1 30 0)), (1, .int a1), (2, .int a2), (3, .int a3), (4, .int a4)]) : W p l e R s m args below meth c H locs 0 0 (MQ below (xQ E A none σ res) args s 0 0 A) (F0 m 3 ls []) := by
  have hx := C.1
  have hb := C.2.1
  unfold fM_keep_3b at hf
  refine lv_iload hx hb dM_keep_3 (lv_at hl 4 rfl) ?_
  refine lv_iload_n hx hb dM_keep_5 rfl (lv_at hl 3 rfl) ?_
  refine lv_icmp_ge (tgt := 46) hx hb dM_keep_6 (by decide) (fun c7 => ?_) (fun c7 => ?_)
  · replace hf := x_ip c7 hf
    obtain rfl := Option.some.inj hf
    exact x_vret C hw dM_keep_46
  · replace hf := x_in c7 hf
    refine lv_aload_n hx hb dM_keep_9 rfl (lv_at hl 0 rfl) ?_
    refine y_get C hw 30 0 5 (v := .ref (E.2.2.1 35 0)) at_30 rfl rfl ⟨by decide, by decide⟩ wM_23 rfl dM_keep_10 ?_
    refine lv_iload_n hx hb dM_keep_13 rfl (lv_at hl 2 rfl) ?_
    refine lv_iload hx hb dM_keep_14 (lv_at hl 4 rfl) ?_
    refine lv_iadd hx hb dM_keep_16 ?_
    refine lv_aload_n hx hb dM_keep_17 rfl (lv_at hl 0 rfl) ?_
    refine y_get C hw 30 0 5 (v := .ref (E.2.2.1 35 0)) at_30 rfl rfl ⟨by decide, by decide⟩ wM_23 rfl dM_keep_18 ?_
    refine lv_iload_n hx hb dM_keep_21 rfl (lv_at hl 1 rfl) ?_
    refine lv_iload hx hb dM_keep_22 (lv_at hl 4 rfl) ?_
    refine lv_iadd hx hb dM_keep_24 ?_
    obtain ⟨g8, hf⟩ := x_g hf
    refine y_ild C hw 35 0 at_35 rfl g8 dM_keep_25 ?_
    obtain ⟨g9, hf⟩ := x_g hf
    refine y_ist C hw 35 0 at_35 rfl rfl g9 dM_keep_26 (fun H locs hw => ?_)
    obtain ⟨s10, es10, hf⟩ := x_l hf
    rw [← es10] at hw
    refine lv_aload_n hx hb dM_keep_27 rfl (lv_at hl 0 rfl) ?_
    refine lv_iload_n hx hb dM_keep_28 rfl (lv_at hl 1 rfl) ?_
    refine lv_iload hx hb dM_keep_29 (lv_at hl 4 rfl) ?_
    refine lv_iadd hx hb dM_keep_31 ?_
    refine lv_iload_n hx hb dM_keep_32 rfl (lv_at hl 2 rfl) ?_
    refine lv_iload hx hb dM_keep_33 (lv_at hl 4 rfl) ?_
    refine lv_iadd hx hb dM_keep_35 ?_
    refine lv_iconst (v := 0) hx hb dM_keep_36 (by decide) ?_
    obtain ⟨s12, h11, hf⟩ := x_p hf
    refine x_callV (As := [.int (a1 + a4), .int (a2 + a4), .int 0]) (rest := []) (st1 := []) C hw (cM_copy l E N s10 σ (a1 + a4) (a2 + a4) 0 s12 h11) kM_121 (x_recvY C hw 30 0 at_30 rfl rfl) (by decide) rfl rfl hl.1 (lv_room (Nat.le_of_ble_eq_true rfl)) dM_keep_37 ⟨by decide, by decide⟩ rfl (fun H locs hw => ?_)
    refine lv_iinc (v := a4 + 1) (lv' := [(4, .int (a4 + 1)), (0, .ref (E.2.2.1 30 0)), (1, .int a1), (2, .int a2), (3, .int a3)]) hx hb dM_keep_40 hl (k := 4) rfl rfl (by decide) rfl (fun ls hl => ?_)
    refine lv_goto (tgt := 3) hx hb dM_keep_43 (by decide) ?_
    exact hrec3 s12 a1 a2 a3 (a4 + 1) res hf H locs ls hw (lv_sub hl [1, 2, 3, 4, 0] rfl)
set_option maxHeartbeats 4000000 in
set_option maxRecDepth 100000 in
theorem wM_keep_3 {p : Program} {l : Launch} {e : Env} {R : Room} {s : State} {m : MethodId} {args : Array Value} {below : List Frame} {meth : Method} {c : Code} {E : xE} {A : Nat → Prop} {σ : xS} (C : xC p s m args meth c R E A bM_keep 5 yM_keep none 1 0 0) (N : Nat) (n : Nat) : ∀ (τ : yS) (a1 : Int32) (a2 : Int32) (a3 : Int32) (a4 : Int32) (res : yS), fM_keep_3 N n τ a1 a2 a3 a4 = some res → ∀ (H : Heap) (locs : List Loc) (ls : Array Slot), xW E A s σ τ H locs → lv_has ls 5 [(0, .ref (E.2.2.1 30 0)), (1, .int a1), (2, .int a2), (3, .int a3), (4, .int a4)] → W p l e R s m args below meth c H locs 0 0 (MQ below (xQ E A none σ res) args s 0 0 A) (F0 m 3 ls []) := by
  induction n with
  | zero => intro τ a1 a2 a3 a4 res hf; cases hf
  | succ n ih =>
    intro τ a1 a2 a3 a4 res hf H locs ls hw hl
    exact wM_keep_3b C N τ (fM_keep_3 N n) ih a1 a2 a3 a4 res hf H locs ls hw hl
set_option maxHeartbeats 4000000 in
set_option maxRecDepth 100000 in
theorem cM_keep (l : Launch) (E : xE) (N : Nat) (τ : yS) (σ : xS) (a1 : Int32) (a2 : Int32) (a3 : Int32) (res : yS) (hf : fM_keep N τ a1 a2 a3 = some res) : xM l E yM_keep bM_keep 5 none 1 0 0 [.ref (E.2.2.1 30 0), .int a1, .int a2, .int a3] σ τ none σ res := by
  refine x_met (by decide) (Nat.le_of_ble_eq_true rfl) (fun p e R s m args below meth c A ls H locs C hw hl => ?_)
  have hl : lv_has ls 5 [(0, .ref (E.2.2.1 30 0)), (1, .int a1), (2, .int a2), (3, .int a3)] := hl
  have hx := C.1
  have hb := C.2.1
  unfold fM_keep at hf
  refine lv_iconst (v := 0) hx hb dM_keep_0 (by decide) ?_
  refine lv_istore (lv' := [(4, .int 0), (0, .ref (E.2.2.1 30 0)), (1, .int a1), (2, .int a2), (3, .int a3)]) hx hb dM_keep_1 hl (by decide) rfl (fun ls hl => ?_)
  exact wM_keep_3 C N N τ a1 a2 a3 0 res hf H locs ls hw (lv_sub hl [1, 2, 3, 4, 0] rfl)
-- StandInsModel tell (III)V
set_option maxRecDepth 100000 in
theorem dM_tell_0 : decode bM_tell 0 = .ok (.aload_n 0, 1) := by decide +kernel
set_option maxRecDepth 100000 in
theorem dM_tell_1 : decode bM_tell 1 = .ok (.getfield 93, 3) := by decide +kernel
set_option maxRecDepth 100000 in
theorem dM_tell_4 : decode bM_tell 4 = .ok (.istore 4, 2) := by decide +kernel
set_option maxRecDepth 100000 in
theorem dM_tell_6 : decode bM_tell 6 = .ok (.aload_n 0, 1) := by decide +kernel
set_option maxRecDepth 100000 in
theorem dM_tell_7 : decode bM_tell 7 = .ok (.dup, 1) := by decide +kernel
set_option maxRecDepth 100000 in
theorem dM_tell_8 : decode bM_tell 8 = .ok (.getfield 93, 3) := by decide +kernel
set_option maxRecDepth 100000 in
theorem dM_tell_11 : decode bM_tell 11 = .ok (.iconst 1, 1) := by decide +kernel
set_option maxRecDepth 100000 in
theorem dM_tell_12 : decode bM_tell 12 = .ok (.iadd, 1) := by decide +kernel
set_option maxRecDepth 100000 in
theorem dM_tell_13 : decode bM_tell 13 = .ok (.putfield 93, 3) := by decide +kernel
set_option maxRecDepth 100000 in
theorem dM_tell_16 : decode bM_tell 16 = .ok (.aload_n 0, 1) := by decide +kernel
set_option maxRecDepth 100000 in
theorem dM_tell_17 : decode bM_tell 17 = .ok (.getfield 53, 3) := by decide +kernel
set_option maxRecDepth 100000 in
theorem dM_tell_20 : decode bM_tell 20 = .ok (.iload 4, 2) := by decide +kernel
set_option maxRecDepth 100000 in
theorem dM_tell_22 : decode bM_tell 22 = .ok (.iload_n 1, 1) := by decide +kernel
set_option maxRecDepth 100000 in
theorem dM_tell_23 : decode bM_tell 23 = .ok (.iastore, 1) := by decide +kernel
set_option maxRecDepth 100000 in
theorem dM_tell_24 : decode bM_tell 24 = .ok (.aload_n 0, 1) := by decide +kernel
set_option maxRecDepth 100000 in
theorem dM_tell_25 : decode bM_tell 25 = .ok (.getfield 56, 3) := by decide +kernel
set_option maxRecDepth 100000 in
theorem dM_tell_28 : decode bM_tell 28 = .ok (.iload 4, 2) := by decide +kernel
set_option maxRecDepth 100000 in
theorem dM_tell_30 : decode bM_tell 30 = .ok (.iload_n 2, 1) := by decide +kernel
set_option maxRecDepth 100000 in
theorem dM_tell_31 : decode bM_tell 31 = .ok (.iastore, 1) := by decide +kernel
set_option maxRecDepth 100000 in
theorem dM_tell_32 : decode bM_tell 32 = .ok (.aload_n 0, 1) := by decide +kernel
set_option maxRecDepth 100000 in
theorem dM_tell_33 : decode bM_tell 33 = .ok (.getfield 62, 3) := by decide +kernel
set_option maxRecDepth 100000 in
theorem dM_tell_36 : decode bM_tell 36 = .ok (.iload 4, 2) := by decide +kernel
set_option maxRecDepth 100000 in
theorem dM_tell_38 : decode bM_tell 38 = .ok (.iconst 0, 1) := by decide +kernel
set_option maxRecDepth 100000 in
theorem dM_tell_39 : decode bM_tell 39 = .ok (.iastore, 1) := by decide +kernel
set_option maxRecDepth 100000 in
theorem dM_tell_40 : decode bM_tell 40 = .ok (.aload_n 0, 1) := by decide +kernel
set_option maxRecDepth 100000 in
theorem dM_tell_41 : decode bM_tell 41 = .ok (.getfield 7, 3) := by decide +kernel
set_option maxRecDepth 100000 in
theorem dM_tell_44 : decode bM_tell 44 = .ok (.aload_n 0, 1) := by decide +kernel
set_option maxRecDepth 100000 in
theorem dM_tell_45 : decode bM_tell 45 = .ok (.iload_n 1, 1) := by decide +kernel
set_option maxRecDepth 100000 in
theorem dM_tell_46 : decode bM_tell 46 = .ok (.iload_n 2, 1) := by decide +kernel
set_option maxRecDepth 100000 in
theorem dM_tell_47 : decode bM_tell 47 = .ok (.invokevirtual 135, 3) := by decide +kernel
set_option maxRecDepth 100000 in
theorem dM_tell_50 : decode bM_tell 50 = .ok (.iaload, 1) := by decide +kernel
set_option maxRecDepth 100000 in
theorem dM_tell_51 : decode bM_tell 51 = .ok (.istore 5, 2) := by decide +kernel
set_option maxRecDepth 100000 in
theorem dM_tell_53 : decode bM_tell 53 = .ok (.aload_n 0, 1) := by decide +kernel
set_option maxRecDepth 100000 in
theorem dM_tell_54 : decode bM_tell 54 = .ok (.iload_n 3, 1) := by decide +kernel
set_option maxRecDepth 100000 in
theorem dM_tell_55 : decode bM_tell 55 = .ok (.bipush 88, 2) := by decide +kernel
set_option maxRecDepth 100000 in
theorem dM_tell_57 : decode bM_tell 57 = .ok (.iconst 2, 1) := by decide +kernel
set_option maxRecDepth 100000 in
theorem dM_tell_58 : decode bM_tell 58 = .ok (.iload 4, 2) := by decide +kernel
set_option maxRecDepth 100000 in
theorem dM_tell_60 : decode bM_tell 60 = .ok (.imul, 1) := by decide +kernel
set_option maxRecDepth 100000 in
theorem dM_tell_61 : decode bM_tell 61 = .ok (.iadd, 1) := by decide +kernel
set_option maxRecDepth 100000 in
theorem dM_tell_62 : decode bM_tell 62 = .ok (.iload 5, 2) := by decide +kernel
set_option maxRecDepth 100000 in
theorem dM_tell_64 : decode bM_tell 64 = .ok (.invokevirtual 162, 3) := by decide +kernel
set_option maxRecDepth 100000 in
theorem dM_tell_67 : decode bM_tell 67 = .ok (.aload_n 0, 1) := by decide +kernel
set_option maxRecDepth 100000 in
theorem dM_tell_68 : decode bM_tell 68 = .ok (.getfield 59, 3) := by decide +kernel
set_option maxRecDepth 100000 in
theorem dM_tell_71 : decode bM_tell 71 = .ok (.iload 4, 2) := by decide +kernel
set_option maxRecDepth 100000 in
theorem dM_tell_73 : decode bM_tell 73 = .ok (.iconst 0, 1) := by decide +kernel
set_option maxRecDepth 100000 in
theorem dM_tell_74 : decode bM_tell 74 = .ok (.iastore, 1) := by decide +kernel
set_option maxRecDepth 100000 in
theorem dM_tell_75 : decode bM_tell 75 = .ok (.iload_n 3, 1) := by decide +kernel
set_option maxRecDepth 100000 in
theorem dM_tell_76 : decode bM_tell 76 = .ok (.bipush 6, 2) := by decide +kernel
set_option maxRecDepth 100000 in
theorem dM_tell_78 : decode bM_tell 78 = .ok (.if_icmp .eq 4, 3) := by decide +kernel
set_option maxRecDepth 100000 in
theorem dM_tell_81 : decode bM_tell 81 = .ok (.return_, 1) := by decide +kernel
set_option maxRecDepth 100000 in
theorem dM_tell_82 : decode bM_tell 82 = .ok (.aload_n 0, 1) := by decide +kernel
set_option maxRecDepth 100000 in
theorem dM_tell_83 : decode bM_tell 83 = .ok (.getfield 59, 3) := by decide +kernel
set_option maxRecDepth 100000 in
theorem dM_tell_86 : decode bM_tell 86 = .ok (.iload 4, 2) := by decide +kernel
set_option maxRecDepth 100000 in
theorem dM_tell_88 : decode bM_tell 88 = .ok (.aload_n 0, 1) := by decide +kernel
set_option maxRecDepth 100000 in
theorem dM_tell_89 : decode bM_tell 89 = .ok (.getfield 59, 3) := by decide +kernel
set_option maxRecDepth 100000 in
theorem dM_tell_92 : decode bM_tell 92 = .ok (.bipush 16, 2) := by decide +kernel
set_option maxRecDepth 100000 in
theorem dM_tell_94 : decode bM_tell 94 = .ok (.iaload, 1) := by decide +kernel
set_option maxRecDepth 100000 in
theorem dM_tell_95 : decode bM_tell 95 = .ok (.iastore, 1) := by decide +kernel
set_option maxRecDepth 100000 in
theorem dM_tell_96 : decode bM_tell 96 = .ok (.iconst 0, 1) := by decide +kernel
set_option maxRecDepth 100000 in
theorem dM_tell_97 : decode bM_tell 97 = .ok (.istore 6, 2) := by decide +kernel
set_option maxRecDepth 100000 in
theorem dM_tell_99 : decode bM_tell 99 = .ok (.iload 6, 2) := by decide +kernel
set_option maxRecDepth 100000 in
theorem dM_tell_101 : decode bM_tell 101 = .ok (.aload_n 0, 1) := by decide +kernel
set_option maxRecDepth 100000 in
theorem dM_tell_102 : decode bM_tell 102 = .ok (.getfield 59, 3) := by decide +kernel
set_option maxRecDepth 100000 in
theorem dM_tell_105 : decode bM_tell 105 = .ok (.bipush 16, 2) := by decide +kernel
set_option maxRecDepth 100000 in
theorem dM_tell_107 : decode bM_tell 107 = .ok (.iaload, 1) := by decide +kernel
set_option maxRecDepth 100000 in
theorem dM_tell_108 : decode bM_tell 108 = .ok (.if_icmp .ge 53, 3) := by decide +kernel
set_option maxRecDepth 100000 in
theorem dM_tell_111 : decode bM_tell 111 = .ok (.aload_n 0, 1) := by decide +kernel
set_option maxRecDepth 100000 in
theorem dM_tell_112 : decode bM_tell 112 = .ok (.getfield 65, 3) := by decide +kernel
set_option maxRecDepth 100000 in
theorem dM_tell_115 : decode bM_tell 115 = .ok (.iconst 4, 1) := by decide +kernel
set_option maxRecDepth 100000 in
theorem dM_tell_116 : decode bM_tell 116 = .ok (.iload 4, 2) := by decide +kernel
set_option maxRecDepth 100000 in
theorem dM_tell_118 : decode bM_tell 118 = .ok (.imul, 1) := by decide +kernel
set_option maxRecDepth 100000 in
theorem dM_tell_119 : decode bM_tell 119 = .ok (.iload 6, 2) := by decide +kernel
set_option maxRecDepth 100000 in
theorem dM_tell_121 : decode bM_tell 121 = .ok (.iadd, 1) := by decide +kernel
set_option maxRecDepth 100000 in
theorem dM_tell_122 : decode bM_tell 122 = .ok (.aload_n 0, 1) := by decide +kernel
set_option maxRecDepth 100000 in
theorem dM_tell_123 : decode bM_tell 123 = .ok (.getfield 65, 3) := by decide +kernel
set_option maxRecDepth 100000 in
theorem dM_tell_126 : decode bM_tell 126 = .ok (.bipush 64, 2) := by decide +kernel
set_option maxRecDepth 100000 in
theorem dM_tell_128 : decode bM_tell 128 = .ok (.iload 6, 2) := by decide +kernel
set_option maxRecDepth 100000 in
theorem dM_tell_130 : decode bM_tell 130 = .ok (.iadd, 1) := by decide +kernel
set_option maxRecDepth 100000 in
theorem dM_tell_131 : decode bM_tell 131 = .ok (.iaload, 1) := by decide +kernel
set_option maxRecDepth 100000 in
theorem dM_tell_132 : decode bM_tell 132 = .ok (.iastore, 1) := by decide +kernel
set_option maxRecDepth 100000 in
theorem dM_tell_133 : decode bM_tell 133 = .ok (.aload_n 0, 1) := by decide +kernel
set_option maxRecDepth 100000 in
theorem dM_tell_134 : decode bM_tell 134 = .ok (.getfield 68, 3) := by decide +kernel
set_option maxRecDepth 100000 in
theorem dM_tell_137 : decode bM_tell 137 = .ok (.iconst 4, 1) := by decide +kernel
set_option maxRecDepth 100000 in
theorem dM_tell_138 : decode bM_tell 138 = .ok (.iload 4, 2) := by decide +kernel
set_option maxRecDepth 100000 in
theorem dM_tell_140 : decode bM_tell 140 = .ok (.imul, 1) := by decide +kernel
set_option maxRecDepth 100000 in
theorem dM_tell_141 : decode bM_tell 141 = .ok (.iload 6, 2) := by decide +kernel
set_option maxRecDepth 100000 in
theorem dM_tell_143 : decode bM_tell 143 = .ok (.iadd, 1) := by decide +kernel
set_option maxRecDepth 100000 in
theorem dM_tell_144 : decode bM_tell 144 = .ok (.aload_n 0, 1) := by decide +kernel
set_option maxRecDepth 100000 in
theorem dM_tell_145 : decode bM_tell 145 = .ok (.getfield 68, 3) := by decide +kernel
set_option maxRecDepth 100000 in
theorem dM_tell_148 : decode bM_tell 148 = .ok (.bipush 64, 2) := by decide +kernel
set_option maxRecDepth 100000 in
theorem dM_tell_150 : decode bM_tell 150 = .ok (.iload 6, 2) := by decide +kernel
set_option maxRecDepth 100000 in
theorem dM_tell_152 : decode bM_tell 152 = .ok (.iadd, 1) := by decide +kernel
set_option maxRecDepth 100000 in
theorem dM_tell_153 : decode bM_tell 153 = .ok (.iaload, 1) := by decide +kernel
set_option maxRecDepth 100000 in
theorem dM_tell_154 : decode bM_tell 154 = .ok (.iastore, 1) := by decide +kernel
set_option maxRecDepth 100000 in
theorem dM_tell_155 : decode bM_tell 155 = .ok (.iinc 6 1, 3) := by decide +kernel
set_option maxRecDepth 100000 in
theorem dM_tell_158 : decode bM_tell 158 = .ok (.goto (-59), 3) := by decide +kernel
set_option maxRecDepth 100000 in
theorem dM_tell_161 : decode bM_tell 161 = .ok (.aload_n 0, 1) := by decide +kernel
set_option maxRecDepth 100000 in
theorem dM_tell_162 : decode bM_tell 162 = .ok (.getfield 59, 3) := by decide +kernel
set_option maxRecDepth 100000 in
theorem dM_tell_165 : decode bM_tell 165 = .ok (.bipush 16, 2) := by decide +kernel
set_option maxRecDepth 100000 in
theorem dM_tell_167 : decode bM_tell 167 = .ok (.iconst 0, 1) := by decide +kernel
set_option maxRecDepth 100000 in
theorem dM_tell_168 : decode bM_tell 168 = .ok (.iastore, 1) := by decide +kernel
set_option maxRecDepth 100000 in
theorem dM_tell_169 : decode bM_tell 169 = .ok (.return_, 1) := by decide +kernel
def fM_tell_99b (N : Nat) (rec99 : yS → Int32 → Int32 → Option (yS)) (τ : yS) (a4 : Int32) (a6 : Int32) : Option (yS) :=
  if (τ 47 0 ((16 : Int32).toNatClampNeg)) ≤ a6 then
  (xl (y_si τ 47 0 ((16 : Int32).toNatClampNeg) 0) fun s8 =>
  some s8)
  else
  (if ¬ ((64 + a6) < 0 ∨ 68 ≤ (64 + a6).toNatClampNeg) then
  if ¬ (((4 * a4) + a6) < 0 ∨ 68 ≤ ((4 * a4) + a6).toNatClampNeg) then
  xl (y_si τ 49 0 (((4 * a4) + a6).toNatClampNeg) (τ 49 0 ((64 + a6).toNatClampNeg))) fun s11 =>
  xl (y_si s11 50 0 (((4 * a4) + a6).toNatClampNeg) (s11 50 0 ((64 + a6).toNatClampNeg))) fun s12 =>
  rec99 s12 a4 (a6 + 1)
  else none
  else none)
def fM_tell_99 (N : Nat) : Nat → yS → Int32 → Int32 → Option (yS)
  | 0, _, _, _ => none
  | n + 1, τ, a4, a6 => fM_tell_99b N (fM_tell_99 N n) τ a4 a6
def fM_tell (N : Nat) (τ : yS) (a1 : Int32) (a2 : Int32) (a3 : Int32) : Option (yS) :=
  xl (y_si τ 30 0 29 ((τ 30 0 29) + 1)) fun s13 =>
  if ¬ ((τ 30 0 29) < 0 ∨ 16 ≤ (τ 30 0 29).toNatClampNeg) then
  xl (y_si s13 45 0 ((τ 30 0 29).toNatClampNeg) a1) fun s15 =>
  xl (y_si s15 46 0 ((τ 30 0 29).toNatClampNeg) a2) fun s16 =>
  xl (y_si s16 48 0 ((τ 30 0 29).toNatClampNeg) 0) fun s17 =>
  xp (fM_shape s17 a1 a2) fun r19 =>
  if ¬ (r19 < 0 ∨ 12 ≤ r19.toNatClampNeg) then
  xp (fM_keep N s17 a3 (88 + (2 * (τ 30 0 29))) (s17 31 0 r19.toNatClampNeg)) fun s22 =>
  if ¬ ((τ 30 0 29) < 0 ∨ 17 ≤ (τ 30 0 29).toNatClampNeg) then
  xl (y_si s22 47 0 ((τ 30 0 29).toNatClampNeg) 0) fun s24 =>
  if a3 = 6 then
  (xl (y_si s24 47 0 ((τ 30 0 29).toNatClampNeg) (s24 47 0 ((16 : Int32).toNatClampNeg))) fun s26 =>
  fM_tell_99 N N s26 (τ 30 0 29) 0)
  else
  (some s24)
  else none
  else none
  else none
set_option maxHeartbeats 4000000 in
set_option maxRecDepth 100000 in
theorem wM_tell_99b {p : Program} {l : Launch} {e : Env} {R : Room} {s : State} {m : MethodId} {args : Array Value} {below : List Frame} {meth : Method} {c : Code} {E : xE} {A : Nat → Prop} {σ : xS} (C : xC p s m args meth c R E A bM_tell 7 yM_tell none 2 0 0) (N : Nat) (τ : yS) (rec99 : yS → Int32 → Int32 → Option (yS)) (hrec99 : ∀ (τ : yS) (a4 : Int32) (a6 : Int32) (res : yS), rec99 τ a4 a6 = some res → ∀ (H : Heap) (locs : List Loc) (ls : Array Slot), xW E A s σ τ H locs → lv_has ls 7 [(0, .ref (E.2.2.1 30 0)), (4, .int a4), (6, .int a6)] → W p l e R s m args below meth c H locs 0 0 (MQ below (xQ E A none σ res) args s 0 0 A) (F0 m 99 ls [])) (a4 : Int32) (a6 : Int32) (res : yS) (hf : fM_tell_99b N rec99 τ a4 a6 = some res) (H : Heap) (locs : List Loc) (ls : Array Slot) (hw : xW E A s σ τ H locs) (hl : lv_has ls 7 [(0, .ref (E.2.2.1 30 0)), (4, .int a4), (6, .int a6)]) : W p l e R s m args below meth c H locs 0 0 (MQ below (xQ E A none σ res) args s 0 0 A) (F0 m 99 ls []) := by
  have hx := C.1
  have hb := C.2.1
  unfold fM_tell_99b at hf
  refine lv_iload hx hb dM_tell_99 (lv_at hl 2 rfl) ?_
  refine lv_aload_n hx hb dM_tell_101 rfl (lv_at hl 0 rfl) ?_
  refine y_get C hw 30 0 24 (v := .ref (E.2.2.1 47 0)) at_30 rfl rfl ⟨by decide, by decide⟩ wM_59 rfl dM_tell_102 ?_
  refine lv_bipush (v := 16) hx hb dM_tell_105 (by decide) ?_
  refine y_ild C hw 47 0 at_47 rfl (by decide) dM_tell_107 ?_
  refine lv_icmp_ge (tgt := 161) hx hb dM_tell_108 (by decide) (fun c7 => ?_) (fun c7 => ?_)
  · replace hf := x_ip c7 hf
    refine lv_aload_n hx hb dM_tell_161 rfl (lv_at hl 0 rfl) ?_
    refine y_get C hw 30 0 24 (v := .ref (E.2.2.1 47 0)) at_30 rfl rfl ⟨by decide, by decide⟩ wM_59 rfl dM_tell_162 ?_
    refine lv_bipush (v := 16) hx hb dM_tell_165 (by decide) ?_
    refine lv_iconst (v := 0) hx hb dM_tell_167 (by decide) ?_
    refine y_ist C hw 47 0 at_47 rfl rfl (by decide) dM_tell_168 (fun H locs hw => ?_)
    obtain ⟨s8, es8, hf⟩ := x_l hf
    rw [← es8] at hw
    obtain rfl := Option.some.inj hf
    exact x_vret C hw dM_tell_169
  · replace hf := x_in c7 hf
    refine lv_aload_n hx hb dM_tell_111 rfl (lv_at hl 0 rfl) ?_
    refine y_get C hw 30 0 26 (v := .ref (E.2.2.1 49 0)) at_30 rfl rfl ⟨by decide, by decide⟩ wM_65 rfl dM_tell_112 ?_
    refine lv_iconst (v := 4) hx hb dM_tell_115 (by decide) ?_
    refine lv_iload hx hb dM_tell_116 (lv_at hl 1 rfl) ?_
    refine lv_imul hx hb dM_tell_118 ?_
    refine lv_iload hx hb dM_tell_119 (lv_at hl 2 rfl) ?_
    refine lv_iadd hx hb dM_tell_121 ?_
    refine lv_aload_n hx hb dM_tell_122 rfl (lv_at hl 0 rfl) ?_
    refine y_get C hw 30 0 26 (v := .ref (E.2.2.1 49 0)) at_30 rfl rfl ⟨by decide, by decide⟩ wM_65 rfl dM_tell_123 ?_
    refine lv_bipush (v := 64) hx hb dM_tell_126 (by decide) ?_
    refine lv_iload hx hb dM_tell_128 (lv_at hl 2 rfl) ?_
    refine lv_iadd hx hb dM_tell_130 ?_
    obtain ⟨g9, hf⟩ := x_g hf
    refine y_ild C hw 49 0 at_49 rfl g9 dM_tell_131 ?_
    obtain ⟨g10, hf⟩ := x_g hf
    refine y_ist C hw 49 0 at_49 rfl rfl g10 dM_tell_132 (fun H locs hw => ?_)
    obtain ⟨s11, es11, hf⟩ := x_l hf
    rw [← es11] at hw
    refine lv_aload_n hx hb dM_tell_133 rfl (lv_at hl 0 rfl) ?_
    refine y_get C hw 30 0 27 (v := .ref (E.2.2.1 50 0)) at_30 rfl rfl ⟨by decide, by decide⟩ wM_68 rfl dM_tell_134 ?_
    refine lv_iconst (v := 4) hx hb dM_tell_137 (by decide) ?_
    refine lv_iload hx hb dM_tell_138 (lv_at hl 1 rfl) ?_
    refine lv_imul hx hb dM_tell_140 ?_
    refine lv_iload hx hb dM_tell_141 (lv_at hl 2 rfl) ?_
    refine lv_iadd hx hb dM_tell_143 ?_
    refine lv_aload_n hx hb dM_tell_144 rfl (lv_at hl 0 rfl) ?_
    refine y_get C hw 30 0 27 (v := .ref (E.2.2.1 50 0)) at_30 rfl rfl ⟨by decide, by decide⟩ wM_68 rfl dM_tell_145 ?_
    refine lv_bipush (v := 64) hx hb dM_tell_148 (by decide) ?_
    refine lv_iload hx hb dM_tell_150 (lv_at hl 2 rfl) ?_
    refine lv_iadd hx hb dM_tell_152 ?_
    refine y_ild C hw 50 0 at_50 rfl g9 dM_tell_153 ?_
    refine y_ist C hw 50 0 at_50 rfl rfl g10 dM_tell_154 (fun H locs hw => ?_)
    obtain ⟨s12, es12, hf⟩ := x_l hf
    rw [← es12] at hw
    refine lv_iinc (v := a6 + 1) (lv' := [(6, .int (a6 + 1)), (0, .ref (E.2.2.1 30 0)), (4, .int a4)]) hx hb dM_tell_155 hl (k := 2) rfl rfl (by decide) rfl (fun ls hl => ?_)
    refine lv_goto (tgt := 99) hx hb dM_tell_158 (by decide) ?_
    exact hrec99 s12 a4 (a6 + 1) res hf H locs ls hw (lv_sub hl [1, 2, 0] rfl)
set_option maxHeartbeats 4000000 in
set_option maxRecDepth 100000 in
theorem wM_tell_99 {p : Program} {l : Launch} {e : Env} {R : Room} {s : State} {m : MethodId} {args : Array Value} {below : List Frame} {meth : Method} {c : Code} {E : xE} {A : Nat → Prop} {σ : xS} (C : xC p s m args meth c R E A bM_tell 7 yM_tell none 2 0 0) (N : Nat) (n : Nat) : ∀ (τ : yS) (a4 : Int32) (a6 : Int32) (res : yS), fM_tell_99 N n τ a4 a6 = some res → ∀ (H : Heap) (locs : List Loc) (ls : Array Slot), xW E A s σ τ H locs → lv_has ls 7 [(0, .ref (E.2.2.1 30 0)), (4, .int a4), (6, .int a6)] → W p l e R s m args below meth c H locs 0 0 (MQ below (xQ E A none σ res) args s 0 0 A) (F0 m 99 ls []) := by
  induction n with
  | zero => intro τ a4 a6 res hf; cases hf
  | succ n ih =>
    intro τ a4 a6 res hf H locs ls hw hl
    exact wM_tell_99b C N τ (fM_tell_99 N n) ih a4 a6 res hf H locs ls hw hl
set_option maxHeartbeats 4000000 in
set_option maxRecDepth 100000 in
theorem cM_tell (l : Launch) (E : xE) (N : Nat) (τ : yS) (σ : xS) (a1 : Int32) (a2 : Int32) (a3 : Int32) (res : yS) (hf : fM_tell N τ a1 a2 a3 = some res) : xM l E yM_tell bM_tell 7 none 2 0 0 [.ref (E.2.2.1 30 0), .int a1, .int a2, .int a3] σ τ none σ res := by
  refine x_met (by decide) (Nat.le_of_ble_eq_true rfl) (fun p e R s m args below meth c A ls H locs C hw hl => ?_)
  have hl : lv_has ls 7 [(0, .ref (E.2.2.1 30 0)), (1, .int a1), (2, .int a2), (3, .int a3)] := hl
  have hx := C.1
  have hb := C.2.1
  unfold fM_tell at hf
  refine lv_aload_n hx hb dM_tell_0 rfl (lv_at hl 0 rfl) ?_
  refine y_get C hw 30 0 29 (v := .int (τ 30 0 29)) at_30 rfl rfl ⟨by decide, by decide⟩ wM_93 rfl dM_tell_1 ?_
  refine lv_istore (lv' := [(4, .int (τ 30 0 29)), (0, .ref (E.2.2.1 30 0)), (1, .int a1), (2, .int a2), (3, .int a3)]) hx hb dM_tell_4 hl (by decide) rfl (fun ls hl => ?_)
  refine lv_aload_n hx hb dM_tell_6 rfl (lv_at hl 1 rfl) ?_
  refine lv_dup hx hb dM_tell_7 rfl ?_
  refine y_get C hw 30 0 29 (v := .int (τ 30 0 29)) at_30 rfl rfl ⟨by decide, by decide⟩ wM_93 rfl dM_tell_8 ?_
  refine lv_iconst (v := 1) hx hb dM_tell_11 (by decide) ?_
  refine lv_iadd hx hb dM_tell_12 ?_
  refine y_puti C hw 30 0 29 at_30 rfl rfl rfl ⟨rfl, rfl⟩ ⟨by decide, by decide⟩ (Nat.le_of_ble_eq_true rfl) wM_93 dM_tell_13 (fun H locs hw => ?_)
  obtain ⟨s13, es13, hf⟩ := x_l hf
  rw [← es13] at hw
  refine lv_aload_n hx hb dM_tell_16 rfl (lv_at hl 1 rfl) ?_
  refine y_get C hw 30 0 22 (v := .ref (E.2.2.1 45 0)) at_30 rfl rfl ⟨by decide, by decide⟩ wM_53 rfl dM_tell_17 ?_
  refine lv_iload hx hb dM_tell_20 (lv_at hl 0 rfl) ?_
  refine lv_iload_n hx hb dM_tell_22 rfl (lv_at hl 2 rfl) ?_
  obtain ⟨g14, hf⟩ := x_g hf
  refine y_ist C hw 45 0 at_45 rfl rfl g14 dM_tell_23 (fun H locs hw => ?_)
  obtain ⟨s15, es15, hf⟩ := x_l hf
  rw [← es15] at hw
  refine lv_aload_n hx hb dM_tell_24 rfl (lv_at hl 1 rfl) ?_
  refine y_get C hw 30 0 23 (v := .ref (E.2.2.1 46 0)) at_30 rfl rfl ⟨by decide, by decide⟩ wM_56 rfl dM_tell_25 ?_
  refine lv_iload hx hb dM_tell_28 (lv_at hl 0 rfl) ?_
  refine lv_iload_n hx hb dM_tell_30 rfl (lv_at hl 3 rfl) ?_
  refine y_ist C hw 46 0 at_46 rfl rfl g14 dM_tell_31 (fun H locs hw => ?_)
  obtain ⟨s16, es16, hf⟩ := x_l hf
  rw [← es16] at hw
  refine lv_aload_n hx hb dM_tell_32 rfl (lv_at hl 1 rfl) ?_
  refine y_get C hw 30 0 25 (v := .ref (E.2.2.1 48 0)) at_30 rfl rfl ⟨by decide, by decide⟩ wM_62 rfl dM_tell_33 ?_
  refine lv_iload hx hb dM_tell_36 (lv_at hl 0 rfl) ?_
  refine lv_iconst (v := 0) hx hb dM_tell_38 (by decide) ?_
  refine y_ist C hw 48 0 at_48 rfl rfl g14 dM_tell_39 (fun H locs hw => ?_)
  obtain ⟨s17, es17, hf⟩ := x_l hf
  rw [← es17] at hw
  refine lv_aload_n hx hb dM_tell_40 rfl (lv_at hl 1 rfl) ?_
  refine y_get C hw 30 0 0 (v := .ref (E.2.2.1 31 0)) at_30 rfl rfl ⟨by decide, by decide⟩ wM_7 rfl dM_tell_41 ?_
  refine lv_aload_n hx hb dM_tell_44 rfl (lv_at hl 1 rfl) ?_
  refine lv_iload_n hx hb dM_tell_45 rfl (lv_at hl 2 rfl) ?_
  refine lv_iload_n hx hb dM_tell_46 rfl (lv_at hl 3 rfl) ?_
  obtain ⟨r19, h18, hf⟩ := x_p hf
  refine x_callV (As := [.int a1, .int a2]) (rest := [.ref (E.2.2.1 31 0)]) (st1 := [.int r19, .ref (E.2.2.1 31 0)]) C hw (cM_shape l E s17 σ a1 a2 r19 h18) kM_135 (x_recvY C hw 30 0 at_30 rfl rfl) (by decide) rfl rfl hl.1 (lv_room (Nat.le_of_ble_eq_true rfl)) dM_tell_47 ⟨by decide, by decide⟩ rfl (fun H locs hw => ?_)
  obtain ⟨g20, hf⟩ := x_g hf
  refine y_ild C hw 31 0 at_31 rfl g20 dM_tell_50 ?_
  refine lv_istore (lv' := [(5, .int (s17 31 0 r19.toNatClampNeg)), (4, .int (τ 30 0 29)), (0, .ref (E.2.2.1 30 0)), (1, .int a1), (2, .int a2), (3, .int a3)]) hx hb dM_tell_51 hl (by decide) rfl (fun ls hl => ?_)
  refine lv_aload_n hx hb dM_tell_53 rfl (lv_at hl 2 rfl) ?_
  refine lv_iload_n hx hb dM_tell_54 rfl (lv_at hl 5 rfl) ?_
  refine lv_bipush (v := 88) hx hb dM_tell_55 (by decide) ?_
  refine lv_iconst (v := 2) hx hb dM_tell_57 (by decide) ?_
  refine lv_iload hx hb dM_tell_58 (lv_at hl 1 rfl) ?_
  refine lv_imul hx hb dM_tell_60 ?_
  refine lv_iadd hx hb dM_tell_61 ?_
  refine lv_iload hx hb dM_tell_62 (lv_at hl 0 rfl) ?_
  obtain ⟨s22, h21, hf⟩ := x_p hf
  refine x_callV (As := [.int a3, .int (88 + (2 * (τ 30 0 29))), .int (s17 31 0 r19.toNatClampNeg)]) (rest := []) (st1 := []) C hw (cM_keep l E N s17 σ a3 (88 + (2 * (τ 30 0 29))) (s17 31 0 r19.toNatClampNeg) s22 h21) kM_162 (x_recvY C hw 30 0 at_30 rfl rfl) (by decide) rfl rfl hl.1 (lv_room (Nat.le_of_ble_eq_true rfl)) dM_tell_64 ⟨by decide, by decide⟩ rfl (fun H locs hw => ?_)
  refine lv_aload_n hx hb dM_tell_67 rfl (lv_at hl 2 rfl) ?_
  refine y_get C hw 30 0 24 (v := .ref (E.2.2.1 47 0)) at_30 rfl rfl ⟨by decide, by decide⟩ wM_59 rfl dM_tell_68 ?_
  refine lv_iload hx hb dM_tell_71 (lv_at hl 1 rfl) ?_
  refine lv_iconst (v := 0) hx hb dM_tell_73 (by decide) ?_
  obtain ⟨g23, hf⟩ := x_g hf
  refine y_ist C hw 47 0 at_47 rfl rfl g23 dM_tell_74 (fun H locs hw => ?_)
  obtain ⟨s24, es24, hf⟩ := x_l hf
  rw [← es24] at hw
  refine lv_iload_n hx hb dM_tell_75 rfl (lv_at hl 5 rfl) ?_
  refine lv_bipush (v := 6) hx hb dM_tell_76 (by decide) ?_
  refine lv_icmp_eq (tgt := 82) hx hb dM_tell_78 (by decide) (fun c25 => ?_) (fun c25 => ?_)
  · replace hf := x_ip c25 hf
    refine lv_aload_n hx hb dM_tell_82 rfl (lv_at hl 2 rfl) ?_
    refine y_get C hw 30 0 24 (v := .ref (E.2.2.1 47 0)) at_30 rfl rfl ⟨by decide, by decide⟩ wM_59 rfl dM_tell_83 ?_
    refine lv_iload hx hb dM_tell_86 (lv_at hl 1 rfl) ?_
    refine lv_aload_n hx hb dM_tell_88 rfl (lv_at hl 2 rfl) ?_
    refine y_get C hw 30 0 24 (v := .ref (E.2.2.1 47 0)) at_30 rfl rfl ⟨by decide, by decide⟩ wM_59 rfl dM_tell_89 ?_
    refine lv_bipush (v := 16) hx hb dM_tell_92 (by decide) ?_
    refine y_ild C hw 47 0 at_47 rfl (by decide) dM_tell_94 ?_
    refine y_ist C hw 47 0 at_47 rfl rfl g23 dM_tell_95 (fun H locs hw => ?_)
    obtain ⟨s26, es26, hf⟩ := x_l hf
    rw [← es26] at hw
    refine lv_iconst (v := 0) hx hb dM_tell_96 (by decide) ?_
    refine lv_istore (lv' := [(6, .int 0), (5, .int (s17 31 0 r19.toNatClampNeg)), (4, .int (τ 30 0 29)), (0, .ref (E.2.2.1 30 0)), (1, .int a1), (2, .int a2), (3, .int a3)]) hx hb dM_tell_97 hl (by decide) rfl (fun ls hl => ?_)
    exact wM_tell_99 C N N s26 (τ 30 0 29) 0 res hf H locs ls hw (lv_sub hl [3, 2, 0] rfl)
  · replace hf := x_in c25 hf
    obtain rfl := Option.some.inj hf
    exact x_vret C hw dM_tell_81
