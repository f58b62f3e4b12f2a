-- StandIns$Notebook firstUnseenOf (I)I
set_option maxRecDepth 100000 in
theorem dB_firstUnseenOf_0 : decode bB_firstUnseenOf 0 = .ok (.iconst 0, 1) := by decide +kernel
set_option maxRecDepth 100000 in
theorem dB_firstUnseenOf_1 : decode bB_firstUnseenOf 1 = .ok (.istore_n 2, 1) := by decide +kernel
set_option maxRecDepth 100000 in
theorem dB_firstUnseenOf_2 : decode bB_firstUnseenOf 2 = .ok (.iload_n 2, 1) := by decide +kernel
set_option maxRecDepth 100000 in
theorem dB_firstUnseenOf_3 : decode bB_firstUnseenOf 3 = .ok (.aload_n 0, 1) := by decide +kernel
set_option maxRecDepth 100000 in
theorem dB_firstUnseenOf_4 : decode bB_firstUnseenOf 4 = .ok (.getfield 17, 3) := by decide +kernel
set_option maxRecDepth 100000 in
theorem dB_firstUnseenOf_7 : decode bB_firstUnseenOf 7 = .ok (.if_icmp .ge 44, 3) := by decide +kernel
set_option maxRecDepth 100000 in
theorem dB_firstUnseenOf_10 : decode bB_firstUnseenOf 10 = .ok (.aload_n 0, 1) := by decide +kernel
set_option maxRecDepth 100000 in
theorem dB_firstUnseenOf_11 : decode bB_firstUnseenOf 11 = .ok (.getfield 11, 3) := by decide +kernel
set_option maxRecDepth 100000 in
theorem dB_firstUnseenOf_14 : decode bB_firstUnseenOf 14 = .ok (.iload_n 2, 1) := by decide +kernel
set_option maxRecDepth 100000 in
theorem dB_firstUnseenOf_15 : decode bB_firstUnseenOf 15 = .ok (.aaload, 1) := by decide +kernel
set_option maxRecDepth 100000 in
theorem dB_firstUnseenOf_16 : decode bB_firstUnseenOf 16 = .ok (.getfield 33, 3) := by decide +kernel
set_option maxRecDepth 100000 in
theorem dB_firstUnseenOf_19 : decode bB_firstUnseenOf 19 = .ok (.iload_n 1, 1) := by decide +kernel
set_option maxRecDepth 100000 in
theorem dB_firstUnseenOf_20 : decode bB_firstUnseenOf 20 = .ok (.if_icmp .ne 25, 3) := by decide +kernel
set_option maxRecDepth 100000 in
theorem dB_firstUnseenOf_23 : decode bB_firstUnseenOf 23 = .ok (.aload_n 0, 1) := by decide +kernel
set_option maxRecDepth 100000 in
theorem dB_firstUnseenOf_24 : decode bB_firstUnseenOf 24 = .ok (.getfield 11, 3) := by decide +kernel
set_option maxRecDepth 100000 in
theorem dB_firstUnseenOf_27 : decode bB_firstUnseenOf 27 = .ok (.iload_n 2, 1) := by decide +kernel
set_option maxRecDepth 100000 in
theorem dB_firstUnseenOf_28 : decode bB_firstUnseenOf 28 = .ok (.aaload, 1) := by decide +kernel
set_option maxRecDepth 100000 in
theorem dB_firstUnseenOf_29 : decode bB_firstUnseenOf 29 = .ok (.getfield 44, 3) := by decide +kernel
set_option maxRecDepth 100000 in
theorem dB_firstUnseenOf_32 : decode bB_firstUnseenOf 32 = .ok (.ifCond .ne 13, 3) := by decide +kernel
set_option maxRecDepth 100000 in
theorem dB_firstUnseenOf_35 : decode bB_firstUnseenOf 35 = .ok (.aload_n 0, 1) := by decide +kernel
set_option maxRecDepth 100000 in
theorem dB_firstUnseenOf_36 : decode bB_firstUnseenOf 36 = .ok (.getfield 11, 3) := by decide +kernel
set_option maxRecDepth 100000 in
theorem dB_firstUnseenOf_39 : decode bB_firstUnseenOf 39 = .ok (.iload_n 2, 1) := by decide +kernel
set_option maxRecDepth 100000 in
theorem dB_firstUnseenOf_40 : decode bB_firstUnseenOf 40 = .ok (.aaload, 1) := by decide +kernel
set_option maxRecDepth 100000 in
theorem dB_firstUnseenOf_41 : decode bB_firstUnseenOf 41 = .ok (.getfield 25, 3) := by decide +kernel
set_option maxRecDepth 100000 in
theorem dB_firstUnseenOf_44 : decode bB_firstUnseenOf 44 = .ok (.ireturn, 1) := by decide +kernel
set_option maxRecDepth 100000 in
theorem dB_firstUnseenOf_45 : decode bB_firstUnseenOf 45 = .ok (.iinc 2 1, 3) := by decide +kernel
set_option maxRecDepth 100000 in
theorem dB_firstUnseenOf_48 : decode bB_firstUnseenOf 48 = .ok (.goto (-46), 3) := by decide +kernel
set_option maxRecDepth 100000 in
theorem dB_firstUnseenOf_51 : decode bB_firstUnseenOf 51 = .ok (.bipush (-6), 2) := by decide +kernel
set_option maxRecDepth 100000 in
theorem dB_firstUnseenOf_53 : decode bB_firstUnseenOf 53 = .ok (.ireturn, 1) := by decide +kernel
def fB_firstUnseenOf_45 (N : Nat) (rec2 : Int32 → Int32 → Option (Int32)) (σ : xS) (a1 : Int32) (a2 : Int32) : Option (Int32) :=
  rec2 a1 (a2 + 1)
def fB_firstUnseenOf_2b (N : Nat) (rec2 : Int32 → Int32 → Option (Int32)) (σ : xS) (a1 : Int32) (a2 : Int32) : Option (Int32) :=
  if (σ.1 6 0 1) ≤ a2 then
  (some (-6))
  else
  (if ¬ (a2 < 0 ∨ 40 ≤ a2.toNatClampNeg) then
  if (σ.1 15 a2.toNatClampNeg 1) = a1 then
  (if (σ.1 15 a2.toNatClampNeg 5) = 0 then
  (some (σ.1 15 a2.toNatClampNeg 0))
  else
  (fB_firstUnseenOf_45 N rec2 σ a1 a2))
  else
  (fB_firstUnseenOf_45 N rec2 σ a1 a2)
  else none)
def fB_firstUnseenOf_2 (N : Nat) (σ : xS) : Nat → Int32 → Int32 → Option (Int32)
  | 0, _, _ => none
  | n + 1, a1, a2 => fB_firstUnseenOf_2b N (fB_firstUnseenOf_2 N σ n) σ a1 a2
def fB_firstUnseenOf (N : Nat) (σ : xS) (a1 : Int32) : Option (Int32) :=
  fB_firstUnseenOf_2 N σ N a1 0
set_option maxHeartbeats 4000000 in
set_option maxRecDepth 100000 in
theorem wB_firstUnseenOf_45 {p : Program} {l : Launch} {e : Env} {R : Room} {s : State} {m : MethodId} {args : Array Value} {below : List Frame} {meth : Method} {c : Code} {E : xE} {A : Nat → Prop} {τ : yS} (C : xC p s m args meth c R E A bB_firstUnseenOf 3 yB_firstUnseenOf (some .int) 0 0 0) (N : Nat) (σ : xS) (rec2 : Int32 → Int32 → Option (Int32)) (hrec2 : ∀ (a1 : Int32) (a2 : Int32) (res : Int32), rec2 a1 a2 = some res → ∀ (H : Heap) (locs : List Loc) (ls : Array Slot), xW E A s σ τ H locs → lv_has ls 3 [(0, .ref (E.2.2.1 6 0)), (1, .int a1), (2, .int a2)] → W p l e R s m args below meth c H locs 0 0 (MQ below (xQ E A (some (.int res)) σ τ) args s 0 0 A) (F0 m 2 ls [])) (a1 : Int32) (a2 : Int32) (res : Int32) (hf : fB_firstUnseenOf_45 N rec2 σ a1 a2 = some res) (H : Heap) (locs : List Loc) (ls : Array Slot) (hw : xW E A s σ τ H locs) (hl : lv_has ls 3 [(0, .ref (E.2.2.1 6 0)), (1, .int a1), (2, .int a2)]) : W p l e R s m args below meth c H locs 0 0 (MQ below (xQ E A (some (.int res)) σ τ) args s 0 0 A) (F0 m 45 ls []) := by
  have hx := C.1
  have hb := C.2.1
  unfold fB_firstUnseenOf_45 at hf
  refine lv_iinc (v := a2 + 1) (lv' := [(2, .int (a2 + 1)), (0, .ref (E.2.2.1 6 0)), (1, .int a1)]) hx hb dB_firstUnseenOf_45 hl (k := 2) rfl rfl (by decide) rfl (fun ls hl => ?_)
  refine lv_goto (tgt := 2) hx hb dB_firstUnseenOf_48 (by decide) ?_
  exact hrec2 a1 (a2 + 1) res hf H locs ls hw (lv_sub hl [1, 2, 0] rfl)
set_option maxHeartbeats 4000000 in
set_option maxRecDepth 100000 in
theorem wB_firstUnseenOf_2b {p : Program} {l : Launch} {e : Env} {R : Room} {s : State} {m : MethodId} {args : Array Value} {below : List Frame} {meth : Method} {c : Code} {E : xE} {A : Nat → Prop} {τ : yS} (C : xC p s m args meth c R E A bB_firstUnseenOf 3 yB_firstUnseenOf (some .int) 0 0 0) (N : Nat) (σ : xS) (rec2 : Int32 → Int32 → Option (Int32)) (hrec2 : ∀ (a1 : Int32) (a2 : Int32) (res : Int32), rec2 a1 a2 = some res → ∀ (H : Heap) (locs : List Loc) (ls : Array Slot), xW E A s σ τ H locs → lv_has ls 3 [(0, .ref (E.2.2.1 6 0)), (1, .int a1), (2, .int a2)] → W p l e R s m args below meth c H locs 0 0 (MQ below (xQ E A (some (.int res)) σ τ) args s 0 0 A) (F0 m 2 ls [])) (a1 : Int32) (a2 : Int32) (res : Int32) (hf : fB_firstUnseenOf_2b N rec2 σ a1 a2 = some res) (H : Heap) (locs : List Loc) (ls : Array Slot) (hw : xW E A s σ τ H locs) (hl : lv_has ls 3 [(0, .ref (E.2.2.1 6 0)), (1, .int a1), (2, .int a2)]) : W p l e R s m args below meth c H locs 0 0 (MQ below (xQ E A (some (.int res)) σ τ) args s 0 0 A) (F0 m 2 ls []) := by
  have hx := C.1
  have hb := C.2.1
  unfold fB_firstUnseenOf_2b at hf
  refine lv_iload_n hx hb dB_firstUnseenOf_2 rfl (lv_at hl 2 rfl) ?_
  refine lv_aload_n hx hb dB_firstUnseenOf_3 rfl (lv_at hl 0 rfl) ?_
  refine x_get C hw 6 0 1 (v := .int (σ.1 6 0 1)) at_6 rfl rfl ⟨by decide, by decide⟩ wB_17 rfl dB_firstUnseenOf_4 ?_
  refine lv_icmp_ge (tgt := 51) hx hb dB_firstUnseenOf_7 (by decide) (fun c6 => ?_) (fun c6 => ?_)
  · replace hf := x_ip c6 hf
    refine lv_bipush (v := (-6)) hx hb dB_firstUnseenOf_51 (by decide) ?_
    obtain rfl := Option.some.inj hf
    exact x_iret C hw dB_firstUnseenOf_53
  · replace hf := x_in c6 hf
    refine lv_aload_n hx hb dB_firstUnseenOf_10 rfl (lv_at hl 0 rfl) ?_
    refine x_get C hw 6 0 0 (v := .ref (E.2.2.1 7 0)) at_6 rfl rfl ⟨by decide, by decide⟩ wB_11 rfl dB_firstUnseenOf_11 ?_
    refine lv_iload_n hx hb dB_firstUnseenOf_14 rfl (lv_at hl 2 rfl) ?_
    obtain ⟨g7, hf⟩ := x_g hf
    refine x_ald7 C hw g7 dB_firstUnseenOf_15 ?_
    have g8 := x_lt g7
    refine x_getN C hw 15 a2.toNatClampNeg 1 (v := .int (σ.1 15 a2.toNatClampNeg 1)) (at_15 g8) rfl rfl ⟨by decide, by decide⟩ wB_33 rfl dB_firstUnseenOf_16 ?_
    refine lv_iload_n hx hb dB_firstUnseenOf_19 rfl (lv_at hl 1 rfl) ?_
    refine lv_icmp_ne (tgt := 45) hx hb dB_firstUnseenOf_20 (by decide) (fun c9 => ?_) (fun c9 => ?_)
    · replace hf := x_in c9 hf
      exact wB_firstUnseenOf_45 C N σ rec2 hrec2 a1 a2 res hf H locs ls hw (lv_sub hl [0, 1, 2] rfl)
    · replace hf := x_ip c9 hf
      refine lv_aload_n hx hb dB_firstUnseenOf_23 rfl (lv_at hl 0 rfl) ?_
      refine x_get C hw 6 0 0 (v := .ref (E.2.2.1 7 0)) at_6 rfl rfl ⟨by decide, by decide⟩ wB_11 rfl dB_firstUnseenOf_24 ?_
      refine lv_iload_n hx hb dB_firstUnseenOf_27 rfl (lv_at hl 2 rfl) ?_
      refine x_ald7 C hw g7 dB_firstUnseenOf_28 ?_
      refine x_getN C hw 15 a2.toNatClampNeg 5 (v := .int (σ.1 15 a2.toNatClampNeg 5)) (at_15 g8) rfl rfl ⟨by decide, by decide⟩ wB_44 rfl dB_firstUnseenOf_29 ?_
      refine lv_if_ne (tgt := 45) hx hb dB_firstUnseenOf_32 (by decide) (fun c10 => ?_) (fun c10 => ?_)
      · replace hf := x_in c10 hf
        exact wB_firstUnseenOf_45 C N σ rec2 hrec2 a1 a2 res hf H locs ls hw (lv_sub hl [0, 1, 2] rfl)
      · replace hf := x_ip c10 hf
        refine lv_aload_n hx hb dB_firstUnseenOf_35 rfl (lv_at hl 0 rfl) ?_
        refine x_get C hw 6 0 0 (v := .ref (E.2.2.1 7 0)) at_6 rfl rfl ⟨by decide, by decide⟩ wB_11 rfl dB_firstUnseenOf_36 ?_
        refine lv_iload_n hx hb dB_firstUnseenOf_39 rfl (lv_at hl 2 rfl) ?_
        refine x_ald7 C hw g7 dB_firstUnseenOf_40 ?_
        refine x_getN C hw 15 a2.toNatClampNeg 0 (v := .int (σ.1 15 a2.toNatClampNeg 0)) (at_15 g8) rfl rfl ⟨by decide, by decide⟩ wB_25 rfl dB_firstUnseenOf_41 ?_
        obtain rfl := Option.some.inj hf
        exact x_iret C hw dB_firstUnseenOf_44
set_option maxHeartbeats 4000000 in
set_option maxRecDepth 100000 in
theorem wB_firstUnseenOf_2 {p : Program} {l : Launch} {e : Env} {R : Room} {s : State} {m : MethodId} {args : Array Value} {below : List Frame} {meth : Method} {c : Code} {E : xE} {A : Nat → Prop} {τ : yS} (C : xC p s m args meth c R E A bB_firstUnseenOf 3 yB_firstUnseenOf (some .int) 0 0 0) (N : Nat) (σ : xS) (n : Nat) : ∀ (a1 : Int32) (a2 : Int32) (res : Int32), fB_firstUnseenOf_2 N σ n a1 a2 = some res → ∀ (H : Heap) (locs : List Loc) (ls : Array Slot), xW E A s σ τ H locs → lv_has ls 3 [(0, .ref (E.2.2.1 6 0)), (1, .int a1), (2, .int a2)] → W p l e R s m args below meth c H locs 0 0 (MQ below (xQ E A (some (.int res)) σ τ) args s 0 0 A) (F0 m 2 ls []) := by
  induction n with
  | zero => intro a1 a2 res hf; cases hf
  | succ n ih =>
    intro a1 a2 res hf H locs ls hw hl
    exact wB_firstUnseenOf_2b C N σ (fB_firstUnseenOf_2 N σ n) ih a1 a2 res hf H locs ls hw hl
set_option maxHeartbeats 4000000 in
set_option maxRecDepth 100000 in
theorem cB_firstUnseenOf (l : Launch) (E : xE) (N : Nat) (σ : xS) (τ : yS) (a1 : Int32) (res : Int32) (hf : fB_firstUnseenOf N σ a1 = some res) : xM l E yB_firstUnseenOf bB_firstUnseenOf 3 (some .int) 0 0 0 [.ref (E.2.2.1 6 0), .int a1] σ τ (some (.int res)) σ τ := by
  refine x_met (by decide) (Nat.le_of_ble_eq_true rfl) (fun p e R s m args below meth c A ls H locs C hw hl => ?_)
  have hl : lv_has ls 3 [(0, .ref (E.2.2.1 6 0)), (1, .int a1)] := hl
  have hx := C.1
  have hb := C.2.1
  unfold fB_firstUnseenOf at hf
  refine lv_iconst (v := 0) hx hb dB_firstUnseenOf_0 (by decide) ?_
  refine lv_istore_n (lv' := [(2, .int 0), (0, .ref (E.2.2.1 6 0)), (1, .int a1)]) hx hb dB_firstUnseenOf_1 rfl hl (by decide) rfl (fun ls hl => ?_)
  exact wB_firstUnseenOf_2 C N σ N a1 0 res hf H locs ls hw (lv_sub hl [1, 2, 0] rfl)
-- StandIns noMore (I)I
set_option maxRecDepth 100000 in
theorem dA_noMore_0 : decode bA_noMore 0 = .ok (.aload_n 0, 1) := by decide +kernel
set_option maxRecDepth 100000 in
theorem dA_noMore_1 : decode bA_noMore 1 = .ok (.iload_n 1, 1) := by decide +kernel
set_option maxRecDepth 100000 in
theorem dA_noMore_2 : decode bA_noMore 2 = .ok (.invokevirtual 150, 3) := by decide +kernel
set_option maxRecDepth 100000 in
theorem dA_noMore_5 : decode bA_noMore 5 = .ok (.ifCond .ne 5, 3) := by decide +kernel
set_option maxRecDepth 100000 in
theorem dA_noMore_8 : decode bA_noMore 8 = .ok (.iconst (-1), 1) := by decide +kernel
set_option maxRecDepth 100000 in
theorem dA_noMore_9 : decode bA_noMore 9 = .ok (.ireturn, 1) := by decide +kernel
set_option maxRecDepth 100000 in
theorem dA_noMore_10 : decode bA_noMore 10 = .ok (.aload_n 0, 1) := by decide +kernel
set_option maxRecDepth 100000 in
theorem dA_noMore_11 : decode bA_noMore 11 = .ok (.iconst 0, 1) := by decide +kernel
set_option maxRecDepth 100000 in
theorem dA_noMore_12 : decode bA_noMore 12 = .ok (.invokevirtual 101, 3) := by decide +kernel
set_option maxRecDepth 100000 in
theorem dA_noMore_15 : decode bA_noMore 15 = .ok (.istore_n 2, 1) := by decide +kernel
set_option maxRecDepth 100000 in
theorem dA_noMore_16 : decode bA_noMore 16 = .ok (.iload_n 2, 1) := by decide +kernel
set_option maxRecDepth 100000 in
theorem dA_noMore_17 : decode bA_noMore 17 = .ok (.ifCond .eq 5, 3) := by decide +kernel
set_option maxRecDepth 100000 in
theorem dA_noMore_20 : decode bA_noMore 20 = .ok (.iload_n 2, 1) := by decide +kernel
set_option maxRecDepth 100000 in
theorem dA_noMore_21 : decode bA_noMore 21 = .ok (.ireturn, 1) := by decide +kernel
set_option maxRecDepth 100000 in
theorem dA_noMore_22 : decode bA_noMore 22 = .ok (.aload_n 0, 1) := by decide +kernel
set_option maxRecDepth 100000 in
theorem dA_noMore_23 : decode bA_noMore 23 = .ok (.aload_n 0, 1) := by decide +kernel
set_option maxRecDepth 100000 in
theorem dA_noMore_24 : decode bA_noMore 24 = .ok (.getfield 43, 3) := by decide +kernel
set_option maxRecDepth 100000 in
theorem dA_noMore_27 : decode bA_noMore 27 = .ok (.iload_n 1, 1) := by decide +kernel
set_option maxRecDepth 100000 in
theorem dA_noMore_28 : decode bA_noMore 28 = .ok (.invokevirtual 222, 3) := by decide +kernel
set_option maxRecDepth 100000 in
theorem dA_noMore_31 : decode bA_noMore 31 = .ok (.invokevirtual 112, 3) := by decide +kernel
set_option maxRecDepth 100000 in
theorem dA_noMore_34 : decode bA_noMore 34 = .ok (.ireturn, 1) := by decide +kernel
def fA_noMore (N : Nat) (σ : xS) (a1 : Int32) : Option (Int32 × xS) :=
  if (fA_isStandIn σ a1) = 0 then
  (some ((-1), σ))
  else
  (xb (fA_misuseOfPlainStep σ 0) fun r4 s5 =>
  if r4 = 0 then
  (xp (fB_firstUnseenOf N s5 a1) fun r8 =>
  xl (fA_idleWith s5 r8) fun s10 =>
  some (s10.1, s10.2))
  else
  (some (r4, s5)))
set_option maxHeartbeats 4000000 in
set_option maxRecDepth 100000 in
theorem cA_noMore (l : Launch) (E : xE) (N : Nat) (σ : xS) (τ : yS) (a1 : Int32) (res : Int32 × xS) (hf : fA_noMore N σ a1 = some res) : xM l E yA_noMore bA_noMore 3 (some .int) 5 0 0 [.ref (E.2.2.1 0 0), .int a1] σ τ (some (.int res.1)) res.2 τ := by
  refine x_met (by decide) (Nat.le_of_ble_eq_true rfl) (fun p e R s m args below meth c A ls H locs C hw hl => ?_)
  have hl : lv_has ls 3 [(0, .ref (E.2.2.1 0 0)), (1, .int a1)] := hl
  have hx := C.1
  have hb := C.2.1
  unfold fA_noMore at hf
  refine lv_aload_n hx hb dA_noMore_0 rfl (lv_at hl 0 rfl) ?_
  refine lv_iload_n hx hb dA_noMore_1 rfl (lv_at hl 1 rfl) ?_
  refine x_callV (As := [.int a1]) (rest := []) (st1 := [.int (fA_isStandIn σ a1)]) C hw (cA_isStandIn l E σ τ a1) kA_150 (x_recv C hw 0 0 at_0 rfl rfl) (by decide) rfl rfl hl.1 (lv_room (Nat.le_of_ble_eq_true rfl)) dA_noMore_2 ⟨by decide, by decide⟩ rfl (fun H locs hw => ?_)
  refine lv_if_ne (tgt := 10) hx hb dA_noMore_5 (by decide) (fun c2 => ?_) (fun c2 => ?_)
  · replace hf := x_in c2 hf
    refine lv_aload_n hx hb dA_noMore_10 rfl (lv_at hl 0 rfl) ?_
    refine lv_iconst (v := 0) hx hb dA_noMore_11 (by decide) ?_
    obtain ⟨r4, s5, h3, hf⟩ := x_b hf
    refine x_callV (As := [.int 0]) (rest := []) (st1 := [.int r4]) C hw (cA_misuseOfPlainStep l E σ τ 0 (r4, s5) h3) kA_101 (x_recv C hw 0 0 at_0 rfl rfl) (by decide) rfl rfl hl.1 (lv_room (Nat.le_of_ble_eq_true rfl)) dA_noMore_12 ⟨by decide, by decide⟩ rfl (fun H locs hw => ?_)
    refine lv_istore_n (lv' := [(2, .int r4), (0, .ref (E.2.2.1 0 0)), (1, .int a1)]) hx hb dA_noMore_15 rfl hl (by decide) rfl (fun ls hl => ?_)
    refine lv_iload_n hx hb dA_noMore_16 rfl (lv_at hl 0 rfl) ?_
    refine lv_if_eq (tgt := 22) hx hb dA_noMore_17 (by decide) (fun c6 => ?_) (fun c6 => ?_)
    · replace hf := x_ip c6 hf
      refine lv_aload_n hx hb dA_noMore_22 rfl (lv_at hl 1 rfl) ?_
      refine lv_aload_n hx hb dA_noMore_23 rfl (lv_at hl 1 rfl) ?_
      refine x_get C hw 0 0 6 (v := .ref (E.2.2.1 6 0)) at_0 rfl rfl ⟨by decide, by decide⟩ wA_43 rfl dA_noMore_24 ?_
      refine lv_iload_n hx hb dA_noMore_27 rfl (lv_at hl 2 rfl) ?_
      obtain ⟨r8, h7, hf⟩ := x_p hf
      refine x_callVN (As := [.int a1]) (rest := [.ref (E.2.2.1 0 0)]) (st1 := [.int r8, .ref (E.2.2.1 0 0)]) C hw (cB_firstUnseenOf l E N s5 τ a1 r8 h7) kA_222 (x_recv C hw 6 0 at_6 rfl rfl) (by decide) rfl rfl hl.1 (lv_room (Nat.le_of_ble_eq_true rfl)) dA_noMore_28 ⟨by decide, by decide⟩ rfl (fun H locs hw => ?_)
      obtain ⟨s10, h9, hf⟩ := x_l hf
      refine x_callV (As := [.int r8]) (rest := []) (st1 := [.int s10.1]) C hw (cA_idleWith l E s5 τ r8 s10 h9.symm) kA_112 (x_recv C hw 0 0 at_0 rfl rfl) (by decide) rfl rfl hl.1 (lv_room (Nat.le_of_ble_eq_true rfl)) dA_noMore_31 ⟨by decide, by decide⟩ rfl (fun H locs hw => ?_)
      obtain rfl := Option.some.inj hf
      exact x_iret C hw dA_noMore_34
    · replace hf := x_in c6 hf
      refine lv_iload_n hx hb dA_noMore_20 rfl (lv_at hl 0 rfl) ?_
      obtain rfl := Option.some.inj hf
      exact x_iret C hw dA_noMore_21
  · replace hf := x_ip c2 hf
    refine lv_iconst (v := (-1)) hx hb dA_noMore_8 (by decide) ?_
    obtain rfl := Option.some.inj hf
    exact x_iret C hw dA_noMore_9
-- StandIns restart ()I
set_option maxRecDepth 100000 in
theorem dA_restart_0 : decode bA_restart 0 = .ok (.aload_n 0, 1) := by decide +kernel
set_option maxRecDepth 100000 in
theorem dA_restart_1 : decode bA_restart 1 = .ok (.iconst 0, 1) := by decide +kernel
set_option maxRecDepth 100000 in
theorem dA_restart_2 : decode bA_restart 2 = .ok (.invokevirtual 101, 3) := by decide +kernel
set_option maxRecDepth 100000 in
theorem dA_restart_5 : decode bA_restart 5 = .ok (.istore_n 1, 1) := by decide +kernel
set_option maxRecDepth 100000 in
theorem dA_restart_6 : decode bA_restart 6 = .ok (.iload_n 1, 1) := by decide +kernel
set_option maxRecDepth 100000 in
theorem dA_restart_7 : decode bA_restart 7 = .ok (.ifCond .eq 5, 3) := by decide +kernel
set_option maxRecDepth 100000 in
theorem dA_restart_10 : decode bA_restart 10 = .ok (.iload_n 1, 1) := by decide +kernel
set_option maxRecDepth 100000 in
theorem dA_restart_11 : decode bA_restart 11 = .ok (.ireturn, 1) := by decide +kernel
set_option maxRecDepth 100000 in
theorem dA_restart_12 : decode bA_restart 12 = .ok (.aload_n 0, 1) := by decide +kernel
set_option maxRecDepth 100000 in
theorem dA_restart_13 : decode bA_restart 13 = .ok (.getfield 89, 3) := by decide +kernel
set_option maxRecDepth 100000 in
theorem dA_restart_16 : decode bA_restart 16 = .ok (.istore_n 2, 1) := by decide +kernel
set_option maxRecDepth 100000 in
theorem dA_restart_17 : decode bA_restart 17 = .ok (.aload_n 0, 1) := by decide +kernel
set_option maxRecDepth 100000 in
theorem dA_restart_18 : decode bA_restart 18 = .ok (.iconst (-1), 1) := by decide +kernel
set_option maxRecDepth 100000 in
theorem dA_restart_19 : decode bA_restart 19 = .ok (.putfield 89, 3) := by decide +kernel
set_option maxRecDepth 100000 in
theorem dA_restart_22 : decode bA_restart 22 = .ok (.aload_n 0, 1) := by decide +kernel
set_option maxRecDepth 100000 in
theorem dA_restart_23 : decode bA_restart 23 = .ok (.iload_n 2, 1) := by decide +kernel
set_option maxRecDepth 100000 in
theorem dA_restart_24 : decode bA_restart 24 = .ok (.invokevirtual 112, 3) := by decide +kernel
set_option maxRecDepth 100000 in
theorem dA_restart_27 : decode bA_restart 27 = .ok (.ireturn, 1) := by decide +kernel
def fA_restart (σ : xS) : Option (Int32 × xS) :=
  xb (fA_misuseOfPlainStep σ 0) fun r2 s3 =>
  if r2 = 0 then
  (xl (x_si s3 0 0 16 (-1)) fun s5 =>
  xl (fA_idleWith s5 (s3.1 0 0 16)) fun s7 =>
  some (s7.1, s7.2))
  else
  (some (r2, s3))
set_option maxHeartbeats 4000000 in
set_option maxRecDepth 100000 in
theorem cA_restart (l : Launch) (E : xE) (σ : xS) (τ : yS) (res : Int32 × xS) (hf : fA_restart σ = some res) : xM l E yA_restart bA_restart 3 (some .int) 5 0 0 [.ref (E.2.2.1 0 0)] σ τ (some (.int res.1)) res.2 τ := by
  refine x_met (by decide) (Nat.le_of_ble_eq_true rfl) (fun p e R s m args below meth c A ls H locs C hw hl => ?_)
  have hl : lv_has ls 3 [(0, .ref (E.2.2.1 0 0))] := hl
  have hx := C.1
  have hb := C.2.1
  unfold fA_restart at hf
  refine lv_aload_n hx hb dA_restart_0 rfl (lv_at hl 0 rfl) ?_
  refine lv_iconst (v := 0) hx hb dA_restart_1 (by decide) ?_
  obtain ⟨r2, s3, h1, hf⟩ := x_b hf
  refine x_callV (As := [.int 0]) (rest := []) (st1 := [.int r2]) C hw (cA_misuseOfPlainStep l E σ τ 0 (r2, s3) h1) kA_101 (x_recv C hw 0 0 at_0 rfl rfl) (by decide) rfl rfl hl.1 (lv_room (Nat.le_of_ble_eq_true rfl)) dA_restart_2 ⟨by decide, by decide⟩ rfl (fun H locs hw => ?_)
  refine lv_istore_n (lv' := [(1, .int r2), (0, .ref (E.2.2.1 0 0))]) hx hb dA_restart_5 rfl hl (by decide) rfl (fun ls hl => ?_)
  refine lv_iload_n hx hb dA_restart_6 rfl (lv_at hl 0 rfl) ?_
  refine lv_if_eq (tgt := 12) hx hb dA_restart_7 (by decide) (fun c4 => ?_) (fun c4 => ?_)
  · replace hf := x_ip c4 hf
    refine lv_aload_n hx hb dA_restart_12 rfl (lv_at hl 1 rfl) ?_
    refine x_get C hw 0 0 16 (v := .int (s3.1 0 0 16)) at_0 rfl rfl ⟨by decide, by decide⟩ wA_89 rfl dA_restart_13 ?_
    refine lv_istore_n (lv' := [(2, .int (s3.1 0 0 16)), (1, .int r2), (0, .ref (E.2.2.1 0 0))]) hx hb dA_restart_16 rfl hl (by decide) rfl (fun ls hl => ?_)
    refine lv_aload_n hx hb dA_restart_17 rfl (lv_at hl 2 rfl) ?_
    refine lv_iconst (v := (-1)) hx hb dA_restart_18 (by decide) ?_
    refine x_puti C hw 0 0 16 at_0 rfl rfl rfl ⟨rfl, rfl⟩ ⟨by decide, by decide⟩ (Nat.le_of_ble_eq_true rfl) wA_89 dA_restart_19 (fun H locs hw => ?_)
    obtain ⟨s5, es5, hf⟩ := x_l hf
    rw [← es5] at hw
    refine lv_aload_n hx hb dA_restart_22 rfl (lv_at hl 2 rfl) ?_
    refine lv_iload_n hx hb dA_restart_23 rfl (lv_at hl 0 rfl) ?_
    obtain ⟨s7, h6, hf⟩ := x_l hf
    refine x_callV (As := [.int (s3.1 0 0 16)]) (rest := []) (st1 := [.int s7.1]) C hw (cA_idleWith l E s5 τ (s3.1 0 0 16) s7 h6.symm) kA_112 (x_recv C hw 0 0 at_0 rfl rfl) (by decide) rfl rfl hl.1 (lv_room (Nat.le_of_ble_eq_true rfl)) dA_restart_24 ⟨by decide, by decide⟩ rfl (fun H locs hw => ?_)
    obtain rfl := Option.some.inj hf
    exact x_iret C hw dA_restart_27
  · replace hf := x_in c4 hf
    refine lv_iload_n hx hb dA_restart_10 rfl (lv_at hl 0 rfl) ?_
    obtain rfl := Option.some.inj hf
    exact x_iret C hw dA_restart_11
-- StandIns noted (II)I
set_option maxRecDepth 100000 in
theorem dA_noted_0 : decode bA_noted 0 = .ok (.iload_n 1, 1) := by decide +kernel
set_option maxRecDepth 100000 in
theorem dA_noted_1 : decode bA_noted 1 = .ok (.aload_n 0, 1) := by decide +kernel
set_option maxRecDepth 100000 in
theorem dA_noted_2 : decode bA_noted 2 = .ok (.getfield 43, 3) := by decide +kernel
set_option maxRecDepth 100000 in
theorem dA_noted_5 : decode bA_noted 5 = .ok (.getfield 225, 3) := by decide +kernel
set_option maxRecDepth 100000 in
theorem dA_noted_8 : decode bA_noted 8 = .ok (.invokestatic 97, 3) := by decide +kernel
set_option maxRecDepth 100000 in
theorem dA_noted_11 : decode bA_noted 11 = .ok (.ifCond .ne 5, 3) := by decide +kernel
set_option maxRecDepth 100000 in
theorem dA_noted_14 : decode bA_noted 14 = .ok (.iconst (-1), 1) := by decide +kernel
set_option maxRecDepth 100000 in
theorem dA_noted_15 : decode bA_noted 15 = .ok (.ireturn, 1) := by decide +kernel
set_option maxRecDepth 100000 in
theorem dA_noted_16 : decode bA_noted 16 = .ok (.aload_n 0, 1) := by decide +kernel
set_option maxRecDepth 100000 in
theorem dA_noted_17 : decode bA_noted 17 = .ok (.getfield 43, 3) := by decide +kernel
set_option maxRecDepth 100000 in
theorem dA_noted_20 : decode bA_noted 20 = .ok (.getfield 226, 3) := by decide +kernel
set_option maxRecDepth 100000 in
theorem dA_noted_23 : decode bA_noted 23 = .ok (.iload_n 1, 1) := by decide +kernel
set_option maxRecDepth 100000 in
theorem dA_noted_24 : decode bA_noted 24 = .ok (.aaload, 1) := by decide +kernel
set_option maxRecDepth 100000 in
theorem dA_noted_25 : decode bA_noted 25 = .ok (.astore_n 3, 1) := by decide +kernel
set_option maxRecDepth 100000 in
theorem dA_noted_26 : decode bA_noted 26 = .ok (.iload_n 2, 1) := by decide +kernel
set_option maxRecDepth 100000 in
theorem dA_noted_27 : decode bA_noted 27 = .ok (.tableswitch 84 0 6 #[41, 46, 51, 56, 61, 66, 79], 41) := by decide +kernel
set_option maxRecDepth 100000 in
theorem dA_noted_68 : decode bA_noted 68 = .ok (.aload_n 3, 1) := by decide +kernel
set_option maxRecDepth 100000 in
theorem dA_noted_69 : decode bA_noted 69 = .ok (.getfield 230, 3) := by decide +kernel
set_option maxRecDepth 100000 in
theorem dA_noted_72 : decode bA_noted 72 = .ok (.ireturn, 1) := by decide +kernel
set_option maxRecDepth 100000 in
theorem dA_noted_73 : decode bA_noted 73 = .ok (.aload_n 3, 1) := by decide +kernel
set_option maxRecDepth 100000 in
theorem dA_noted_74 : decode bA_noted 74 = .ok (.getfield 235, 3) := by decide +kernel
set_option maxRecDepth 100000 in
theorem dA_noted_77 : decode bA_noted 77 = .ok (.ireturn, 1) := by decide +kernel
set_option maxRecDepth 100000 in
theorem dA_noted_78 : decode bA_noted 78 = .ok (.aload_n 3, 1) := by decide +kernel
set_option maxRecDepth 100000 in
theorem dA_noted_79 : decode bA_noted 79 = .ok (.getfield 236, 3) := by decide +kernel
set_option maxRecDepth 100000 in
theorem dA_noted_82 : decode bA_noted 82 = .ok (.ireturn, 1) := by decide +kernel
set_option maxRecDepth 100000 in
theorem dA_noted_83 : decode bA_noted 83 = .ok (.aload_n 3, 1) := by decide +kernel
set_option maxRecDepth 100000 in
theorem dA_noted_84 : decode bA_noted 84 = .ok (.getfield 237, 3) := by decide +kernel
set_option maxRecDepth 100000 in
theorem dA_noted_87 : decode bA_noted 87 = .ok (.ireturn, 1) := by decide +kernel
set_option maxRecDepth 100000 in
theorem dA_noted_88 : decode bA_noted 88 = .ok (.aload_n 3, 1) := by decide +kernel
set_option maxRecDepth 100000 in
theorem dA_noted_89 : decode bA_noted 89 = .ok (.getfield 240, 3) := by decide +kernel
set_option maxRecDepth 100000 in
theorem dA_noted_92 : decode bA_noted 92 = .ok (.ireturn, 1) := by decide +kernel
set_option maxRecDepth 100000 in
theorem dA_noted_93 : decode bA_noted 93 = .ok (.aload_n 3, 1) := by decide +kernel
set_option maxRecDepth 100000 in
theorem dA_noted_94 : decode bA_noted 94 = .ok (.getfield 243, 3) := by decide +kernel
set_option maxRecDepth 100000 in
theorem dA_noted_97 : decode bA_noted 97 = .ok (.ifCond .eq 7, 3) := by decide +kernel
set_option maxRecDepth 100000 in
theorem dA_noted_100 : decode bA_noted 100 = .ok (.iconst 1, 1) := by decide +kernel
set_option maxRecDepth 100000 in
theorem dA_noted_101 : decode bA_noted 101 = .ok (.goto 4, 3) := by decide +kernel
set_option maxRecDepth 100000 in
theorem dA_noted_104 : decode bA_noted 104 = .ok (.iconst 0, 1) := by decide +kernel
set_option maxRecDepth 100000 in
theorem dA_noted_105 : decode bA_noted 105 = .ok (.ireturn, 1) := by decide +kernel
set_option maxRecDepth 100000 in
theorem dA_noted_106 : decode bA_noted 106 = .ok (.aload_n 3, 1) := by decide +kernel
set_option maxRecDepth 100000 in
theorem dA_noted_107 : decode bA_noted 107 = .ok (.getfield 246, 3) := by decide +kernel
set_option maxRecDepth 100000 in
theorem dA_noted_110 : decode bA_noted 110 = .ok (.ireturn, 1) := by decide +kernel
set_option maxRecDepth 100000 in
theorem dA_noted_111 : decode bA_noted 111 = .ok (.iconst (-1), 1) := by decide +kernel
set_option maxRecDepth 100000 in
theorem dA_noted_112 : decode bA_noted 112 = .ok (.ireturn, 1) := by decide +kernel
def fA_noted (σ : xS) (a1 : Int32) (a2 : Int32) : Option (Int32) :=
  if (fA_isBelow a1 (σ.1 6 0 1)) = 0 then
  (some (-1))
  else
  (if ¬ (a1 < 0 ∨ 40 ≤ a1.toNatClampNeg) then
  if a2 = 0 then
  (some (σ.1 15 a1.toNatClampNeg 0))
  else
  (if a2 = 1 then
  (some (σ.1 15 a1.toNatClampNeg 1))
  else
  (if a2 = 2 then
  (some (σ.1 15 a1.toNatClampNeg 2))
  else
  (if a2 = 3 then
  (some (σ.1 15 a1.toNatClampNeg 3))
  else
  (if a2 = 4 then
  (some (σ.1 15 a1.toNatClampNeg 4))
  else
  (if a2 = 5 then
  (if (σ.1 15 a1.toNatClampNeg 5) = 0 then
  (some 0)
  else
  (some 1))
  else
  (if a2 = 6 then
  (some (σ.1 15 a1.toNatClampNeg 6))
  else
  (some (-1))))))))
  else none)
set_option maxHeartbeats 4000000 in
set_option maxRecDepth 100000 in
theorem cA_noted (l : Launch) (E : xE) (σ : xS) (τ : yS) (a1 : Int32) (a2 : Int32) (res : Int32) (hf : fA_noted σ a1 a2 = some res) : xM l E yA_noted bA_noted 4 (some .int) 1 0 0 [.ref (E.2.2.1 0 0), .int a1, .int a2] σ τ (some (.int res)) σ τ := by
  refine x_met (by decide) (Nat.le_of_ble_eq_true rfl) (fun p e R s m args below meth c A ls H locs C hw hl => ?_)
  have hl : lv_has ls 4 [(0, .ref (E.2.2.1 0 0)), (1, .int a1), (2, .int a2)] := hl
  have hx := C.1
  have hb := C.2.1
  unfold fA_noted at hf
  refine lv_iload_n hx hb dA_noted_0 rfl (lv_at hl 1 rfl) ?_
  refine lv_aload_n hx hb dA_noted_1 rfl (lv_at hl 0 rfl) ?_
  refine x_get C hw 0 0 6 (v := .ref (E.2.2.1 6 0)) at_0 rfl rfl ⟨by decide, by decide⟩ wA_43 rfl dA_noted_2 ?_
  refine x_getN C hw 6 0 1 (v := .int (σ.1 6 0 1)) at_6 rfl rfl ⟨by decide, by decide⟩ wA_225 rfl dA_noted_5 ?_
  refine x_callS (As := [.int a1, .int (σ.1 6 0 1)]) (rest := []) (st1 := [.int (fA_isBelow a1 (σ.1 6 0 1))]) C hw (cA_isBelow l E σ τ a1 (σ.1 6 0 1)) kA_97 (by decide) rfl rfl hl.1 (lv_room (Nat.le_of_ble_eq_true rfl)) dA_noted_8 ⟨by decide, by decide⟩ rfl (fun H locs hw => ?_)
  refine lv_if_ne (tgt := 16) hx hb dA_noted_11 (by decide) (fun c2 => ?_) (fun c2 => ?_)
  · replace hf := x_in c2 hf
    refine lv_aload_n hx hb dA_noted_16 rfl (lv_at hl 0 rfl) ?_
    refine x_get C hw 0 0 6 (v := .ref (E.2.2.1 6 0)) at_0 rfl rfl ⟨by decide, by decide⟩ wA_43 rfl dA_noted_17 ?_
    refine x_getN C hw 6 0 0 (v := .ref (E.2.2.1 7 0)) at_6 rfl rfl ⟨by decide, by decide⟩ wA_226 rfl dA_noted_20 ?_
    refine lv_iload_n hx hb dA_noted_23 rfl (lv_at hl 1 rfl) ?_
    obtain ⟨g3, hf⟩ := x_g hf
    refine x_ald7 C hw g3 dA_noted_24 ?_
    have g4 := x_lt g3
    refine lv_astore_n (lv' := [(3, .ref (E.2.2.1 15 a1.toNatClampNeg)), (0, .ref (E.2.2.1 0 0)), (1, .int a1), (2, .int a2)]) hx hb dA_noted_25 rfl hl (by decide) rfl (fun ls hl => ?_)
    refine lv_iload_n hx hb dA_noted_26 rfl (lv_at hl 3 rfl) ?_
    by_cases c5 : a2 = 0
    · replace hf := x_ip c5 hf
      refine lv_tableIn (tgt := 68) hx hb dA_noted_27 (by rw [c5]; decide) (by rw [c5]; decide) (by rw [c5]; rfl) (by decide) ?_
      refine lv_aload_n hx hb dA_noted_68 rfl (lv_at hl 0 rfl) ?_
      refine x_getN C hw 15 a1.toNatClampNeg 0 (v := .int (σ.1 15 a1.toNatClampNeg 0)) (at_15 g4) rfl rfl ⟨by decide, by decide⟩ wA_230 rfl dA_noted_69 ?_
      obtain rfl := Option.some.inj hf
      exact x_iret C hw dA_noted_72
    · replace hf := x_in c5 hf
      by_cases c6 : a2 = 1
      · replace hf := x_ip c6 hf
        refine lv_tableIn (tgt := 73) hx hb dA_noted_27 (by rw [c6]; decide) (by rw [c6]; decide) (by rw [c6]; rfl) (by decide) ?_
        refine lv_aload_n hx hb dA_noted_73 rfl (lv_at hl 0 rfl) ?_
        refine x_getN C hw 15 a1.toNatClampNeg 1 (v := .int (σ.1 15 a1.toNatClampNeg 1)) (at_15 g4) rfl rfl ⟨by decide, by decide⟩ wA_235 rfl dA_noted_74 ?_
        obtain rfl := Option.some.inj hf
        exact x_iret C hw dA_noted_77
      · replace hf := x_in c6 hf
        by_cases c7 : a2 = 2
        · replace hf := x_ip c7 hf
          refine lv_tableIn (tgt := 78) hx hb dA_noted_27 (by rw [c7]; decide) (by rw [c7]; decide) (by rw [c7]; rfl) (by decide) ?_
          refine lv_aload_n hx hb dA_noted_78 rfl (lv_at hl 0 rfl) ?_
          refine x_getN C hw 15 a1.toNatClampNeg 2 (v := .int (σ.1 15 a1.toNatClampNeg 2)) (at_15 g4) rfl rfl ⟨by decide, by decide⟩ wA_236 rfl dA_noted_79 ?_
          obtain rfl := Option.some.inj hf
          exact x_iret C hw dA_noted_82
        · replace hf := x_in c7 hf
          by_cases c8 : a2 = 3
          · replace hf := x_ip c8 hf
            refine lv_tableIn (tgt := 83) hx hb dA_noted_27 (by rw [c8]; decide) (by rw [c8]; decide) (by rw [c8]; rfl) (by decide) ?_
            refine lv_aload_n hx hb dA_noted_83 rfl (lv_at hl 0 rfl) ?_
            refine x_getN C hw 15 a1.toNatClampNeg 3 (v := .int (σ.1 15 a1.toNatClampNeg 3)) (at_15 g4) rfl rfl ⟨by decide, by decide⟩ wA_237 rfl dA_noted_84 ?_
            obtain rfl := Option.some.inj hf
            exact x_iret C hw dA_noted_87
          · replace hf := x_in c8 hf
            by_cases c9 : a2 = 4
            · replace hf := x_ip c9 hf
              refine lv_tableIn (tgt := 88) hx hb dA_noted_27 (by rw [c9]; decide) (by rw [c9]; decide) (by rw [c9]; rfl) (by decide) ?_
              refine lv_aload_n hx hb dA_noted_88 rfl (lv_at hl 0 rfl) ?_
              refine x_getN C hw 15 a1.toNatClampNeg 4 (v := .int (σ.1 15 a1.toNatClampNeg 4)) (at_15 g4) rfl rfl ⟨by decide, by decide⟩ wA_240 rfl dA_noted_89 ?_
              obtain rfl := Option.some.inj hf
              exact x_iret C hw dA_noted_92
            · replace hf := x_in c9 hf
              by_cases c10 : a2 = 5
              · replace hf := x_ip c10 hf
                refine lv_tableIn (tgt := 93) hx hb dA_noted_27 (by rw [c10]; decide) (by rw [c10]; decide) (by rw [c10]; rfl) (by decide) ?_
                refine lv_aload_n hx hb dA_noted_93 rfl (lv_at hl 0 rfl) ?_
                refine x_getN C hw 15 a1.toNatClampNeg 5 (v := .int (σ.1 15 a1.toNatClampNeg 5)) (at_15 g4) rfl rfl ⟨by decide, by decide⟩ wA_243 rfl dA_noted_94 ?_
                refine lv_if_eq (tgt := 104) hx hb dA_noted_97 (by decide) (fun c11 => ?_) (fun c11 => ?_)
                · replace hf := x_ip c11 hf
                  refine lv_iconst (v := 0) hx hb dA_noted_104 (by decide) ?_
                  obtain rfl := Option.some.inj hf
                  exact x_iret C hw dA_noted_105
                · replace hf := x_in c11 hf
                  refine lv_iconst (v := 1) hx hb dA_noted_100 (by decide) ?_
                  refine lv_goto (tgt := 105) hx hb dA_noted_101 (by decide) ?_
                  obtain rfl := Option.some.inj hf
                  exact x_iret C hw dA_noted_105
              · replace hf := x_in c10 hf
                by_cases c12 : a2 = 6
                · replace hf := x_ip c12 hf
                  refine lv_tableIn (tgt := 106) hx hb dA_noted_27 (by rw [c12]; decide) (by rw [c12]; decide) (by rw [c12]; rfl) (by decide) ?_
                  refine lv_aload_n hx hb dA_noted_106 rfl (lv_at hl 0 rfl) ?_
                  refine x_getN C hw 15 a1.toNatClampNeg 6 (v := .int (σ.1 15 a1.toNatClampNeg 6)) (at_15 g4) rfl rfl ⟨by decide, by decide⟩ wA_246 rfl dA_noted_107 ?_
                  obtain rfl := Option.some.inj hf
                  exact x_iret C hw dA_noted_110
                · replace hf := x_in c12 hf
                  refine lv_tableOut (tgt := 111) hx hb dA_noted_27 (by have nc5 := lv_neT c5 (a := 0) (by decide); have nc6 := lv_neT c6 (a := 1) (by decide); have nc7 := lv_neT c7 (a := 2) (by decide); have nc8 := lv_neT c8 (a := 3) (by decide); have nc9 := lv_neT c9 (a := 4) (by decide); have nc10 := lv_neT c10 (a := 5) (by decide); have nc12 := lv_neT c12 (a := 6) (by decide); omega) (by decide) ?_
                  refine lv_iconst (v := (-1)) hx hb dA_noted_111 (by decide) ?_
                  obtain rfl := Option.some.inj hf
                  exact x_iret C hw dA_noted_112
  · replace hf := x_ip c2 hf
    refine lv_iconst (v := (-1)) hx hb dA_noted_14 (by decide) ?_
    obtain rfl := Option.some.inj hf
    exact x_iret C hw dA_noted_15
-- StandIns telling (II)I
set_option maxRecDepth 100000 in
theorem dA_telling_0 : decode bA_telling 0 = .ok (.iload_n 1, 1) := by decide +kernel
set_option maxRecDepth 100000 in
theorem dA_telling_1 : decode bA_telling 1 = .ok (.aload_n 0, 1) := by decide +kernel
set_option maxRecDepth 100000 in
theorem dA_telling_2 : decode bA_telling 2 = .ok (.getfield 53, 3) := by decide +kernel
set_option maxRecDepth 100000 in
theorem dA_telling_5 : decode bA_telling 5 = .ok (.invokestatic 97, 3) := by decide +kernel
set_option maxRecDepth 100000 in
theorem dA_telling_8 : decode bA_telling 8 = .ok (.ifCond .ne 5, 3) := by decide +kernel
set_option maxRecDepth 100000 in
theorem dA_telling_11 : decode bA_telling 11 = .ok (.iconst (-1), 1) := by decide +kernel
set_option maxRecDepth 100000 in
theorem dA_telling_12 : decode bA_telling 12 = .ok (.ireturn, 1) := by decide +kernel
set_option maxRecDepth 100000 in
theorem dA_telling_13 : decode bA_telling 13 = .ok (.aload_n 0, 1) := by decide +kernel
set_option maxRecDepth 100000 in
theorem dA_telling_14 : decode bA_telling 14 = .ok (.getfield 49, 3) := by decide +kernel
set_option maxRecDepth 100000 in
theorem dA_telling_17 : decode bA_telling 17 = .ok (.iload_n 1, 1) := by decide +kernel
set_option maxRecDepth 100000 in
theorem dA_telling_18 : decode bA_telling 18 = .ok (.aaload, 1) := by decide +kernel
set_option maxRecDepth 100000 in
theorem dA_telling_19 : decode bA_telling 19 = .ok (.astore_n 3, 1) := by decide +kernel
set_option maxRecDepth 100000 in
theorem dA_telling_20 : decode bA_telling 20 = .ok (.iload_n 2, 1) := by decide +kernel
set_option maxRecDepth 100000 in
theorem dA_telling_21 : decode bA_telling 21 = .ok (.tableswitch 77 0 4 #[35, 43, 51, 59, 64], 35) := by decide +kernel
set_option maxRecDepth 100000 in
theorem dA_telling_56 : decode bA_telling 56 = .ok (.aload_n 3, 1) := by decide +kernel
set_option maxRecDepth 100000 in
theorem dA_telling_57 : decode bA_telling 57 = .ok (.getfield 249, 3) := by decide +kernel
set_option maxRecDepth 100000 in
theorem dA_telling_60 : decode bA_telling 60 = .ok (.getfield 170, 3) := by decide +kernel
set_option maxRecDepth 100000 in
theorem dA_telling_63 : decode bA_telling 63 = .ok (.ireturn, 1) := by decide +kernel
set_option maxRecDepth 100000 in
theorem dA_telling_64 : decode bA_telling 64 = .ok (.aload_n 3, 1) := by decide +kernel
set_option maxRecDepth 100000 in
theorem dA_telling_65 : decode bA_telling 65 = .ok (.getfield 249, 3) := by decide +kernel
set_option maxRecDepth 100000 in
theorem dA_telling_68 : decode bA_telling 68 = .ok (.getfield 173, 3) := by decide +kernel
set_option maxRecDepth 100000 in
theorem dA_telling_71 : decode bA_telling 71 = .ok (.ireturn, 1) := by decide +kernel
set_option maxRecDepth 100000 in
theorem dA_telling_72 : decode bA_telling 72 = .ok (.aload_n 3, 1) := by decide +kernel
set_option maxRecDepth 100000 in
theorem dA_telling_73 : decode bA_telling 73 = .ok (.getfield 211, 3) := by decide +kernel
set_option maxRecDepth 100000 in
theorem dA_telling_76 : decode bA_telling 76 = .ok (.getfield 214, 3) := by decide +kernel
set_option maxRecDepth 100000 in
theorem dA_telling_79 : decode bA_telling 79 = .ok (.ireturn, 1) := by decide +kernel
set_option maxRecDepth 100000 in
theorem dA_telling_80 : decode bA_telling 80 = .ok (.aload_n 3, 1) := by decide +kernel
set_option maxRecDepth 100000 in
theorem dA_telling_81 : decode bA_telling 81 = .ok (.getfield 252, 3) := by decide +kernel
set_option maxRecDepth 100000 in
theorem dA_telling_84 : decode bA_telling 84 = .ok (.ireturn, 1) := by decide +kernel
set_option maxRecDepth 100000 in
theorem dA_telling_85 : decode bA_telling 85 = .ok (.aload_n 3, 1) := by decide +kernel
set_option maxRecDepth 100000 in
theorem dA_telling_86 : decode bA_telling 86 = .ok (.getfield 255, 3) := by decide +kernel
set_option maxRecDepth 100000 in
theorem dA_telling_89 : decode bA_telling 89 = .ok (.ifCond .eq 7, 3) := by decide +kernel
set_option maxRecDepth 100000 in
theorem dA_telling_92 : decode bA_telling 92 = .ok (.iconst 0, 1) := by decide +kernel
set_option maxRecDepth 100000 in
theorem dA_telling_93 : decode bA_telling 93 = .ok (.goto 4, 3) := by decide +kernel
set_option maxRecDepth 100000 in
theorem dA_telling_96 : decode bA_telling 96 = .ok (.iconst 1, 1) := by decide +kernel
set_option maxRecDepth 100000 in
theorem dA_telling_97 : decode bA_telling 97 = .ok (.ireturn, 1) := by decide +kernel
set_option maxRecDepth 100000 in
theorem dA_telling_98 : decode bA_telling 98 = .ok (.iconst (-1), 1) := by decide +kernel
set_option maxRecDepth 100000 in
theorem dA_telling_99 : decode bA_telling 99 = .ok (.ireturn, 1) := by decide +kernel
def fA_telling (σ : xS) (a1 : Int32) (a2 : Int32) : Option (Int32) :=
  if (fA_isBelow a1 (σ.1 0 0 8)) = 0 then
  (some (-1))
  else
  (if ¬ (a1 < 0 ∨ 16 ≤ a1.toNatClampNeg) then
  if a2 = 0 then
  (if a1.toNatClampNeg < 17 then
  some (σ.1 17 a1.toNatClampNeg 0)
  else none)
  else
  (if a2 = 1 then
  (if a1.toNatClampNeg < 17 then
  some (σ.1 17 a1.toNatClampNeg 1)
  else none)
  else
  (if a2 = 2 then
  (if a1.toNatClampNeg < 17 then
  some (σ.1 18 a1.toNatClampNeg 2)
  else none)
  else
  (if a2 = 3 then
  (some (σ.1 16 a1.toNatClampNeg 3))
  else
  (if a2 = 4 then
  (if (σ.1 16 a1.toNatClampNeg 4) = 0 then
  (some 1)
  else
  (some 0))
  else
  (some (-1))))))
  else none)
set_option maxHeartbeats 4000000 in
set_option maxRecDepth 100000 in
theorem cA_telling (l : Launch) (E : xE) (σ : xS) (τ : yS) (a1 : Int32) (a2 : Int32) (res : Int32) (hf : fA_telling σ a1 a2 = some res) : xM l E yA_telling bA_telling 4 (some .int) 1 0 0 [.ref (E.2.2.1 0 0), .int a1, .int a2] σ τ (some (.int res)) σ τ := by
  refine x_met (by decide) (Nat.le_of_ble_eq_true rfl) (fun p e R s m args below meth c A ls H locs C hw hl => ?_)
  have hl : lv_has ls 4 [(0, .ref (E.2.2.1 0 0)), (1, .int a1), (2, .int a2)] := hl
  have hx := C.1
  have hb := C.2.1
  unfold fA_telling at hf
  refine lv_iload_n hx hb dA_telling_0 rfl (lv_at hl 1 rfl) ?_
  refine lv_aload_n hx hb dA_telling_1 rfl (lv_at hl 0 rfl) ?_
  refine x_get C hw 0 0 8 (v := .int (σ.1 0 0 8)) at_0 rfl rfl ⟨by decide, by decide⟩ wA_53 rfl dA_telling_2 ?_
  refine x_callS (As := [.int a1, .int (σ.1 0 0 8)]) (rest := []) (st1 := [.int (fA_isBelow a1 (σ.1 0 0 8))]) C hw (cA_isBelow l E σ τ a1 (σ.1 0 0 8)) kA_97 (by decide) rfl rfl hl.1 (lv_room (Nat.le_of_ble_eq_true rfl)) dA_telling_5 ⟨by decide, by decide⟩ rfl (fun H locs hw => ?_)
  refine lv_if_ne (tgt := 13) hx hb dA_telling_8 (by decide) (fun c2 => ?_) (fun c2 => ?_)
  · replace hf := x_in c2 hf
    refine lv_aload_n hx hb dA_telling_13 rfl (lv_at hl 0 rfl) ?_
    refine x_get C hw 0 0 7 (v := .ref (E.2.2.1 8 0)) at_0 rfl rfl ⟨by decide, by decide⟩ wA_49 rfl dA_telling_14 ?_
    refine lv_iload_n hx hb dA_telling_17 rfl (lv_at hl 1 rfl) ?_
    obtain ⟨g3, hf⟩ := x_g hf
    refine x_ald8 C hw g3 dA_telling_18 ?_
    have g4 := x_lt g3
    refine lv_astore_n (lv' := [(3, .ref (E.2.2.1 16 a1.toNatClampNeg)), (0, .ref (E.2.2.1 0 0)), (1, .int a1), (2, .int a2)]) hx hb dA_telling_19 rfl hl (by decide) rfl (fun ls hl => ?_)
    refine lv_iload_n hx hb dA_telling_20 rfl (lv_at hl 3 rfl) ?_
    by_cases c5 : a2 = 0
    · replace hf := x_ip c5 hf
      refine lv_tableIn (tgt := 56) hx hb dA_telling_21 (by rw [c5]; decide) (by rw [c5]; decide) (by rw [c5]; rfl) (by decide) ?_
      refine lv_aload_n hx hb dA_telling_56 rfl (lv_at hl 0 rfl) ?_
      refine x_getN C hw 16 a1.toNatClampNeg 0 (v := .ref (E.2.2.1 17 a1.toNatClampNeg)) (at_16 g4) rfl rfl ⟨by decide, by decide⟩ wA_249 rfl dA_telling_57 ?_
      obtain ⟨g6, hf⟩ := x_g hf
      refine x_getN C hw 17 a1.toNatClampNeg 0 (v := .int (σ.1 17 a1.toNatClampNeg 0)) (at_17 g6) rfl rfl ⟨by decide, by decide⟩ wA_170 rfl dA_telling_60 ?_
      obtain rfl := Option.some.inj hf
      exact x_iret C hw dA_telling_63
    · replace hf := x_in c5 hf
      by_cases c7 : a2 = 1
      · replace hf := x_ip c7 hf
        refine lv_tableIn (tgt := 64) hx hb dA_telling_21 (by rw [c7]; decide) (by rw [c7]; decide) (by rw [c7]; rfl) (by decide) ?_
        refine lv_aload_n hx hb dA_telling_64 rfl (lv_at hl 0 rfl) ?_
        refine x_getN C hw 16 a1.toNatClampNeg 0 (v := .ref (E.2.2.1 17 a1.toNatClampNeg)) (at_16 g4) rfl rfl ⟨by decide, by decide⟩ wA_249 rfl dA_telling_65 ?_
        obtain ⟨g8, hf⟩ := x_g hf
        refine x_getN C hw 17 a1.toNatClampNeg 1 (v := .int (σ.1 17 a1.toNatClampNeg 1)) (at_17 g8) rfl rfl ⟨by decide, by decide⟩ wA_173 rfl dA_telling_68 ?_
        obtain rfl := Option.some.inj hf
        exact x_iret C hw dA_telling_71
      · replace hf := x_in c7 hf
        by_cases c9 : a2 = 2
        · replace hf := x_ip c9 hf
          refine lv_tableIn (tgt := 72) hx hb dA_telling_21 (by rw [c9]; decide) (by rw [c9]; decide) (by rw [c9]; rfl) (by decide) ?_
          refine lv_aload_n hx hb dA_telling_72 rfl (lv_at hl 0 rfl) ?_
          refine x_getN C hw 16 a1.toNatClampNeg 1 (v := .ref (E.2.2.1 18 a1.toNatClampNeg)) (at_16 g4) rfl rfl ⟨by decide, by decide⟩ wA_211 rfl dA_telling_73 ?_
          obtain ⟨g10, hf⟩ := x_g hf
          refine x_getN C hw 18 a1.toNatClampNeg 2 (v := .int (σ.1 18 a1.toNatClampNeg 2)) (at_18 g10) rfl rfl ⟨by decide, by decide⟩ wA_214 rfl dA_telling_76 ?_
          obtain rfl := Option.some.inj hf
          exact x_iret C hw dA_telling_79
        · replace hf := x_in c9 hf
          by_cases c11 : a2 = 3
          · replace hf := x_ip c11 hf
            refine lv_tableIn (tgt := 80) hx hb dA_telling_21 (by rw [c11]; decide) (by rw [c11]; decide) (by rw [c11]; rfl) (by decide) ?_
            refine lv_aload_n hx hb dA_telling_80 rfl (lv_at hl 0 rfl) ?_
            refine x_getN C hw 16 a1.toNatClampNeg 3 (v := .int (σ.1 16 a1.toNatClampNeg 3)) (at_16 g4) rfl rfl ⟨by decide, by decide⟩ wA_252 rfl dA_telling_81 ?_
            obtain rfl := Option.some.inj hf
            exact x_iret C hw dA_telling_84
          · replace hf := x_in c11 hf
            by_cases c12 : a2 = 4
            · replace hf := x_ip c12 hf
              refine lv_tableIn (tgt := 85) hx hb dA_telling_21 (by rw [c12]; decide) (by rw [c12]; decide) (by rw [c12]; rfl) (by decide) ?_
              refine lv_aload_n hx hb dA_telling_85 rfl (lv_at hl 0 rfl) ?_
              refine x_getN C hw 16 a1.toNatClampNeg 4 (v := .int (σ.1 16 a1.toNatClampNeg 4)) (at_16 g4) rfl rfl ⟨by decide, by decide⟩ wA_255 rfl dA_telling_86 ?_
              refine lv_if_eq (tgt := 96) hx hb dA_telling_89 (by decide) (fun c13 => ?_) (fun c13 => ?_)
              · replace hf := x_ip c13 hf
                refine lv_iconst (v := 1) hx hb dA_telling_96 (by decide) ?_
                obtain rfl := Option.some.inj hf
                exact x_iret C hw dA_telling_97
              · replace hf := x_in c13 hf
                refine lv_iconst (v := 0) hx hb dA_telling_92 (by decide) ?_
                refine lv_goto (tgt := 97) hx hb dA_telling_93 (by decide) ?_
                obtain rfl := Option.some.inj hf
                exact x_iret C hw dA_telling_97
            · replace hf := x_in c12 hf
              refine lv_tableOut (tgt := 98) hx hb dA_telling_21 (by have nc5 := lv_neT c5 (a := 0) (by decide); have nc7 := lv_neT c7 (a := 1) (by decide); have nc9 := lv_neT c9 (a := 2) (by decide); have nc11 := lv_neT c11 (a := 3) (by decide); have nc12 := lv_neT c12 (a := 4) (by decide); omega) (by decide) ?_
              refine lv_iconst (v := (-1)) hx hb dA_telling_98 (by decide) ?_
              obtain rfl := Option.some.inj hf
              exact x_iret C hw dA_telling_99
  · replace hf := x_ip c2 hf
    refine lv_iconst (v := (-1)) hx hb dA_telling_11 (by decide) ?_
    obtain rfl := Option.some.inj hf
    exact x_iret C hw dA_telling_12
-- StandIns found (I)I
set_option maxRecDepth 100000 in
theorem dA_found_0 : decode bA_found 0 = .ok (.aload_n 0, 1) := by decide +kernel
set_option maxRecDepth 100000 in
theorem dA_found_1 : decode bA_found 1 = .ok (.getfield 59, 3) := by decide +kernel
set_option maxRecDepth 100000 in
theorem dA_found_4 : decode bA_found 4 = .ok (.getfield 258, 3) := by decide +kernel
set_option maxRecDepth 100000 in
theorem dA_found_7 : decode bA_found 7 = .ok (.ifCond .eq 7, 3) := by decide +kernel
set_option maxRecDepth 100000 in
theorem dA_found_10 : decode bA_found 10 = .ok (.iload_n 1, 1) := by decide +kernel
set_option maxRecDepth 100000 in
theorem dA_found_11 : decode bA_found 11 = .ok (.ifCond .ge 5, 3) := by decide +kernel
set_option maxRecDepth 100000 in
theorem dA_found_14 : decode bA_found 14 = .ok (.iconst (-1), 1) := by decide +kernel
set_option maxRecDepth 100000 in
theorem dA_found_15 : decode bA_found 15 = .ok (.ireturn, 1) := by decide +kernel
set_option maxRecDepth 100000 in
theorem dA_found_16 : decode bA_found 16 = .ok (.iload_n 1, 1) := by decide +kernel
set_option maxRecDepth 100000 in
theorem dA_found_17 : decode bA_found 17 = .ok (.ifCond .ne 19, 3) := by decide +kernel
set_option maxRecDepth 100000 in
theorem dA_found_20 : decode bA_found 20 = .ok (.aload_n 0, 1) := by decide +kernel
set_option maxRecDepth 100000 in
theorem dA_found_21 : decode bA_found 21 = .ok (.getfield 59, 3) := by decide +kernel
set_option maxRecDepth 100000 in
theorem dA_found_24 : decode bA_found 24 = .ok (.getfield 261, 3) := by decide +kernel
set_option maxRecDepth 100000 in
theorem dA_found_27 : decode bA_found 27 = .ok (.ifCond .eq 7, 3) := by decide +kernel
set_option maxRecDepth 100000 in
theorem dA_found_30 : decode bA_found 30 = .ok (.iconst 1, 1) := by decide +kernel
set_option maxRecDepth 100000 in
theorem dA_found_31 : decode bA_found 31 = .ok (.goto 4, 3) := by decide +kernel
set_option maxRecDepth 100000 in
theorem dA_found_34 : decode bA_found 34 = .ok (.iconst 0, 1) := by decide +kernel
set_option maxRecDepth 100000 in
theorem dA_found_35 : decode bA_found 35 = .ok (.ireturn, 1) := by decide +kernel
set_option maxRecDepth 100000 in
theorem dA_found_36 : decode bA_found 36 = .ok (.iload_n 1, 1) := by decide +kernel
set_option maxRecDepth 100000 in
theorem dA_found_37 : decode bA_found 37 = .ok (.iconst 1, 1) := by decide +kernel
set_option maxRecDepth 100000 in
theorem dA_found_38 : decode bA_found 38 = .ok (.if_icmp .ne 11, 3) := by decide +kernel
set_option maxRecDepth 100000 in
theorem dA_found_41 : decode bA_found 41 = .ok (.aload_n 0, 1) := by decide +kernel
set_option maxRecDepth 100000 in
theorem dA_found_42 : decode bA_found 42 = .ok (.getfield 59, 3) := by decide +kernel
set_option maxRecDepth 100000 in
theorem dA_found_45 : decode bA_found 45 = .ok (.getfield 264, 3) := by decide +kernel
set_option maxRecDepth 100000 in
theorem dA_found_48 : decode bA_found 48 = .ok (.ireturn, 1) := by decide +kernel
set_option maxRecDepth 100000 in
theorem dA_found_49 : decode bA_found 49 = .ok (.iload_n 1, 1) := by decide +kernel
set_option maxRecDepth 100000 in
theorem dA_found_50 : decode bA_found 50 = .ok (.iconst 2, 1) := by decide +kernel
set_option maxRecDepth 100000 in
theorem dA_found_51 : decode bA_found 51 = .ok (.isub, 1) := by decide +kernel
set_option maxRecDepth 100000 in
theorem dA_found_52 : decode bA_found 52 = .ok (.aload_n 0, 1) := by decide +kernel
set_option maxRecDepth 100000 in
theorem dA_found_53 : decode bA_found 53 = .ok (.getfield 59, 3) := by decide +kernel
set_option maxRecDepth 100000 in
theorem dA_found_56 : decode bA_found 56 = .ok (.getfield 264, 3) := by decide +kernel
set_option maxRecDepth 100000 in
theorem dA_found_59 : decode bA_found 59 = .ok (.invokestatic 97, 3) := by decide +kernel
set_option maxRecDepth 100000 in
theorem dA_found_62 : decode bA_found 62 = .ok (.ifCond .eq 17, 3) := by decide +kernel
set_option maxRecDepth 100000 in
theorem dA_found_65 : decode bA_found 65 = .ok (.aload_n 0, 1) := by decide +kernel
set_option maxRecDepth 100000 in
theorem dA_found_66 : decode bA_found 66 = .ok (.getfield 59, 3) := by decide +kernel
set_option maxRecDepth 100000 in
theorem dA_found_69 : decode bA_found 69 = .ok (.getfield 265, 3) := by decide +kernel
set_option maxRecDepth 100000 in
theorem dA_found_72 : decode bA_found 72 = .ok (.iload_n 1, 1) := by decide +kernel
set_option maxRecDepth 100000 in
theorem dA_found_73 : decode bA_found 73 = .ok (.iconst 2, 1) := by decide +kernel
set_option maxRecDepth 100000 in
theorem dA_found_74 : decode bA_found 74 = .ok (.isub, 1) := by decide +kernel
set_option maxRecDepth 100000 in
theorem dA_found_75 : decode bA_found 75 = .ok (.iaload, 1) := by decide +kernel
set_option maxRecDepth 100000 in
theorem dA_found_76 : decode bA_found 76 = .ok (.goto 4, 3) := by decide +kernel
set_option maxRecDepth 100000 in
theorem dA_found_79 : decode bA_found 79 = .ok (.iconst (-1), 1) := by decide +kernel
set_option maxRecDepth 100000 in
theorem dA_found_80 : decode bA_found 80 = .ok (.ireturn, 1) := by decide +kernel
def fA_found (σ : xS) (a1 : Int32) : Option (Int32) :=
  if (σ.1 9 0 3) = 0 then
  (some (-1))
  else
  (if 0 ≤ a1 then
  (if a1 = 0 then
  (if (σ.1 9 0 4) = 0 then
  (some 0)
  else
  (some 1))
  else
  (if a1 = 1 then
  (some (σ.1 9 0 2))
  else
  (if (fA_isBelow (a1 - 2) (σ.1 9 0 2)) = 0 then
  (some (-1))
  else
  (if ¬ ((a1 - 2) < 0 ∨ 40 ≤ (a1 - 2).toNatClampNeg) then
  some (σ.1 11 0 ((a1 - 2).toNatClampNeg))
  else none))))
  else
  (some (-1)))
set_option maxHeartbeats 4000000 in
set_option maxRecDepth 100000 in
theorem cA_found (l : Launch) (E : xE) (σ : xS) (τ : yS) (a1 : Int32) (res : Int32) (hf : fA_found σ a1 = some res) : xM l E yA_found bA_found 2 (some .int) 1 0 0 [.ref (E.2.2.1 0 0), .int a1] σ τ (some (.int res)) σ τ := by
  refine x_met (by decide) (Nat.le_of_ble_eq_true rfl) (fun p e R s m args below meth c A ls H locs C hw hl => ?_)
  have hl : lv_has ls 2 [(0, .ref (E.2.2.1 0 0)), (1, .int a1)] := hl
  have hx := C.1
  have hb := C.2.1
  unfold fA_found at hf
  refine lv_aload_n hx hb dA_found_0 rfl (lv_at hl 0 rfl) ?_
  refine x_get C hw 0 0 9 (v := .ref (E.2.2.1 9 0)) at_0 rfl rfl ⟨by decide, by decide⟩ wA_59 rfl dA_found_1 ?_
  refine x_getN C hw 9 0 3 (v := .int (σ.1 9 0 3)) at_9 rfl rfl ⟨by decide, by decide⟩ wA_258 rfl dA_found_4 ?_
  refine lv_if_eq (tgt := 14) hx hb dA_found_7 (by decide) (fun c1 => ?_) (fun c1 => ?_)
  · replace hf := x_ip c1 hf
    refine lv_iconst (v := (-1)) hx hb dA_found_14 (by decide) ?_
    obtain rfl := Option.some.inj hf
    exact x_iret C hw dA_found_15
  · replace hf := x_in c1 hf
    refine lv_iload_n hx hb dA_found_10 rfl (lv_at hl 1 rfl) ?_
    refine lv_if_ge (tgt := 16) hx hb dA_found_11 (by decide) (fun c2 => ?_) (fun c2 => ?_)
    · replace hf := x_ip c2 hf
      refine lv_iload_n hx hb dA_found_16 rfl (lv_at hl 1 rfl) ?_
      refine lv_if_ne (tgt := 36) hx hb dA_found_17 (by decide) (fun c3 => ?_) (fun c3 => ?_)
      · replace hf := x_in c3 hf
        refine lv_iload_n hx hb dA_found_36 rfl (lv_at hl 1 rfl) ?_
        refine lv_iconst (v := 1) hx hb dA_found_37 (by decide) ?_
        refine lv_icmp_ne (tgt := 49) hx hb dA_found_38 (by decide) (fun c4 => ?_) (fun c4 => ?_)
        · replace hf := x_in c4 hf
          refine lv_iload_n hx hb dA_found_49 rfl (lv_at hl 1 rfl) ?_
          refine lv_iconst (v := 2) hx hb dA_found_50 (by decide) ?_
          refine lv_isub hx hb dA_found_51 ?_
          refine lv_aload_n hx hb dA_found_52 rfl (lv_at hl 0 rfl) ?_
          refine x_get C hw 0 0 9 (v := .ref (E.2.2.1 9 0)) at_0 rfl rfl ⟨by decide, by decide⟩ wA_59 rfl dA_found_53 ?_
          refine x_getN C hw 9 0 2 (v := .int (σ.1 9 0 2)) at_9 rfl rfl ⟨by decide, by decide⟩ wA_264 rfl dA_found_56 ?_
          refine x_callS (As := [.int (a1 - 2), .int (σ.1 9 0 2)]) (rest := []) (st1 := [.int (fA_isBelow (a1 - 2) (σ.1 9 0 2))]) C hw (cA_isBelow l E σ τ (a1 - 2) (σ.1 9 0 2)) kA_97 (by decide) rfl rfl hl.1 (lv_room (Nat.le_of_ble_eq_true rfl)) dA_found_59 ⟨by decide, by decide⟩ rfl (fun H locs hw => ?_)
          refine lv_if_eq (tgt := 79) hx hb dA_found_62 (by decide) (fun c6 => ?_) (fun c6 => ?_)
          · replace hf := x_ip c6 hf
            refine lv_iconst (v := (-1)) hx hb dA_found_79 (by decide) ?_
            obtain rfl := Option.some.inj hf
            exact x_iret C hw dA_found_80
          · replace hf := x_in c6 hf
            refine lv_aload_n hx hb dA_found_65 rfl (lv_at hl 0 rfl) ?_
            refine x_get C hw 0 0 9 (v := .ref (E.2.2.1 9 0)) at_0 rfl rfl ⟨by decide, by decide⟩ wA_59 rfl dA_found_66 ?_
            refine x_getN C hw 9 0 1 (v := .ref (E.2.2.1 11 0)) at_9 rfl rfl ⟨by decide, by decide⟩ wA_265 rfl dA_found_69 ?_
            refine lv_iload_n hx hb dA_found_72 rfl (lv_at hl 1 rfl) ?_
            refine lv_iconst (v := 2) hx hb dA_found_73 (by decide) ?_
            refine lv_isub hx hb dA_found_74 ?_
            obtain ⟨g7, hf⟩ := x_g hf
            refine x_ild C hw 11 0 at_11 rfl g7 dA_found_75 ?_
            refine lv_goto (tgt := 80) hx hb dA_found_76 (by decide) ?_
            obtain rfl := Option.some.inj hf
            exact x_iret C hw dA_found_80
        · replace hf := x_ip c4 hf
          refine lv_aload_n hx hb dA_found_41 rfl (lv_at hl 0 rfl) ?_
          refine x_get C hw 0 0 9 (v := .ref (E.2.2.1 9 0)) at_0 rfl rfl ⟨by decide, by decide⟩ wA_59 rfl dA_found_42 ?_
          refine x_getN C hw 9 0 2 (v := .int (σ.1 9 0 2)) at_9 rfl rfl ⟨by decide, by decide⟩ wA_264 rfl dA_found_45 ?_
          obtain rfl := Option.some.inj hf
          exact x_iret C hw dA_found_48
      · replace hf := x_ip c3 hf
        refine lv_aload_n hx hb dA_found_20 rfl (lv_at hl 0 rfl) ?_
        refine x_get C hw 0 0 9 (v := .ref (E.2.2.1 9 0)) at_0 rfl rfl ⟨by decide, by decide⟩ wA_59 rfl dA_found_21 ?_
        refine x_getN C hw 9 0 4 (v := .int (σ.1 9 0 4)) at_9 rfl rfl ⟨by decide, by decide⟩ wA_261 rfl dA_found_24 ?_
        refine lv_if_eq (tgt := 34) hx hb dA_found_27 (by decide) (fun c8 => ?_) (fun c8 => ?_)
        · replace hf := x_ip c8 hf
          refine lv_iconst (v := 0) hx hb dA_found_34 (by decide) ?_
          obtain rfl := Option.some.inj hf
          exact x_iret C hw dA_found_35
        · replace hf := x_in c8 hf
          refine lv_iconst (v := 1) hx hb dA_found_30 (by decide) ?_
          refine lv_goto (tgt := 35) hx hb dA_found_31 (by decide) ?_
          obtain rfl := Option.some.inj hf
          exact x_iret C hw dA_found_35
    · replace hf := x_in c2 hf
      refine lv_iconst (v := (-1)) hx hb dA_found_14 (by decide) ?_
      obtain rfl := Option.some.inj hf
      exact x_iret C hw dA_found_15
-- StandIns$Catches beforeLatest (I)I
set_option maxRecDepth 100000 in
theorem dC_beforeLatest_0 : decode bC_beforeLatest 0 = .ok (.aload_n 0, 1) := by decide +kernel
set_option maxRecDepth 100000 in
theorem dC_beforeLatest_1 : decode bC_beforeLatest 1 = .ok (.getfield 15, 3) := by decide +kernel
set_option maxRecDepth 100000 in
theorem dC_beforeLatest_4 : decode bC_beforeLatest 4 = .ok (.iconst 1, 1) := by decide +kernel
set_option maxRecDepth 100000 in
theorem dC_beforeLatest_5 : decode bC_beforeLatest 5 = .ok (.isub, 1) := by decide +kernel
set_option maxRecDepth 100000 in
theorem dC_beforeLatest_6 : decode bC_beforeLatest 6 = .ok (.iload_n 1, 1) := by decide +kernel
set_option maxRecDepth 100000 in
theorem dC_beforeLatest_7 : decode bC_beforeLatest 7 = .ok (.isub, 1) := by decide +kernel
set_option maxRecDepth 100000 in
theorem dC_beforeLatest_8 : decode bC_beforeLatest 8 = .ok (.istore_n 2, 1) := by decide +kernel
set_option maxRecDepth 100000 in
theorem dC_beforeLatest_9 : decode bC_beforeLatest 9 = .ok (.aload_n 0, 1) := by decide +kernel
set_option maxRecDepth 100000 in
theorem dC_beforeLatest_10 : decode bC_beforeLatest 10 = .ok (.getfield 9, 3) := by decide +kernel
set_option maxRecDepth 100000 in
theorem dC_beforeLatest_13 : decode bC_beforeLatest 13 = .ok (.iload_n 2, 1) := by decide +kernel
set_option maxRecDepth 100000 in
theorem dC_beforeLatest_14 : decode bC_beforeLatest 14 = .ok (.ifCond .lt 7, 3) := by decide +kernel
set_option maxRecDepth 100000 in
theorem dC_beforeLatest_17 : decode bC_beforeLatest 17 = .ok (.iload_n 2, 1) := by decide +kernel
set_option maxRecDepth 100000 in
theorem dC_beforeLatest_18 : decode bC_beforeLatest 18 = .ok (.goto 7, 3) := by decide +kernel
set_option maxRecDepth 100000 in
theorem dC_beforeLatest_21 : decode bC_beforeLatest 21 = .ok (.iload_n 2, 1) := by decide +kernel
set_option maxRecDepth 100000 in
theorem dC_beforeLatest_22 : decode bC_beforeLatest 22 = .ok (.bipush 12, 2) := by decide +kernel
set_option maxRecDepth 100000 in
theorem dC_beforeLatest_24 : decode bC_beforeLatest 24 = .ok (.iadd, 1) := by decide +kernel
set_option maxRecDepth 100000 in
theorem dC_beforeLatest_25 : decode bC_beforeLatest 25 = .ok (.iaload, 1) := by decide +kernel
set_option maxRecDepth 100000 in
theorem dC_beforeLatest_26 : decode bC_beforeLatest 26 = .ok (.ireturn, 1) := by decide +kernel
def fC_beforeLatest (σ : xS) (a1 : Int32) : Option (Int32) :=
  if (((σ.1 12 0 1) - 1) - a1) < 0 then
  (if ¬ (((((σ.1 12 0 1) - 1) - a1) + 12) < 0 ∨ 12 ≤ ((((σ.1 12 0 1) - 1) - a1) + 12).toNatClampNeg) then
  some (σ.1 13 0 (((((σ.1 12 0 1) - 1) - a1) + 12).toNatClampNeg))
  else none)
  else
  (if ¬ ((((σ.1 12 0 1) - 1) - a1) < 0 ∨ 12 ≤ (((σ.1 12 0 1) - 1) - a1).toNatClampNeg) then
  some (σ.1 13 0 ((((σ.1 12 0 1) - 1) - a1).toNatClampNeg))
  else none)
set_option maxHeartbeats 4000000 in
set_option maxRecDepth 100000 in
theorem cC_beforeLatest (l : Launch) (E : xE) (σ : xS) (τ : yS) (a1 : Int32) (res : Int32) (hf : fC_beforeLatest σ a1 = some res) : xM l E yC_beforeLatest bC_beforeLatest 3 (some .int) 0 0 0 [.ref (E.2.2.1 12 0), .int a1] σ τ (some (.int res)) σ τ := by
  refine x_met (by decide) (Nat.le_of_ble_eq_true rfl) (fun p e R s m args below meth c A ls H locs C hw hl => ?_)
  have hl : lv_has ls 3 [(0, .ref (E.2.2.1 12 0)), (1, .int a1)] := hl
  have hx := C.1
  have hb := C.2.1
  unfold fC_beforeLatest at hf
  refine lv_aload_n hx hb dC_beforeLatest_0 rfl (lv_at hl 0 rfl) ?_
  refine x_get C hw 12 0 1 (v := .int (σ.1 12 0 1)) at_12 rfl rfl ⟨by decide, by decide⟩ wC_15 rfl dC_beforeLatest_1 ?_
  refine lv_iconst (v := 1) hx hb dC_beforeLatest_4 (by decide) ?_
  refine lv_isub hx hb dC_beforeLatest_5 ?_
  refine lv_iload_n hx hb dC_beforeLatest_6 rfl (lv_at hl 1 rfl) ?_
  refine lv_isub hx hb dC_beforeLatest_7 ?_
  refine lv_istore_n (lv' := [(2, .int (((σ.1 12 0 1) - 1) - a1)), (0, .ref (E.2.2.1 12 0)), (1, .int a1)]) hx hb dC_beforeLatest_8 rfl hl (by decide) rfl (fun ls hl => ?_)
  refine lv_aload_n hx hb dC_beforeLatest_9 rfl (lv_at hl 1 rfl) ?_
  refine x_get C hw 12 0 0 (v := .ref (E.2.2.1 13 0)) at_12 rfl rfl ⟨by decide, by decide⟩ wC_9 rfl dC_beforeLatest_10 ?_
  refine lv_iload_n hx hb dC_beforeLatest_13 rfl (lv_at hl 0 rfl) ?_
  refine lv_if_lt (tgt := 21) hx hb dC_beforeLatest_14 (by decide) (fun c1 => ?_) (fun c1 => ?_)
  · replace hf := x_ip c1 hf
    refine lv_iload_n hx hb dC_beforeLatest_21 rfl (lv_at hl 0 rfl) ?_
    refine lv_bipush (v := 12) hx hb dC_beforeLatest_22 (by decide) ?_
    refine lv_iadd hx hb dC_beforeLatest_24 ?_
    obtain ⟨g2, hf⟩ := x_g hf
    refine x_ild C hw 13 0 at_13 rfl g2 dC_beforeLatest_25 ?_
    obtain rfl := Option.some.inj hf
    exact x_iret C hw dC_beforeLatest_26
  · replace hf := x_in c1 hf
    refine lv_iload_n hx hb dC_beforeLatest_17 rfl (lv_at hl 0 rfl) ?_
    refine lv_goto (tgt := 25) hx hb dC_beforeLatest_18 (by decide) ?_
    obtain ⟨g3, hf⟩ := x_g hf
    refine x_ild C hw 13 0 at_13 rfl g3 dC_beforeLatest_25 ?_
    obtain rfl := Option.some.inj hf
    exact x_iret C hw dC_beforeLatest_26
-- StandIns caught (I)I
set_option maxRecDepth 100000 in
theorem dA_caught_0 : decode bA_caught 0 = .ok (.iload_n 1, 1) := by decide +kernel
set_option maxRecDepth 100000 in
theorem dA_caught_1 : decode bA_caught 1 = .ok (.aload_n 0, 1) := by decide +kernel
set_option maxRecDepth 100000 in
theorem dA_caught_2 : decode bA_caught 2 = .ok (.getfield 66, 3) := by decide +kernel
set_option maxRecDepth 100000 in
theorem dA_caught_5 : decode bA_caught 5 = .ok (.getfield 268, 3) := by decide +kernel
set_option maxRecDepth 100000 in
theorem dA_caught_8 : decode bA_caught 8 = .ok (.invokestatic 97, 3) := by decide +kernel
set_option maxRecDepth 100000 in
theorem dA_caught_11 : decode bA_caught 11 = .ok (.ifCond .eq 14, 3) := by decide +kernel
set_option maxRecDepth 100000 in
theorem dA_caught_14 : decode bA_caught 14 = .ok (.aload_n 0, 1) := by decide +kernel
set_option maxRecDepth 100000 in
theorem dA_caught_15 : decode bA_caught 15 = .ok (.getfield 66, 3) := by decide +kernel
set_option maxRecDepth 100000 in
theorem dA_caught_18 : decode bA_caught 18 = .ok (.iload_n 1, 1) := by decide +kernel
set_option maxRecDepth 100000 in
theorem dA_caught_19 : decode bA_caught 19 = .ok (.invokevirtual 271, 3) := by decide +kernel
set_option maxRecDepth 100000 in
theorem dA_caught_22 : decode bA_caught 22 = .ok (.goto 4, 3) := by decide +kernel
set_option maxRecDepth 100000 in
theorem dA_caught_25 : decode bA_caught 25 = .ok (.iconst (-1), 1) := by decide +kernel
set_option maxRecDepth 100000 in
theorem dA_caught_26 : decode bA_caught 26 = .ok (.ireturn, 1) := by decide +kernel
def fA_caught (σ : xS) (a1 : Int32) : Option (Int32) :=
  if (fA_isBelow a1 (σ.1 12 0 2)) = 0 then
  (some (-1))
  else
  (xp (fC_beforeLatest σ a1) fun r4 =>
  some r4)
set_option maxHeartbeats 4000000 in
set_option maxRecDepth 100000 in
theorem cA_caught (l : Launch) (E : xE) (σ : xS) (τ : yS) (a1 : Int32) (res : Int32) (hf : fA_caught σ a1 = some res) : xM l E yA_caught bA_caught 2 (some .int) 1 0 0 [.ref (E.2.2.1 0 0), .int a1] σ τ (some (.int res)) σ τ := by
  refine x_met (by decide) (Nat.le_of_ble_eq_true rfl) (fun p e R s m args below meth c A ls H locs C hw hl => ?_)
  have hl : lv_has ls 2 [(0, .ref (E.2.2.1 0 0)), (1, .int a1)] := hl
  have hx := C.1
  have hb := C.2.1
  unfold fA_caught at hf
  refine lv_iload_n hx hb dA_caught_0 rfl (lv_at hl 1 rfl) ?_
  refine lv_aload_n hx hb dA_caught_1 rfl (lv_at hl 0 rfl) ?_
  refine x_get C hw 0 0 10 (v := .ref (E.2.2.1 12 0)) at_0 rfl rfl ⟨by decide, by decide⟩ wA_66 rfl dA_caught_2 ?_
  refine x_getN C hw 12 0 2 (v := .int (σ.1 12 0 2)) at_12 rfl rfl ⟨by decide, by decide⟩ wA_268 rfl dA_caught_5 ?_
  refine x_callS (As := [.int a1, .int (σ.1 12 0 2)]) (rest := []) (st1 := [.int (fA_isBelow a1 (σ.1 12 0 2))]) C hw (cA_isBelow l E σ τ a1 (σ.1 12 0 2)) kA_97 (by decide) rfl rfl hl.1 (lv_room (Nat.le_of_ble_eq_true rfl)) dA_caught_8 ⟨by decide, by decide⟩ rfl (fun H locs hw => ?_)
  refine lv_if_eq (tgt := 25) hx hb dA_caught_11 (by decide) (fun c2 => ?_) (fun c2 => ?_)
  · replace hf := x_ip c2 hf
    refine lv_iconst (v := (-1)) hx hb dA_caught_25 (by decide) ?_
    obtain rfl := Option.some.inj hf
    exact x_iret C hw dA_caught_26
  · replace hf := x_in c2 hf
    refine lv_aload_n hx hb dA_caught_14 rfl (lv_at hl 0 rfl) ?_
    refine x_get C hw 0 0 10 (v := .ref (E.2.2.1 12 0)) at_0 rfl rfl ⟨by decide, by decide⟩ wA_66 rfl dA_caught_15 ?_
    refine lv_iload_n hx hb dA_caught_18 rfl (lv_at hl 1 rfl) ?_
    obtain ⟨r4, h3, hf⟩ := x_p hf
    refine x_callVN (As := [.int a1]) (rest := []) (st1 := [.int r4]) C hw (cC_beforeLatest l E σ τ a1 r4 h3) kA_271 (x_recv C hw 12 0 at_12 rfl rfl) (by decide) rfl rfl hl.1 (lv_room (Nat.le_of_ble_eq_true rfl)) dA_caught_19 ⟨by decide, by decide⟩ rfl (fun H locs hw => ?_)
    refine lv_goto (tgt := 26) hx hb dA_caught_22 (by decide) ?_
    obtain rfl := Option.some.inj hf
    exact x_iret C hw dA_caught_26
-- StandIns tellingsNeverUsed ()I
set_option maxRecDepth 100000 in
theorem dA_tellingsNeverUsed_0 : decode bA_tellingsNeverUsed 0 = .ok (.iconst 0, 1) := by decide +kernel
set_option maxRecDepth 100000 in
theorem dA_tellingsNeverUsed_1 : decode bA_tellingsNeverUsed 1 = .ok (.istore_n 1, 1) := by decide +kernel
set_option maxRecDepth 100000 in
theorem dA_tellingsNeverUsed_2 : decode bA_tellingsNeverUsed 2 = .ok (.iconst 0, 1) := by decide +kernel
set_option maxRecDepth 100000 in
theorem dA_tellingsNeverUsed_3 : decode bA_tellingsNeverUsed 3 = .ok (.istore_n 2, 1) := by decide +kernel
set_option maxRecDepth 100000 in
theorem dA_tellingsNeverUsed_4 : decode bA_tellingsNeverUsed 4 = .ok (.iload_n 2, 1) := by decide +kernel
set_option maxRecDepth 100000 in
theorem dA_tellingsNeverUsed_5 : decode bA_tellingsNeverUsed 5 = .ok (.aload_n 0, 1) := by decide +kernel
set_option maxRecDepth 100000 in
theorem dA_tellingsNeverUsed_6 : decode bA_tellingsNeverUsed 6 = .ok (.getfield 53, 3) := by decide +kernel
set_option maxRecDepth 100000 in
theorem dA_tellingsNeverUsed_9 : decode bA_tellingsNeverUsed 9 = .ok (.if_icmp .ge 39, 3) := by decide +kernel
set_option maxRecDepth 100000 in
theorem dA_tellingsNeverUsed_12 : decode bA_tellingsNeverUsed 12 = .ok (.aload_n 0, 1) := by decide +kernel
set_option maxRecDepth 100000 in
theorem dA_tellingsNeverUsed_13 : decode bA_tellingsNeverUsed 13 = .ok (.getfield 49, 3) := by decide +kernel
set_option maxRecDepth 100000 in
theorem dA_tellingsNeverUsed_16 : decode bA_tellingsNeverUsed 16 = .ok (.iload_n 2, 1) := by decide +kernel
set_option maxRecDepth 100000 in
theorem dA_tellingsNeverUsed_17 : decode bA_tellingsNeverUsed 17 = .ok (.aaload, 1) := by decide +kernel
set_option maxRecDepth 100000 in
theorem dA_tellingsNeverUsed_18 : decode bA_tellingsNeverUsed 18 = .ok (.getfield 211, 3) := by decide +kernel
set_option maxRecDepth 100000 in
theorem dA_tellingsNeverUsed_21 : decode bA_tellingsNeverUsed 21 = .ok (.getfield 214, 3) := by decide +kernel
set_option maxRecDepth 100000 in
theorem dA_tellingsNeverUsed_24 : decode bA_tellingsNeverUsed 24 = .ok (.ifCond .le 18, 3) := by decide +kernel
set_option maxRecDepth 100000 in
theorem dA_tellingsNeverUsed_27 : decode bA_tellingsNeverUsed 27 = .ok (.aload_n 0, 1) := by decide +kernel
set_option maxRecDepth 100000 in
theorem dA_tellingsNeverUsed_28 : decode bA_tellingsNeverUsed 28 = .ok (.getfield 49, 3) := by decide +kernel
set_option maxRecDepth 100000 in
theorem dA_tellingsNeverUsed_31 : decode bA_tellingsNeverUsed 31 = .ok (.iload_n 2, 1) := by decide +kernel
set_option maxRecDepth 100000 in
theorem dA_tellingsNeverUsed_32 : decode bA_tellingsNeverUsed 32 = .ok (.aaload, 1) := by decide +kernel
set_option maxRecDepth 100000 in
theorem dA_tellingsNeverUsed_33 : decode bA_tellingsNeverUsed 33 = .ok (.getfield 252, 3) := by decide +kernel
set_option maxRecDepth 100000 in
theorem dA_tellingsNeverUsed_36 : decode bA_tellingsNeverUsed 36 = .ok (.ifCond .ne 6, 3) := by decide +kernel
set_option maxRecDepth 100000 in
theorem dA_tellingsNeverUsed_39 : decode bA_tellingsNeverUsed 39 = .ok (.iinc 1 1, 3) := by decide +kernel
set_option maxRecDepth 100000 in
theorem dA_tellingsNeverUsed_42 : decode bA_tellingsNeverUsed 42 = .ok (.iinc 2 1, 3) := by decide +kernel
set_option maxRecDepth 100000 in
theorem dA_tellingsNeverUsed_45 : decode bA_tellingsNeverUsed 45 = .ok (.goto (-41), 3) := by decide +kernel
set_option maxRecDepth 100000 in
theorem dA_tellingsNeverUsed_48 : decode bA_tellingsNeverUsed 48 = .ok (.iload_n 1, 1) := by decide +kernel
set_option maxRecDepth 100000 in
theorem dA_tellingsNeverUsed_49 : decode bA_tellingsNeverUsed 49 = .ok (.ireturn, 1) := by decide +kernel
def fA_tellingsNeverUsed_42 (N : Nat) (rec4 : Int32 → Int32 → Option (Int32)) (σ : xS) (a1 : Int32) (a2 : Int32) : Option (Int32) :=
  rec4 a1 (a2 + 1)
def fA_tellingsNeverUsed_4b (N : Nat) (rec4 : Int32 → Int32 → Option (Int32)) (σ : xS) (a1 : Int32) (a2 : Int32) : Option (Int32) :=
  if (σ.1 0 0 8) ≤ a2 then
  (some a1)
  else
  (if ¬ (a2 < 0 ∨ 16 ≤ a2.toNatClampNeg) then
  if a2.toNatClampNeg < 17 then
  if (σ.1 18 a2.toNatClampNeg 2) ≤ 0 then
  (fA_tellingsNeverUsed_42 N rec4 σ a1 a2)
  else
  (if (σ.1 16 a2.toNatClampNeg 3) = 0 then
  (fA_tellingsNeverUsed_42 N rec4 σ (a1 + 1) a2)
  else
  (fA_tellingsNeverUsed_42 N rec4 σ a1 a2))
  else none
  else none)
def fA_tellingsNeverUsed_4 (N : Nat) (σ : xS) : Nat → Int32 → Int32 → Option (Int32)
  | 0, _, _ => none
  | n + 1, a1, a2 => fA_tellingsNeverUsed_4b N (fA_tellingsNeverUsed_4 N σ n) σ a1 a2
def fA_tellingsNeverUsed (N : Nat) (σ : xS) : Option (Int32) :=
  fA_tellingsNeverUsed_4 N σ N 0 0
set_option maxHeartbeats 4000000 in
set_option maxRecDepth 100000 in
theorem wA_tellingsNeverUsed_42 {p : Program} {l : Launch} {e : Env} {R : Room} {s : State} {m : MethodId} {args : Array Value} {below : List Frame} {meth : Method} {c : Code} {E : xE} {A : Nat → Prop} {τ : yS} (C : xC p s m args meth c R E A bA_tellingsNeverUsed 3 yA_tellingsNeverUsed (some .int) 0 0 0) (N : Nat) (σ : xS) (rec4 : Int32 → Int32 → Option (Int32)) (hrec4 : ∀ (a1 : Int32) (a2 : Int32) (res : Int32), rec4 a1 a2 = some res → ∀ (H : Heap) (locs : List Loc) (ls : Array Slot), xW E A s σ τ H locs → lv_has ls 3 [(0, .ref (E.2.2.1 0 0)), (1, .int a1), (2, .int a2)] → W p l e R s m args below meth c H locs 0 0 (MQ below (xQ E A (some (.int res)) σ τ) args s 0 0 A) (F0 m 4 ls [])) (a1 : Int32) (a2 : Int32) (res : Int32) (hf : fA_tellingsNeverUsed_42 N rec4 σ a1 a2 = some res) (H : Heap) (locs : List Loc) (ls : Array Slot) (hw : xW E A s σ τ H locs) (hl : lv_has ls 3 [(0, .ref (E.2.2.1 0 0)), (1, .int a1), (2, .int a2)]) : W p l e R s m args below meth c H locs 0 0 (MQ below (xQ E A (some (.int res)) σ τ) args s 0 0 A) (F0 m 42 ls []) := by
  have hx := C.1
  have hb := C.2.1
  unfold fA_tellingsNeverUsed_42 at hf
  refine lv_iinc (v := a2 + 1) (lv' := [(2, .int (a2 + 1)), (0, .ref (E.2.2.1 0 0)), (1, .int a1)]) hx hb dA_tellingsNeverUsed_42 hl (k := 2) rfl rfl (by decide) rfl (fun ls hl => ?_)
  refine lv_goto (tgt := 4) hx hb dA_tellingsNeverUsed_45 (by decide) ?_
  exact hrec4 a1 (a2 + 1) res hf H locs ls hw (lv_sub hl [1, 2, 0] rfl)
set_option maxHeartbeats 4000000 in
set_option maxRecDepth 100000 in
theorem wA_tellingsNeverUsed_4b {p : Program} {l : Launch} {e : Env} {R : Room} {s : State} {m : MethodId} {args : Array Value} {below : List Frame} {meth : Method} {c : Code} {E : xE} {A : Nat → Prop} {τ : yS} (C : xC p s m args meth c R E A bA_tellingsNeverUsed 3 yA_tellingsNeverUsed (some .int) 0 0 0) (N : Nat) (σ : xS) (rec4 : Int32 → Int32 → Option (Int32)) (hrec4 : ∀ (a1 : Int32) (a2 : Int32) (res : Int32), rec4 a1 a2 = some res → ∀ (H : Heap) (locs : List Loc) (ls : Array Slot), xW E A s σ τ H locs → lv_has ls 3 [(0, .ref (E.2.2.1 0 0)), (1, .int a1), (2, .int a2)] → W p l e R s m args below meth c H locs 0 0 (MQ below (xQ E A (some (.int res)) σ τ) args s 0 0 A) (F0 m 4 ls [])) (a1 : Int32) (a2 : Int32) (res : Int32) (hf : fA_tellingsNeverUsed_4b N rec4 σ a1 a2 = some res) (H : Heap) (locs : List Loc) (ls : Array Slot) (hw : xW E A s σ τ H locs) (hl : lv_has ls 3 [(0, .ref (E.2.2.1 0 0)), (1, .int a1), (2, .int a2)]) : W p l e R s m args below meth c H locs 0 0 (MQ below (xQ E A (some (.int res)) σ τ) args s 0 0 A) (F0 m 4 ls []) := by
  have hx := C.1
  have hb := C.2.1
  unfold fA_tellingsNeverUsed_4b at hf
  refine lv_iload_n hx hb dA_tellingsNeverUsed_4 rfl (lv_at hl 2 rfl) ?_
  refine lv_aload_n hx hb dA_tellingsNeverUsed_5 rfl (lv_at hl 0 rfl) ?_
  refine x_get C hw 0 0 8 (v := .int (σ.1 0 0 8)) at_0 rfl rfl ⟨by decide, by decide⟩ wA_53 rfl dA_tellingsNeverUsed_6 ?_
  refine lv_icmp_ge (tgt := 48) hx hb dA_tellingsNeverUsed_9 (by decide) (fun c7 => ?_) (fun c7 => ?_)
  · replace hf := x_ip c7 hf
    refine lv_iload_n hx hb dA_tellingsNeverUsed_48 rfl (lv_at hl 1 rfl) ?_
    obtain rfl := Option.some.inj hf
    exact x_iret C hw dA_tellingsNeverUsed_49
  · replace hf := x_in c7 hf
    refine lv_aload_n hx hb dA_tellingsNeverUsed_12 rfl (lv_at hl 0 rfl) ?_
    refine x_get C hw 0 0 7 (v := .ref (E.2.2.1 8 0)) at_0 rfl rfl ⟨by decide, by decide⟩ wA_49 rfl dA_tellingsNeverUsed_13 ?_
    refine lv_iload_n hx hb dA_tellingsNeverUsed_16 rfl (lv_at hl 2 rfl) ?_
    obtain ⟨g8, hf⟩ := x_g hf
    refine x_ald8 C hw g8 dA_tellingsNeverUsed_17 ?_
    have g9 := x_lt g8
    refine x_getN C hw 16 a2.toNatClampNeg 1 (v := .ref (E.2.2.1 18 a2.toNatClampNeg)) (at_16 g9) rfl rfl ⟨by decide, by decide⟩ wA_211 rfl dA_tellingsNeverUsed_18 ?_
    obtain ⟨g10, hf⟩ := x_g hf
    refine x_getN C hw 18 a2.toNatClampNeg 2 (v := .int (σ.1 18 a2.toNatClampNeg 2)) (at_18 g10) rfl rfl ⟨by decide, by decide⟩ wA_214 rfl dA_tellingsNeverUsed_21 ?_
    refine lv_if_le (tgt := 42) hx hb dA_tellingsNeverUsed_24 (by decide) (fun c11 => ?_) (fun c11 => ?_)
    · replace hf := x_ip c11 hf
      exact wA_tellingsNeverUsed_42 C N σ rec4 hrec4 a1 a2 res hf H locs ls hw (lv_sub hl [0, 1, 2] rfl)
    · replace hf := x_in c11 hf
      refine lv_aload_n hx hb dA_tellingsNeverUsed_27 rfl (lv_at hl 0 rfl) ?_
      refine x_get C hw 0 0 7 (v := .ref (E.2.2.1 8 0)) at_0 rfl rfl ⟨by decide, by decide⟩ wA_49 rfl dA_tellingsNeverUsed_28 ?_
      refine lv_iload_n hx hb dA_tellingsNeverUsed_31 rfl (lv_at hl 2 rfl) ?_
      refine x_ald8 C hw g8 dA_tellingsNeverUsed_32 ?_
      refine x_getN C hw 16 a2.toNatClampNeg 3 (v := .int (σ.1 16 a2.toNatClampNeg 3)) (at_16 g9) rfl rfl ⟨by decide, by decide⟩ wA_252 rfl dA_tellingsNeverUsed_33 ?_
      refine lv_if_ne (tgt := 42) hx hb dA_tellingsNeverUsed_36 (by decide) (fun c12 => ?_) (fun c12 => ?_)
      · replace hf := x_in c12 hf
        exact wA_tellingsNeverUsed_42 C N σ rec4 hrec4 a1 a2 res hf H locs ls hw (lv_sub hl [0, 1, 2] rfl)
      · replace hf := x_ip c12 hf
        refine lv_iinc (v := a1 + 1) (lv' := [(1, .int (a1 + 1)), (0, .ref (E.2.2.1 0 0)), (2, .int a2)]) hx hb dA_tellingsNeverUsed_39 hl (k := 1) rfl rfl (by decide) rfl (fun ls hl => ?_)
        exact wA_tellingsNeverUsed_42 C N σ rec4 hrec4 (a1 + 1) a2 res hf H locs ls hw (lv_sub hl [1, 0, 2] rfl)
set_option maxHeartbeats 4000000 in
set_option maxRecDepth 100000 in
theorem wA_tellingsNeverUsed_4 {p : Program} {l : Launch} {e : Env} {R : Room} {s : State} {m : MethodId} {args : Array Value} {below : List Frame} {meth : Method} {c : Code} {E : xE} {A : Nat → Prop} {τ : yS} (C : xC p s m args meth c R E A bA_tellingsNeverUsed 3 yA_tellingsNeverUsed (some .int) 0 0 0) (N : Nat) (σ : xS) (n : Nat) : ∀ (a1 : Int32) (a2 : Int32) (res : Int32), fA_tellingsNeverUsed_4 N σ n a1 a2 = some res → ∀ (H : Heap) (locs : List Loc) (ls : Array Slot), xW E A s σ τ H locs → lv_has ls 3 [(0, .ref (E.2.2.1 0 0)), (1, .int a1), (2, .int a2)] → W p l e R s m args below meth c H locs 0 0 (MQ below (xQ E A (some (.int res)) σ τ) args s 0 0 A) (F0 m 4 ls []) := by
  induction n with
  | zero => intro a1 a2 res hf; cases hf
  | succ n ih =>
    intro a1 a2 res hf H locs ls hw hl
    exact wA_tellingsNeverUsed_4b C N σ (fA_tellingsNeverUsed_4 N σ n) ih a1 a2 res hf H locs ls hw hl
set_option maxHeartbeats 4000000 in
set_option maxRecDepth 100000 in
theorem cA_tellingsNeverUsed (l : Launch) (E : xE) (N : Nat) (σ : xS) (τ : yS) (res : Int32) (hf : fA_tellingsNeverUsed N σ = some res) : xM l E yA_tellingsNeverUsed bA_tellingsNeverUsed 3 (some .int) 0 0 0 [.ref (E.2.2.1 0 0)] σ τ (some (.int res)) σ τ := by
  refine x_met (by decide) (Nat.le_of_ble_eq_true rfl) (fun p e R s m args below meth c A ls H locs C hw hl => ?_)
  have hl : lv_has ls 3 [(0, .ref (E.2.2.1 0 0))] := hl
  have hx := C.1
  have hb := C.2.1
  unfold fA_tellingsNeverUsed at hf
  refine lv_iconst (v := 0) hx hb dA_tellingsNeverUsed_0 (by decide) ?_
  refine lv_istore_n (lv' := [(1, .int 0), (0, .ref (E.2.2.1 0 0))]) hx hb dA_tellingsNeverUsed_1 rfl hl (by decide) rfl (fun ls hl => ?_)
  refine lv_iconst (v := 0) hx hb dA_tellingsNeverUsed_2 (by decide) ?_
  refine lv_istore_n (lv' := [(2, .int 0), (1, .int 0), (0, .ref (E.2.2.1 0 0))]) hx hb dA_tellingsNeverUsed_3 rfl hl (by decide) rfl (fun ls hl => ?_)
  exact wA_tellingsNeverUsed_4 C N σ N 0 0 res hf H locs ls hw (lv_sub hl [2, 1, 0] rfl)
-- StandIns count (I)I
set_option maxRecDepth 100000 in
theorem dA_count_0 : decode bA_count 0 = .ok (.iload_n 1, 1) := by decide +kernel
set_option maxRecDepth 100000 in
theorem dA_count_1 : decode bA_count 1 = .ok (.tableswitch 117 0 9 #[55, 60, 68, 73, 78, 86, 91, 99, 107, 112], 55) := by decide +kernel
set_option maxRecDepth 100000 in
theorem dA_count_56 : decode bA_count 56 = .ok (.aload_n 0, 1) := by decide +kernel
set_option maxRecDepth 100000 in
theorem dA_count_57 : decode bA_count 57 = .ok (.getfield 22, 3) := by decide +kernel
set_option maxRecDepth 100000 in
theorem dA_count_60 : decode bA_count 60 = .ok (.ireturn, 1) := by decide +kernel
set_option maxRecDepth 100000 in
theorem dA_count_61 : decode bA_count 61 = .ok (.aload_n 0, 1) := by decide +kernel
set_option maxRecDepth 100000 in
theorem dA_count_62 : decode bA_count 62 = .ok (.getfield 43, 3) := by decide +kernel
set_option maxRecDepth 100000 in
theorem dA_count_65 : decode bA_count 65 = .ok (.getfield 225, 3) := by decide +kernel
set_option maxRecDepth 100000 in
theorem dA_count_68 : decode bA_count 68 = .ok (.ireturn, 1) := by decide +kernel
set_option maxRecDepth 100000 in
theorem dA_count_69 : decode bA_count 69 = .ok (.aload_n 0, 1) := by decide +kernel
set_option maxRecDepth 100000 in
theorem dA_count_70 : decode bA_count 70 = .ok (.getfield 53, 3) := by decide +kernel
set_option maxRecDepth 100000 in
theorem dA_count_73 : decode bA_count 73 = .ok (.ireturn, 1) := by decide +kernel
set_option maxRecDepth 100000 in
theorem dA_count_74 : decode bA_count 74 = .ok (.aload_n 0, 1) := by decide +kernel
set_option maxRecDepth 100000 in
theorem dA_count_75 : decode bA_count 75 = .ok (.invokevirtual 274, 3) := by decide +kernel
set_option maxRecDepth 100000 in
theorem dA_count_78 : decode bA_count 78 = .ok (.ireturn, 1) := by decide +kernel
set_option maxRecDepth 100000 in
theorem dA_count_79 : decode bA_count 79 = .ok (.aload_n 0, 1) := by decide +kernel
set_option maxRecDepth 100000 in
theorem dA_count_80 : decode bA_count 80 = .ok (.getfield 29, 3) := by decide +kernel
set_option maxRecDepth 100000 in
theorem dA_count_83 : decode bA_count 83 = .ok (.getfield 121, 3) := by decide +kernel
set_option maxRecDepth 100000 in
theorem dA_count_86 : decode bA_count 86 = .ok (.ireturn, 1) := by decide +kernel
set_option maxRecDepth 100000 in
theorem dA_count_87 : decode bA_count 87 = .ok (.aload_n 0, 1) := by decide +kernel
set_option maxRecDepth 100000 in
theorem dA_count_88 : decode bA_count 88 = .ok (.getfield 77, 3) := by decide +kernel
set_option maxRecDepth 100000 in
theorem dA_count_91 : decode bA_count 91 = .ok (.ireturn, 1) := by decide +kernel
set_option maxRecDepth 100000 in
theorem dA_count_92 : decode bA_count 92 = .ok (.aload_n 0, 1) := by decide +kernel
set_option maxRecDepth 100000 in
theorem dA_count_93 : decode bA_count 93 = .ok (.getfield 36, 3) := by decide +kernel
set_option maxRecDepth 100000 in
theorem dA_count_96 : decode bA_count 96 = .ok (.getfield 214, 3) := by decide +kernel
set_option maxRecDepth 100000 in
theorem dA_count_99 : decode bA_count 99 = .ok (.ireturn, 1) := by decide +kernel
set_option maxRecDepth 100000 in
theorem dA_count_100 : decode bA_count 100 = .ok (.aload_n 0, 1) := by decide +kernel
set_option maxRecDepth 100000 in
theorem dA_count_101 : decode bA_count 101 = .ok (.getfield 66, 3) := by decide +kernel
set_option maxRecDepth 100000 in
theorem dA_count_104 : decode bA_count 104 = .ok (.getfield 278, 3) := by decide +kernel
set_option maxRecDepth 100000 in
theorem dA_count_107 : decode bA_count 107 = .ok (.ireturn, 1) := by decide +kernel
set_option maxRecDepth 100000 in
theorem dA_count_108 : decode bA_count 108 = .ok (.aload_n 0, 1) := by decide +kernel
set_option maxRecDepth 100000 in
theorem dA_count_109 : decode bA_count 109 = .ok (.getfield 89, 3) := by decide +kernel
set_option maxRecDepth 100000 in
theorem dA_count_112 : decode bA_count 112 = .ok (.ireturn, 1) := by decide +kernel
set_option maxRecDepth 100000 in
theorem dA_count_113 : decode bA_count 113 = .ok (.aload_n 0, 1) := by decide +kernel
set_option maxRecDepth 100000 in
theorem dA_count_114 : decode bA_count 114 = .ok (.getfield 92, 3) := by decide +kernel
set_option maxRecDepth 100000 in
theorem dA_count_117 : decode bA_count 117 = .ok (.ireturn, 1) := by decide +kernel
set_option maxRecDepth 100000 in
theorem dA_count_118 : decode bA_count 118 = .ok (.iconst (-1), 1) := by decide +kernel
set_option maxRecDepth 100000 in
theorem dA_count_119 : decode bA_count 119 = .ok (.ireturn, 1) := by decide +kernel
def fA_count (N : Nat) (σ : xS) (a1 : Int32) : Option (Int32) :=
  if a1 = 0 then
  (some (σ.1 0 0 3))
  else
  (if a1 = 1 then
  (some (σ.1 6 0 1))
  else
  (if a1 = 2 then
  (some (σ.1 0 0 8))
  else
  (if a1 = 3 then
  (xp (fA_tellingsNeverUsed N σ) fun r6 =>
  some r6)
  else
  (if a1 = 4 then
  (some (σ.1 4 0 1))
  else
  (if a1 = 5 then
  (some (σ.1 0 0 12))
  else
  (if a1 = 6 then
  (some (σ.1 18 16 2))
  else
  (if a1 = 7 then
  (some (σ.1 12 0 3))
  else
  (if a1 = 8 then
  (some (σ.1 0 0 16))
  else
  (if a1 = 9 then
  (some (σ.1 0 0 17))
  else
  (some (-1)))))))))))
set_option maxHeartbeats 4000000 in
set_option maxRecDepth 100000 in
theorem cA_count (l : Launch) (E : xE) (N : Nat) (σ : xS) (τ : yS) (a1 : Int32) (res : Int32) (hf : fA_count N σ a1 = some res) : xM l E yA_count bA_count 2 (some .int) 1 0 0 [.ref (E.2.2.1 0 0), .int a1] σ τ (some (.int res)) σ τ := by
  refine x_met (by decide) (Nat.le_of_ble_eq_true rfl) (fun p e R s m args below meth c A ls H locs C hw hl => ?_)
  have hl : lv_has ls 2 [(0, .ref (E.2.2.1 0 0)), (1, .int a1)] := hl
  have hx := C.1
  have hb := C.2.1
  unfold fA_count at hf
  refine lv_iload_n hx hb dA_count_0 rfl (lv_at hl 1 rfl) ?_
  by_cases c1 : a1 = 0
  · replace hf := x_ip c1 hf
    refine lv_tableIn (tgt := 56) hx hb dA_count_1 (by rw [c1]; decide) (by rw [c1]; decide) (by rw [c1]; rfl) (by decide) ?_
    refine lv_aload_n hx hb dA_count_56 rfl (lv_at hl 0 rfl) ?_
    refine x_get C hw 0 0 3 (v := .int (σ.1 0 0 3)) at_0 rfl rfl ⟨by decide, by decide⟩ wA_22 rfl dA_count_57 ?_
    obtain rfl := Option.some.inj hf
    exact x_iret C hw dA_count_60
  · replace hf := x_in c1 hf
    by_cases c2 : a1 = 1
    · replace hf := x_ip c2 hf
      refine lv_tableIn (tgt := 61) hx hb dA_count_1 (by rw [c2]; decide) (by rw [c2]; decide) (by rw [c2]; rfl) (by decide) ?_
      refine lv_aload_n hx hb dA_count_61 rfl (lv_at hl 0 rfl) ?_
      refine x_get C hw 0 0 6 (v := .ref (E.2.2.1 6 0)) at_0 rfl rfl ⟨by decide, by decide⟩ wA_43 rfl dA_count_62 ?_
      refine x_getN C hw 6 0 1 (v := .int (σ.1 6 0 1)) at_6 rfl rfl ⟨by decide, by decide⟩ wA_225 rfl dA_count_65 ?_
      obtain rfl := Option.some.inj hf
      exact x_iret C hw dA_count_68
    · replace hf := x_in c2 hf
      by_cases c3 : a1 = 2
      · replace hf := x_ip c3 hf
        refine lv_tableIn (tgt := 69) hx hb dA_count_1 (by rw [c3]; decide) (by rw [c3]; decide) (by rw [c3]; rfl) (by decide) ?_
        refine lv_aload_n hx hb dA_count_69 rfl (lv_at hl 0 rfl) ?_
        refine x_get C hw 0 0 8 (v := .int (σ.1 0 0 8)) at_0 rfl rfl ⟨by decide, by decide⟩ wA_53 rfl dA_count_70 ?_
        obtain rfl := Option.some.inj hf
        exact x_iret C hw dA_count_73
      · replace hf := x_in c3 hf
        by_cases c4 : a1 = 3
        · replace hf := x_ip c4 hf
          refine lv_tableIn (tgt := 74) hx hb dA_count_1 (by rw [c4]; decide) (by rw [c4]; decide) (by rw [c4]; rfl) (by decide) ?_
          refine lv_aload_n hx hb dA_count_74 rfl (lv_at hl 0 rfl) ?_
          obtain ⟨r6, h5, hf⟩ := x_p hf
          refine x_callV (As := []) (rest := []) (st1 := [.int r6]) C hw (cA_tellingsNeverUsed l E N σ τ r6 h5) kA_274 (x_recv C hw 0 0 at_0 rfl rfl) (by decide) rfl rfl hl.1 (lv_room (Nat.le_of_ble_eq_true rfl)) dA_count_75 ⟨by decide, by decide⟩ rfl (fun H locs hw => ?_)
          obtain rfl := Option.some.inj hf
          exact x_iret C hw dA_count_78
        · replace hf := x_in c4 hf
          by_cases c7 : a1 = 4
          · replace hf := x_ip c7 hf
            refine lv_tableIn (tgt := 79) hx hb dA_count_1 (by rw [c7]; decide) (by rw [c7]; decide) (by rw [c7]; rfl) (by decide) ?_
            refine lv_aload_n hx hb dA_count_79 rfl (lv_at hl 0 rfl) ?_
            refine x_get C hw 0 0 4 (v := .ref (E.2.2.1 4 0)) at_0 rfl rfl ⟨by decide, by decide⟩ wA_29 rfl dA_count_80 ?_
            refine x_getN C hw 4 0 1 (v := .int (σ.1 4 0 1)) at_4 rfl rfl ⟨by decide, by decide⟩ wA_121 rfl dA_count_83 ?_
            obtain rfl := Option.some.inj hf
            exact x_iret C hw dA_count_86
          · replace hf := x_in c7 hf
            by_cases c8 : a1 = 5
            · replace hf := x_ip c8 hf
              refine lv_tableIn (tgt := 87) hx hb dA_count_1 (by rw [c8]; decide) (by rw [c8]; decide) (by rw [c8]; rfl) (by decide) ?_
              refine lv_aload_n hx hb dA_count_87 rfl (lv_at hl 0 rfl) ?_
              refine x_get C hw 0 0 12 (v := .int (σ.1 0 0 12)) at_0 rfl rfl ⟨by decide, by decide⟩ wA_77 rfl dA_count_88 ?_
              obtain rfl := Option.some.inj hf
              exact x_iret C hw dA_count_91
            · replace hf := x_in c8 hf
              by_cases c9 : a1 = 6
              · replace hf := x_ip c9 hf
                refine lv_tableIn (tgt := 92) hx hb dA_count_1 (by rw [c9]; decide) (by rw [c9]; decide) (by rw [c9]; rfl) (by decide) ?_
                refine lv_aload_n hx hb dA_count_92 rfl (lv_at hl 0 rfl) ?_
                refine x_get C hw 0 0 5 (v := .ref (E.2.2.1 18 16)) at_0 rfl rfl ⟨by decide, by decide⟩ wA_36 rfl dA_count_93 ?_
                refine x_getN C hw 18 16 2 (v := .int (σ.1 18 16 2)) (at_18 (by decide)) rfl rfl ⟨by decide, by decide⟩ wA_214 rfl dA_count_96 ?_
                obtain rfl := Option.some.inj hf
                exact x_iret C hw dA_count_99
              · replace hf := x_in c9 hf
                by_cases c10 : a1 = 7
                · replace hf := x_ip c10 hf
                  refine lv_tableIn (tgt := 100) hx hb dA_count_1 (by rw [c10]; decide) (by rw [c10]; decide) (by rw [c10]; rfl) (by decide) ?_
                  refine lv_aload_n hx hb dA_count_100 rfl (lv_at hl 0 rfl) ?_
                  refine x_get C hw 0 0 10 (v := .ref (E.2.2.1 12 0)) at_0 rfl rfl ⟨by decide, by decide⟩ wA_66 rfl dA_count_101 ?_
                  refine x_getN C hw 12 0 3 (v := .int (σ.1 12 0 3)) at_12 rfl rfl ⟨by decide, by decide⟩ wA_278 rfl dA_count_104 ?_
                  obtain rfl := Option.some.inj hf
                  exact x_iret C hw dA_count_107
                · replace hf := x_in c10 hf
                  by_cases c11 : a1 = 8
                  · replace hf := x_ip c11 hf
                    refine lv_tableIn (tgt := 108) hx hb dA_count_1 (by rw [c11]; decide) (by rw [c11]; decide) (by rw [c11]; rfl) (by decide) ?_
                    refine lv_aload_n hx hb dA_count_108 rfl (lv_at hl 0 rfl) ?_
                    refine x_get C hw 0 0 16 (v := .int (σ.1 0 0 16)) at_0 rfl rfl ⟨by decide, by decide⟩ wA_89 rfl dA_count_109 ?_
                    obtain rfl := Option.some.inj hf
                    exact x_iret C hw dA_count_112
                  · replace hf := x_in c11 hf
                    by_cases c12 : a1 = 9
                    · replace hf := x_ip c12 hf
                      refine lv_tableIn (tgt := 113) hx hb dA_count_1 (by rw [c12]; decide) (by rw [c12]; decide) (by rw [c12]; rfl) (by decide) ?_
                      refine lv_aload_n hx hb dA_count_113 rfl (lv_at hl 0 rfl) ?_
                      refine x_get C hw 0 0 17 (v := .int (σ.1 0 0 17)) at_0 rfl rfl ⟨by decide, by decide⟩ wA_92 rfl dA_count_114 ?_
                      obtain rfl := Option.some.inj hf
                      exact x_iret C hw dA_count_117
                    · replace hf := x_in c12 hf
                      refine lv_tableOut (tgt := 118) hx hb dA_count_1 (by have nc1 := lv_neT c1 (a := 0) (by decide); have nc2 := lv_neT c2 (a := 1) (by decide); have nc3 := lv_neT c3 (a := 2) (by decide); have nc4 := lv_neT c4 (a := 3) (by decide); have nc7 := lv_neT c7 (a := 4) (by decide); have nc8 := lv_neT c8 (a := 5) (by decide); have nc9 := lv_neT c9 (a := 6) (by decide); have nc10 := lv_neT c10 (a := 7) (by decide); have nc11 := lv_neT c11 (a := 8) (by decide); have nc12 := lv_neT c12 (a := 9) (by decide); omega) (by decide) ?_
                      refine lv_iconst (v := (-1)) hx hb dA_count_118 (by decide) ?_
                      obtain rfl := Option.some.inj hf
                      exact x_iret C hw dA_count_119
