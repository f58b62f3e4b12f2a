-- StandIns isBelow (II)Z
set_option maxRecDepth 100000 in
theorem dA_isBelow_0 : decode bA_isBelow 0 = .ok (.iload_n 0, 1) := by decide +kernel
set_option maxRecDepth 100000 in
theorem dA_isBelow_1 : decode bA_isBelow 1 = .ok (.ifCond .lt 12, 3) := by decide +kernel
set_option maxRecDepth 100000 in
theorem dA_isBelow_4 : decode bA_isBelow 4 = .ok (.iload_n 0, 1) := by decide +kernel
set_option maxRecDepth 100000 in
theorem dA_isBelow_5 : decode bA_isBelow 5 = .ok (.iload_n 1, 1) := by decide +kernel
set_option maxRecDepth 100000 in
theorem dA_isBelow_6 : decode bA_isBelow 6 = .ok (.if_icmp .ge 7, 3) := by decide +kernel
set_option maxRecDepth 100000 in
theorem dA_isBelow_9 : decode bA_isBelow 9 = .ok (.iconst 1, 1) := by decide +kernel
set_option maxRecDepth 100000 in
theorem dA_isBelow_10 : decode bA_isBelow 10 = .ok (.goto 4, 3) := by decide +kernel
set_option maxRecDepth 100000 in
theorem dA_isBelow_13 : decode bA_isBelow 13 = .ok (.iconst 0, 1) := by decide +kernel
set_option maxRecDepth 100000 in
theorem dA_isBelow_14 : decode bA_isBelow 14 = .ok (.ireturn, 1) := by decide +kernel
def fA_isBelow (a0 : Int32) (a1 : Int32) : Int32 :=
  if a0 < 0 then
  (0)
  else
  (if a1 ≤ a0 then
  (0)
  else
  (1))
set_option maxHeartbeats 4000000 in
set_option maxRecDepth 100000 in
theorem cA_isBelow (l : Launch) (E : xE) (σ : xS) (τ : yS) (a0 : Int32) (a1 : Int32) : xM l E yA_isBelow bA_isBelow 2 (some .boolean) 0 0 0 [.int a0, .int a1] σ τ (some (.int (fA_isBelow a0 a1))) σ τ := by
  refine x_met (by decide) (Nat.le_of_ble_eq_true rfl) (fun p e R s m args below meth c A ls H locs C hw hl => ?_)
  have hl : lv_has ls 2 [(0, .int a0), (1, .int a1)] := hl
  have hx := C.1
  have hb := C.2.1
  obtain ⟨res, hf⟩ : ∃ z, fA_isBelow a0 a1 = z := ⟨_, rfl⟩
  rw [hf]
  unfold fA_isBelow at hf
  refine lv_iload_n hx hb dA_isBelow_0 rfl (lv_at hl 0 rfl) ?_
  refine lv_if_lt (tgt := 13) hx hb dA_isBelow_1 (by decide) (fun c1 => ?_) (fun c1 => ?_)
  · replace hf := x_ip c1 hf
    refine lv_iconst (v := 0) hx hb dA_isBelow_13 (by decide) ?_
    obtain rfl := hf
    exact x_zret C hw (x_nz (v := 0) (Or.inl rfl)) dA_isBelow_14
  · replace hf := x_in c1 hf
    refine lv_iload_n hx hb dA_isBelow_4 rfl (lv_at hl 0 rfl) ?_
    refine lv_iload_n hx hb dA_isBelow_5 rfl (lv_at hl 1 rfl) ?_
    refine lv_icmp_ge (tgt := 13) hx hb dA_isBelow_6 (by decide) (fun c2 => ?_) (fun c2 => ?_)
    · replace hf := x_ip c2 hf
      refine lv_iconst (v := 0) hx hb dA_isBelow_13 (by decide) ?_
      obtain rfl := hf
      exact x_zret C hw (x_nz (v := 0) (Or.inl rfl)) dA_isBelow_14
    · replace hf := x_in c2 hf
      refine lv_iconst (v := 1) hx hb dA_isBelow_9 (by decide) ?_
      refine lv_goto (tgt := 14) hx hb dA_isBelow_10 (by decide) ?_
      obtain rfl := hf
      exact x_zret C hw (x_nz (v := 1) (Or.inr rfl)) dA_isBelow_14
theorem zA_isBelow (a0 : Int32) (a1 : Int32) : narrow .boolean (.int (fA_isBelow a0 a1)) = .int (fA_isBelow a0 a1) := by
  unfold fA_isBelow
  (repeat' split) <;> first | rfl | rfl
-- StandIns awaitsCall ()Z
set_option maxRecDepth 100000 in
theorem dA_awaitsCall_0 : decode bA_awaitsCall 0 = .ok (.aload_n 0, 1) := by decide +kernel
set_option maxRecDepth 100000 in
theorem dA_awaitsCall_1 : decode bA_awaitsCall 1 = .ok (.getfield 77, 3) := by decide +kernel
set_option maxRecDepth 100000 in
theorem dA_awaitsCall_4 : decode bA_awaitsCall 4 = .ok (.iconst 2, 1) := by decide +kernel
set_option maxRecDepth 100000 in
theorem dA_awaitsCall_5 : decode bA_awaitsCall 5 = .ok (.if_icmp .eq 11, 3) := by decide +kernel
set_option maxRecDepth 100000 in
theorem dA_awaitsCall_8 : decode bA_awaitsCall 8 = .ok (.aload_n 0, 1) := by decide +kernel
set_option maxRecDepth 100000 in
theorem dA_awaitsCall_9 : decode bA_awaitsCall 9 = .ok (.getfield 77, 3) := by decide +kernel
set_option maxRecDepth 100000 in
theorem dA_awaitsCall_12 : decode bA_awaitsCall 12 = .ok (.iconst 3, 1) := by decide +kernel
set_option maxRecDepth 100000 in
theorem dA_awaitsCall_13 : decode bA_awaitsCall 13 = .ok (.if_icmp .ne 7, 3) := by decide +kernel
set_option maxRecDepth 100000 in
theorem dA_awaitsCall_16 : decode bA_awaitsCall 16 = .ok (.iconst 1, 1) := by decide +kernel
set_option maxRecDepth 100000 in
theorem dA_awaitsCall_17 : decode bA_awaitsCall 17 = .ok (.goto 4, 3) := by decide +kernel
set_option maxRecDepth 100000 in
theorem dA_awaitsCall_20 : decode bA_awaitsCall 20 = .ok (.iconst 0, 1) := by decide +kernel
set_option maxRecDepth 100000 in
theorem dA_awaitsCall_21 : decode bA_awaitsCall 21 = .ok (.ireturn, 1) := by decide +kernel
def fA_awaitsCall_16 (σ : xS) : Int32 :=
  1
def fA_awaitsCall (σ : xS) : Int32 :=
  if (σ.1 0 0 12) = 2 then
  (fA_awaitsCall_16 σ)
  else
  (if (σ.1 0 0 12) = 3 then
  (fA_awaitsCall_16 σ)
  else
  (0))
set_option maxHeartbeats 4000000 in
set_option maxRecDepth 100000 in
theorem wA_awaitsCall_16 {p : Program} {l : Launch} {e : Env} {R : Room} {s : State} {m : MethodId} {args : Array Value} {below : List Frame} {meth : Method} {c : Code} {E : xE} {A : Nat → Prop} {τ : yS} (C : xC p s m args meth c R E A bA_awaitsCall 1 yA_awaitsCall (some .boolean) 0 0 0) (σ : xS) (res : Int32) (hf : fA_awaitsCall_16 σ = res) (H : Heap) (locs : List Loc) (ls : Array Slot) (hw : xW E A s σ τ H locs) (hl : lv_has ls 1 []) : W p l e R s m args below meth c H locs 0 0 (MQ below (xQ E A (some (.int res)) σ τ) args s 0 0 A) (F0 m 16 ls []) := by
  have hx := C.1
  have hb := C.2.1
  unfold fA_awaitsCall_16 at hf
  refine lv_iconst (v := 1) hx hb dA_awaitsCall_16 (by decide) ?_
  refine lv_goto (tgt := 21) hx hb dA_awaitsCall_17 (by decide) ?_
  obtain rfl := hf
  exact x_zret C hw (x_nz (v := 1) (Or.inr rfl)) dA_awaitsCall_21
set_option maxHeartbeats 4000000 in
set_option maxRecDepth 100000 in
theorem cA_awaitsCall (l : Launch) (E : xE) (σ : xS) (τ : yS) : xM l E yA_awaitsCall bA_awaitsCall 1 (some .boolean) 0 0 0 [.ref (E.2.2.1 0 0)] σ τ (some (.int (fA_awaitsCall σ ))) σ τ := by
  refine x_met (by decide) (Nat.le_of_ble_eq_true rfl) (fun p e R s m args below meth c A ls H locs C hw hl => ?_)
  have hl : lv_has ls 1 [(0, .ref (E.2.2.1 0 0))] := hl
  have hx := C.1
  have hb := C.2.1
  obtain ⟨res, hf⟩ : ∃ z, fA_awaitsCall σ  = z := ⟨_, rfl⟩
  rw [hf]
  unfold fA_awaitsCall at hf
  refine lv_aload_n hx hb dA_awaitsCall_0 rfl (lv_at hl 0 rfl) ?_
  refine x_get C hw 0 0 12 (v := .int (σ.1 0 0 12)) at_0 rfl rfl ⟨by decide, by decide⟩ wA_77 rfl dA_awaitsCall_1 ?_
  refine lv_iconst (v := 2) hx hb dA_awaitsCall_4 (by decide) ?_
  refine lv_icmp_eq (tgt := 16) hx hb dA_awaitsCall_5 (by decide) (fun c1 => ?_) (fun c1 => ?_)
  · replace hf := x_ip c1 hf
    exact wA_awaitsCall_16 C σ res hf H locs ls hw (lv_sub hl [] rfl)
  · replace hf := x_in c1 hf
    refine lv_aload_n hx hb dA_awaitsCall_8 rfl (lv_at hl 0 rfl) ?_
    refine x_get C hw 0 0 12 (v := .int (σ.1 0 0 12)) at_0 rfl rfl ⟨by decide, by decide⟩ wA_77 rfl dA_awaitsCall_9 ?_
    refine lv_iconst (v := 3) hx hb dA_awaitsCall_12 (by decide) ?_
    refine lv_icmp_ne (tgt := 20) hx hb dA_awaitsCall_13 (by decide) (fun c2 => ?_) (fun c2 => ?_)
    · replace hf := x_in c2 hf
      refine lv_iconst (v := 0) hx hb dA_awaitsCall_20 (by decide) ?_
      obtain rfl := hf
      exact x_zret C hw (x_nz (v := 0) (Or.inl rfl)) dA_awaitsCall_21
    · replace hf := x_ip c2 hf
      exact wA_awaitsCall_16 C σ res hf H locs ls hw (lv_sub hl [] rfl)
theorem zA_awaitsCall (σ : xS) : narrow .boolean (.int (fA_awaitsCall σ )) = .int (fA_awaitsCall σ ) := by
  unfold fA_awaitsCall
  try unfold fA_awaitsCall_16
  (repeat' split) <;> first | rfl | rfl
-- StandIns latestTelling ()LStandIns$Telling;
set_option maxRecDepth 100000 in
theorem dA_latestTelling_0 : decode bA_latestTelling 0 = .ok (.aload_n 0, 1) := by decide +kernel
set_option maxRecDepth 100000 in
theorem dA_latestTelling_1 : decode bA_latestTelling 1 = .ok (.getfield 49, 3) := by decide +kernel
set_option maxRecDepth 100000 in
theorem dA_latestTelling_4 : decode bA_latestTelling 4 = .ok (.aload_n 0, 1) := by decide +kernel
set_option maxRecDepth 100000 in
theorem dA_latestTelling_5 : decode bA_latestTelling 5 = .ok (.getfield 53, 3) := by decide +kernel
set_option maxRecDepth 100000 in
theorem dA_latestTelling_8 : decode bA_latestTelling 8 = .ok (.iconst 1, 1) := by decide +kernel
set_option maxRecDepth 100000 in
theorem dA_latestTelling_9 : decode bA_latestTelling 9 = .ok (.isub, 1) := by decide +kernel
set_option maxRecDepth 100000 in
theorem dA_latestTelling_10 : decode bA_latestTelling 10 = .ok (.iconst 0, 1) := by decide +kernel
set_option maxRecDepth 100000 in
theorem dA_latestTelling_11 : decode bA_latestTelling 11 = .ok (.invokestatic 285, 3) := by decide +kernel
set_option maxRecDepth 100000 in
theorem dA_latestTelling_14 : decode bA_latestTelling 14 = .ok (.aaload, 1) := by decide +kernel
set_option maxRecDepth 100000 in
theorem dA_latestTelling_15 : decode bA_latestTelling 15 = .ok (.areturn, 1) := by decide +kernel
def fA_latestTelling (σ : xS) : Option (Nat) :=
  if ¬ ((if ((σ.1 0 0 8) - 1) < 0 then 0 else (σ.1 0 0 8) - 1) < 0 ∨ 16 ≤ (if ((σ.1 0 0 8) - 1) < 0 then 0 else (σ.1 0 0 8) - 1).toNatClampNeg) then
  some ((if ((σ.1 0 0 8) - 1) < 0 then 0 else (σ.1 0 0 8) - 1).toNatClampNeg)
  else none
set_option maxHeartbeats 4000000 in
set_option maxRecDepth 100000 in
theorem cA_latestTelling (l : Launch) (E : xE) (σ : xS) (τ : yS) (res : Nat) (hf : fA_latestTelling σ = some res) : xM l E yA_latestTelling bA_latestTelling 1 (some (.object "StandIns$Telling")) 1 0 0 [.ref (E.2.2.1 0 0)] σ τ (some (.ref (E.2.2.1 16 res))) σ τ := by
  refine x_met (by decide) (Nat.le_of_ble_eq_true rfl) (fun p e R s m args below meth c A ls H locs C hw hl => ?_)
  have hl : lv_has ls 1 [(0, .ref (E.2.2.1 0 0))] := hl
  have hx := C.1
  have hb := C.2.1
  unfold fA_latestTelling at hf
  refine lv_aload_n hx hb dA_latestTelling_0 rfl (lv_at hl 0 rfl) ?_
  refine x_get C hw 0 0 7 (v := .ref (E.2.2.1 8 0)) at_0 rfl rfl ⟨by decide, by decide⟩ wA_49 rfl dA_latestTelling_1 ?_
  refine lv_aload_n hx hb dA_latestTelling_4 rfl (lv_at hl 0 rfl) ?_
  refine x_get C hw 0 0 8 (v := .int (σ.1 0 0 8)) at_0 rfl rfl ⟨by decide, by decide⟩ wA_53 rfl dA_latestTelling_5 ?_
  refine lv_iconst (v := 1) hx hb dA_latestTelling_8 (by decide) ?_
  refine lv_isub hx hb dA_latestTelling_9 ?_
  refine lv_iconst (v := 0) hx hb dA_latestTelling_10 (by decide) ?_
  refine x_mmax C hl wA_285 dA_latestTelling_11 ?_
  obtain ⟨g1, hf⟩ := x_g hf
  refine x_ald8 C hw g1 dA_latestTelling_14 ?_
  have g2 := x_lt g1
  obtain rfl := Option.some.inj hf
  exact x_aret C hw (Or.inr ⟨_, rfl⟩) dA_latestTelling_15
-- StandIns lacksAnswers ()Z
set_option maxRecDepth 100000 in
theorem dA_lacksAnswers_0 : decode bA_lacksAnswers 0 = .ok (.aload_n 0, 1) := by decide +kernel
set_option maxRecDepth 100000 in
theorem dA_lacksAnswers_1 : decode bA_lacksAnswers 1 = .ok (.getfield 77, 3) := by decide +kernel
set_option maxRecDepth 100000 in
theorem dA_lacksAnswers_4 : decode bA_lacksAnswers 4 = .ok (.iconst 4, 1) := by decide +kernel
set_option maxRecDepth 100000 in
theorem dA_lacksAnswers_5 : decode bA_lacksAnswers 5 = .ok (.if_icmp .ne 20, 3) := by decide +kernel
set_option maxRecDepth 100000 in
theorem dA_lacksAnswers_8 : decode bA_lacksAnswers 8 = .ok (.aload_n 0, 1) := by decide +kernel
set_option maxRecDepth 100000 in
theorem dA_lacksAnswers_9 : decode bA_lacksAnswers 9 = .ok (.invokevirtual 207, 3) := by decide +kernel
set_option maxRecDepth 100000 in
theorem dA_lacksAnswers_12 : decode bA_lacksAnswers 12 = .ok (.getfield 211, 3) := by decide +kernel
set_option maxRecDepth 100000 in
theorem dA_lacksAnswers_15 : decode bA_lacksAnswers 15 = .ok (.getfield 214, 3) := by decide +kernel
set_option maxRecDepth 100000 in
theorem dA_lacksAnswers_18 : decode bA_lacksAnswers 18 = .ok (.ifCond .ne 7, 3) := by decide +kernel
set_option maxRecDepth 100000 in
theorem dA_lacksAnswers_21 : decode bA_lacksAnswers 21 = .ok (.iconst 1, 1) := by decide +kernel
set_option maxRecDepth 100000 in
theorem dA_lacksAnswers_22 : decode bA_lacksAnswers 22 = .ok (.goto 4, 3) := by decide +kernel
set_option maxRecDepth 100000 in
theorem dA_lacksAnswers_25 : decode bA_lacksAnswers 25 = .ok (.iconst 0, 1) := by decide +kernel
set_option maxRecDepth 100000 in
theorem dA_lacksAnswers_26 : decode bA_lacksAnswers 26 = .ok (.ireturn, 1) := by decide +kernel
def fA_lacksAnswers (σ : xS) : Option (Int32) :=
  if (σ.1 0 0 12) = 4 then
  (xp (fA_latestTelling σ) fun r3 =>
  if r3 < 16 then
  if r3 < 17 then
  if (σ.1 18 r3 2) = 0 then
  (some 1)
  else
  (some 0)
  else none
  else none)
  else
  (some 0)
set_option maxHeartbeats 4000000 in
set_option maxRecDepth 100000 in
theorem cA_lacksAnswers (l : Launch) (E : xE) (σ : xS) (τ : yS) (res : Int32) (hf : fA_lacksAnswers σ = some res) : xM l E yA_lacksAnswers bA_lacksAnswers 1 (some .boolean) 2 0 0 [.ref (E.2.2.1 0 0)] σ τ (some (.int res)) σ τ := by
  refine x_met (by decide) (Nat.le_of_ble_eq_true rfl) (fun p e R s m args below meth c A ls H locs C hw hl => ?_)
  have hl : lv_has ls 1 [(0, .ref (E.2.2.1 0 0))] := hl
  have hx := C.1
  have hb := C.2.1
  unfold fA_lacksAnswers at hf
  refine lv_aload_n hx hb dA_lacksAnswers_0 rfl (lv_at hl 0 rfl) ?_
  refine x_get C hw 0 0 12 (v := .int (σ.1 0 0 12)) at_0 rfl rfl ⟨by decide, by decide⟩ wA_77 rfl dA_lacksAnswers_1 ?_
  refine lv_iconst (v := 4) hx hb dA_lacksAnswers_4 (by decide) ?_
  refine lv_icmp_ne (tgt := 25) hx hb dA_lacksAnswers_5 (by decide) (fun c1 => ?_) (fun c1 => ?_)
  · replace hf := x_in c1 hf
    refine lv_iconst (v := 0) hx hb dA_lacksAnswers_25 (by decide) ?_
    obtain rfl := Option.some.inj hf
    exact x_zret C hw (x_nz (v := 0) (Or.inl rfl)) dA_lacksAnswers_26
  · replace hf := x_ip c1 hf
    refine lv_aload_n hx hb dA_lacksAnswers_8 rfl (lv_at hl 0 rfl) ?_
    obtain ⟨r3, h2, hf⟩ := x_p hf
    refine x_callV (As := []) (rest := []) (st1 := [.ref (E.2.2.1 16 r3)]) C hw (cA_latestTelling l E σ τ r3 h2) kA_207 (x_recv C hw 0 0 at_0 rfl rfl) (by decide) rfl rfl hl.1 (lv_room (Nat.le_of_ble_eq_true rfl)) dA_lacksAnswers_9 ⟨by decide, by decide⟩ rfl (fun H locs hw => ?_)
    obtain ⟨g4, hf⟩ := x_g hf
    refine x_getN C hw 16 r3 1 (v := .ref (E.2.2.1 18 r3)) (at_16 g4) rfl rfl ⟨by decide, by decide⟩ wA_211 rfl dA_lacksAnswers_12 ?_
    obtain ⟨g5, hf⟩ := x_g hf
    refine x_getN C hw 18 r3 2 (v := .int (σ.1 18 r3 2)) (at_18 g5) rfl rfl ⟨by decide, by decide⟩ wA_214 rfl dA_lacksAnswers_15 ?_
    refine lv_if_ne (tgt := 25) hx hb dA_lacksAnswers_18 (by decide) (fun c6 => ?_) (fun c6 => ?_)
    · replace hf := x_in c6 hf
      refine lv_iconst (v := 0) hx hb dA_lacksAnswers_25 (by decide) ?_
      obtain rfl := Option.some.inj hf
      exact x_zret C hw (x_nz (v := 0) (Or.inl rfl)) dA_lacksAnswers_26
    · replace hf := x_ip c6 hf
      refine lv_iconst (v := 1) hx hb dA_lacksAnswers_21 (by decide) ?_
      refine lv_goto (tgt := 26) hx hb dA_lacksAnswers_22 (by decide) ?_
      obtain rfl := Option.some.inj hf
      exact x_zret C hw (x_nz (v := 1) (Or.inr rfl)) dA_lacksAnswers_26
-- StandIns misuseIf (ZZZ)I
set_option maxRecDepth 100000 in
theorem dA_misuseIf_0 : decode bA_misuseIf 0 = .ok (.iload_n 1, 1) := by decide +kernel
set_option maxRecDepth 100000 in
theorem dA_misuseIf_1 : decode bA_misuseIf 1 = .ok (.ifCond .ne 13, 3) := by decide +kernel
set_option maxRecDepth 100000 in
theorem dA_misuseIf_4 : decode bA_misuseIf 4 = .ok (.iload_n 2, 1) := by decide +kernel
set_option maxRecDepth 100000 in
theorem dA_misuseIf_5 : decode bA_misuseIf 5 = .ok (.ifCond .ne 9, 3) := by decide +kernel
set_option maxRecDepth 100000 in
theorem dA_misuseIf_8 : decode bA_misuseIf 8 = .ok (.iload_n 3, 1) := by decide +kernel
set_option maxRecDepth 100000 in
theorem dA_misuseIf_9 : decode bA_misuseIf 9 = .ok (.ifCond .ne 5, 3) := by decide +kernel
set_option maxRecDepth 100000 in
theorem dA_misuseIf_12 : decode bA_misuseIf 12 = .ok (.iconst 0, 1) := by decide +kernel
set_option maxRecDepth 100000 in
theorem dA_misuseIf_13 : decode bA_misuseIf 13 = .ok (.ireturn, 1) := by decide +kernel
set_option maxRecDepth 100000 in
theorem dA_misuseIf_14 : decode bA_misuseIf 14 = .ok (.aload_n 0, 1) := by decide +kernel
set_option maxRecDepth 100000 in
theorem dA_misuseIf_15 : decode bA_misuseIf 15 = .ok (.invokevirtual 128, 3) := by decide +kernel
set_option maxRecDepth 100000 in
theorem dA_misuseIf_18 : decode bA_misuseIf 18 = .ok (.ifCond .eq 11, 3) := by decide +kernel
set_option maxRecDepth 100000 in
theorem dA_misuseIf_21 : decode bA_misuseIf 21 = .ok (.aload_n 0, 1) := by decide +kernel
set_option maxRecDepth 100000 in
theorem dA_misuseIf_22 : decode bA_misuseIf 22 = .ok (.invokevirtual 207, 3) := by decide +kernel
set_option maxRecDepth 100000 in
theorem dA_misuseIf_25 : decode bA_misuseIf 25 = .ok (.iconst 1, 1) := by decide +kernel
set_option maxRecDepth 100000 in
theorem dA_misuseIf_26 : decode bA_misuseIf 26 = .ok (.putfield 255, 3) := by decide +kernel
set_option maxRecDepth 100000 in
theorem dA_misuseIf_29 : decode bA_misuseIf 29 = .ok (.aload_n 0, 1) := by decide +kernel
set_option maxRecDepth 100000 in
theorem dA_misuseIf_30 : decode bA_misuseIf 30 = .ok (.getfield 29, 3) := by decide +kernel
set_option maxRecDepth 100000 in
theorem dA_misuseIf_33 : decode bA_misuseIf 33 = .ok (.iconst 0, 1) := by decide +kernel
set_option maxRecDepth 100000 in
theorem dA_misuseIf_34 : decode bA_misuseIf 34 = .ok (.putfield 121, 3) := by decide +kernel
set_option maxRecDepth 100000 in
theorem dA_misuseIf_37 : decode bA_misuseIf 37 = .ok (.aload_n 0, 1) := by decide +kernel
set_option maxRecDepth 100000 in
theorem dA_misuseIf_38 : decode bA_misuseIf 38 = .ok (.getfield 36, 3) := by decide +kernel
set_option maxRecDepth 100000 in
theorem dA_misuseIf_41 : decode bA_misuseIf 41 = .ok (.iconst 0, 1) := by decide +kernel
set_option maxRecDepth 100000 in
theorem dA_misuseIf_42 : decode bA_misuseIf 42 = .ok (.putfield 214, 3) := by decide +kernel
set_option maxRecDepth 100000 in
theorem dA_misuseIf_45 : decode bA_misuseIf 45 = .ok (.aload_n 0, 1) := by decide +kernel
set_option maxRecDepth 100000 in
theorem dA_misuseIf_46 : decode bA_misuseIf 46 = .ok (.iconst 0, 1) := by decide +kernel
set_option maxRecDepth 100000 in
theorem dA_misuseIf_47 : decode bA_misuseIf 47 = .ok (.putfield 77, 3) := by decide +kernel
set_option maxRecDepth 100000 in
theorem dA_misuseIf_50 : decode bA_misuseIf 50 = .ok (.aload_n 0, 1) := by decide +kernel
set_option maxRecDepth 100000 in
theorem dA_misuseIf_51 : decode bA_misuseIf 51 = .ok (.dup, 1) := by decide +kernel
set_option maxRecDepth 100000 in
theorem dA_misuseIf_52 : decode bA_misuseIf 52 = .ok (.getfield 92, 3) := by decide +kernel
set_option maxRecDepth 100000 in
theorem dA_misuseIf_55 : decode bA_misuseIf 55 = .ok (.iconst 1, 1) := by decide +kernel
set_option maxRecDepth 100000 in
theorem dA_misuseIf_56 : decode bA_misuseIf 56 = .ok (.iadd, 1) := by decide +kernel
set_option maxRecDepth 100000 in
theorem dA_misuseIf_57 : decode bA_misuseIf 57 = .ok (.putfield 92, 3) := by decide +kernel
set_option maxRecDepth 100000 in
theorem dA_misuseIf_60 : decode bA_misuseIf 60 = .ok (.iload_n 1, 1) := by decide +kernel
set_option maxRecDepth 100000 in
theorem dA_misuseIf_61 : decode bA_misuseIf 61 = .ok (.ifCond .eq 6, 3) := by decide +kernel
set_option maxRecDepth 100000 in
theorem dA_misuseIf_64 : decode bA_misuseIf 64 = .ok (.bipush (-3), 2) := by decide +kernel
set_option maxRecDepth 100000 in
theorem dA_misuseIf_66 : decode bA_misuseIf 66 = .ok (.ireturn, 1) := by decide +kernel
set_option maxRecDepth 100000 in
theorem dA_misuseIf_67 : decode bA_misuseIf 67 = .ok (.iload_n 2, 1) := by decide +kernel
set_option maxRecDepth 100000 in
theorem dA_misuseIf_68 : decode bA_misuseIf 68 = .ok (.ifCond .eq 8, 3) := by decide +kernel
set_option maxRecDepth 100000 in
theorem dA_misuseIf_71 : decode bA_misuseIf 71 = .ok (.bipush (-4), 2) := by decide +kernel
set_option maxRecDepth 100000 in
theorem dA_misuseIf_73 : decode bA_misuseIf 73 = .ok (.goto 5, 3) := by decide +kernel
set_option maxRecDepth 100000 in
theorem dA_misuseIf_76 : decode bA_misuseIf 76 = .ok (.bipush (-5), 2) := by decide +kernel
set_option maxRecDepth 100000 in
theorem dA_misuseIf_78 : decode bA_misuseIf 78 = .ok (.ireturn, 1) := by decide +kernel
def fA_misuseIf_29 (σ : xS) (a1 : Int32) (a2 : Int32) : Option (Int32 × xS) :=
  xl (x_si σ 4 0 1 0) fun s14 =>
  xl (x_si s14 18 16 2 0) fun s15 =>
  xl (x_si s15 0 0 12 0) fun s16 =>
  xl (x_si s16 0 0 17 ((s16.1 0 0 17) + 1)) fun s17 =>
  if a1 = 0 then
  (if a2 = 0 then
  (some ((-5), s17))
  else
  (some ((-4), s17)))
  else
  (some ((-3), s17))
def fA_misuseIf_14 (σ : xS) (a1 : Int32) (a2 : Int32) : Option (Int32 × xS) :=
  xp (fA_lacksAnswers σ) fun r21 =>
  if r21 = 0 then
  (fA_misuseIf_29 σ a1 a2)
  else
  (xp (fA_latestTelling σ) fun r24 =>
  if r24 < 16 then
  xl (x_si σ 16 r24 4 1) fun s26 =>
  fA_misuseIf_29 s26 a1 a2
  else none)
def fA_misuseIf (σ : xS) (a1 : Int32) (a2 : Int32) (a3 : Int32) : Option (Int32 × xS) :=
  if a1 = 0 then
  (if a2 = 0 then
  (if a3 = 0 then
  (some (0, σ))
  else
  (fA_misuseIf_14 σ a1 a2))
  else
  (fA_misuseIf_14 σ a1 a2))
  else
  (fA_misuseIf_14 σ a1 a2)
set_option maxHeartbeats 4000000 in
set_option maxRecDepth 100000 in
theorem wA_misuseIf_29 {p : Program} {l : Launch} {e : Env} {R : Room} {s : State} {m : MethodId} {args : Array Value} {below : List Frame} {meth : Method} {c : Code} {E : xE} {A : Nat → Prop} {τ : yS} (C : xC p s m args meth c R E A bA_misuseIf 4 yA_misuseIf (some .int) 3 0 0) (σ : xS) (a1 : Int32) (a2 : Int32) (res : Int32 × xS) (hf : fA_misuseIf_29 σ a1 a2 = some res) (H : Heap) (locs : List Loc) (ls : Array Slot) (hw : xW E A s σ τ H locs) (hl : lv_has ls 4 [(0, .ref (E.2.2.1 0 0)), (1, .int a1), (2, .int a2)]) : W p l e R s m args below meth c H locs 0 0 (MQ below (xQ E A (some (.int res.1)) res.2 τ) args s 0 0 A) (F0 m 29 ls []) := by
  have hx := C.1
  have hb := C.2.1
  unfold fA_misuseIf_29 at hf
  refine lv_aload_n hx hb dA_misuseIf_29 rfl (lv_at hl 0 rfl) ?_
  refine x_get C hw 0 0 4 (v := .ref (E.2.2.1 4 0)) at_0 rfl rfl ⟨by decide, by decide⟩ wA_29 rfl dA_misuseIf_30 ?_
  refine lv_iconst (v := 0) hx hb dA_misuseIf_33 (by decide) ?_
  refine x_putiN C hw 4 0 1 at_4 rfl rfl rfl ⟨rfl, rfl⟩ ⟨by decide, by decide⟩ (Nat.le_of_ble_eq_true rfl) wA_121 dA_misuseIf_34 (fun H locs hw => ?_)
  obtain ⟨s14, es14, hf⟩ := x_l hf
  rw [← es14] at hw
  refine lv_aload_n hx hb dA_misuseIf_37 rfl (lv_at hl 0 rfl) ?_
  refine x_get C hw 0 0 5 (v := .ref (E.2.2.1 18 16)) at_0 rfl rfl ⟨by decide, by decide⟩ wA_36 rfl dA_misuseIf_38 ?_
  refine lv_iconst (v := 0) hx hb dA_misuseIf_41 (by decide) ?_
  refine x_putiN C hw 18 16 2 (at_18 (by decide)) rfl rfl rfl ⟨rfl, rfl⟩ ⟨by decide, by decide⟩ (Nat.le_of_ble_eq_true rfl) wA_214 dA_misuseIf_42 (fun H locs hw => ?_)
  obtain ⟨s15, es15, hf⟩ := x_l hf
  rw [← es15] at hw
  refine lv_aload_n hx hb dA_misuseIf_45 rfl (lv_at hl 0 rfl) ?_
  refine lv_iconst (v := 0) hx hb dA_misuseIf_46 (by decide) ?_
  refine x_puti C hw 0 0 12 at_0 rfl rfl rfl ⟨rfl, rfl⟩ ⟨by decide, by decide⟩ (Nat.le_of_ble_eq_true rfl) wA_77 dA_misuseIf_47 (fun H locs hw => ?_)
  obtain ⟨s16, es16, hf⟩ := x_l hf
  rw [← es16] at hw
  refine lv_aload_n hx hb dA_misuseIf_50 rfl (lv_at hl 0 rfl) ?_
  refine lv_dup hx hb dA_misuseIf_51 rfl ?_
  refine x_get C hw 0 0 17 (v := .int (s16.1 0 0 17)) at_0 rfl rfl ⟨by decide, by decide⟩ wA_92 rfl dA_misuseIf_52 ?_
  refine lv_iconst (v := 1) hx hb dA_misuseIf_55 (by decide) ?_
  refine lv_iadd hx hb dA_misuseIf_56 ?_
  refine x_puti C hw 0 0 17 at_0 rfl rfl rfl ⟨rfl, rfl⟩ ⟨by decide, by decide⟩ (Nat.le_of_ble_eq_true rfl) wA_92 dA_misuseIf_57 (fun H locs hw => ?_)
  obtain ⟨s17, es17, hf⟩ := x_l hf
  rw [← es17] at hw
  refine lv_iload_n hx hb dA_misuseIf_60 rfl (lv_at hl 1 rfl) ?_
  refine lv_if_eq (tgt := 67) hx hb dA_misuseIf_61 (by decide) (fun c18 => ?_) (fun c18 => ?_)
  · replace hf := x_ip c18 hf
    refine lv_iload_n hx hb dA_misuseIf_67 rfl (lv_at hl 2 rfl) ?_
    refine lv_if_eq (tgt := 76) hx hb dA_misuseIf_68 (by decide) (fun c19 => ?_) (fun c19 => ?_)
    · replace hf := x_ip c19 hf
      refine lv_bipush (v := (-5)) hx hb dA_misuseIf_76 (by decide) ?_
      obtain rfl := Option.some.inj hf
      exact x_iret C hw dA_misuseIf_78
    · replace hf := x_in c19 hf
      refine lv_bipush (v := (-4)) hx hb dA_misuseIf_71 (by decide) ?_
      refine lv_goto (tgt := 78) hx hb dA_misuseIf_73 (by decide) ?_
      obtain rfl := Option.some.inj hf
      exact x_iret C hw dA_misuseIf_78
  · replace hf := x_in c18 hf
    refine lv_bipush (v := (-3)) hx hb dA_misuseIf_64 (by decide) ?_
    obtain rfl := Option.some.inj hf
    exact x_iret C hw dA_misuseIf_66
set_option maxHeartbeats 4000000 in
set_option maxRecDepth 100000 in
theorem wA_misuseIf_14 {p : Program} {l : Launch} {e : Env} {R : Room} {s : State} {m : MethodId} {args : Array Value} {below : List Frame} {meth : Method} {c : Code} {E : xE} {A : Nat → Prop} {τ : yS} (C : xC p s m args meth c R E A bA_misuseIf 4 yA_misuseIf (some .int) 3 0 0) (σ : xS) (a1 : Int32) (a2 : Int32) (res : Int32 × xS) (hf : fA_misuseIf_14 σ a1 a2 = some res) (H : Heap) (locs : List Loc) (ls : Array Slot) (hw : xW E A s σ τ H locs) (hl : lv_has ls 4 [(0, .ref (E.2.2.1 0 0)), (1, .int a1), (2, .int a2)]) : W p l e R s m args below meth c H locs 0 0 (MQ below (xQ E A (some (.int res.1)) res.2 τ) args s 0 0 A) (F0 m 14 ls []) := by
  have hx := C.1
  have hb := C.2.1
  unfold fA_misuseIf_14 at hf
  refine lv_aload_n hx hb dA_misuseIf_14 rfl (lv_at hl 0 rfl) ?_
  obtain ⟨r21, h20, hf⟩ := x_p hf
  refine x_callV (As := []) (rest := []) (st1 := [.int r21]) C hw (cA_lacksAnswers l E σ τ r21 h20) kA_128 (x_recv C hw 0 0 at_0 rfl rfl) (by decide) rfl rfl hl.1 (lv_room (Nat.le_of_ble_eq_true rfl)) dA_misuseIf_15 ⟨by decide, by decide⟩ rfl (fun H locs hw => ?_)
  refine lv_if_eq (tgt := 29) hx hb dA_misuseIf_18 (by decide) (fun c22 => ?_) (fun c22 => ?_)
  · replace hf := x_ip c22 hf
    exact wA_misuseIf_29 C σ a1 a2 res hf H locs ls hw (lv_sub hl [0, 1, 2] rfl)
  · replace hf := x_in c22 hf
    refine lv_aload_n hx hb dA_misuseIf_21 rfl (lv_at hl 0 rfl) ?_
    obtain ⟨r24, h23, hf⟩ := x_p hf
    refine x_callV (As := []) (rest := []) (st1 := [.ref (E.2.2.1 16 r24)]) C hw (cA_latestTelling l E σ τ r24 h23) kA_207 (x_recv C hw 0 0 at_0 rfl rfl) (by decide) rfl rfl hl.1 (lv_room (Nat.le_of_ble_eq_true rfl)) dA_misuseIf_22 ⟨by decide, by decide⟩ rfl (fun H locs hw => ?_)
    refine lv_iconst (v := 1) hx hb dA_misuseIf_25 (by decide) ?_
    obtain ⟨g25, hf⟩ := x_g hf
    refine x_putzN C hw 16 r24 4 (at_16 g25) (by decide) rfl rfl rfl ⟨rfl, rfl⟩ ⟨by decide, by decide⟩ (Nat.le_of_ble_eq_true rfl) wA_255 dA_misuseIf_26 (fun H locs hw => ?_)
    obtain ⟨s26, es26, hf⟩ := x_l hf
    rw [← es26] at hw
    exact wA_misuseIf_29 C s26 a1 a2 res hf H locs ls hw (lv_sub hl [0, 1, 2] rfl)
set_option maxHeartbeats 4000000 in
set_option maxRecDepth 100000 in
theorem cA_misuseIf (l : Launch) (E : xE) (σ : xS) (τ : yS) (a1 : Int32) (a2 : Int32) (a3 : Int32) (res : Int32 × xS) (hf : fA_misuseIf σ a1 a2 a3 = some res) : xM l E yA_misuseIf bA_misuseIf 4 (some .int) 3 0 0 [.ref (E.2.2.1 0 0), .int a1, .int a2, .int a3] σ τ (some (.int res.1)) res.2 τ := by
  refine x_met (by decide) (Nat.le_of_ble_eq_true rfl) (fun p e R s m args below meth c A ls H locs C hw hl => ?_)
  have hl : lv_has ls 4 [(0, .ref (E.2.2.1 0 0)), (1, .int a1), (2, .int a2), (3, .int a3)] := hl
  have hx := C.1
  have hb := C.2.1
  unfold fA_misuseIf at hf
  refine lv_iload_n hx hb dA_misuseIf_0 rfl (lv_at hl 1 rfl) ?_
  refine lv_if_ne (tgt := 14) hx hb dA_misuseIf_1 (by decide) (fun c27 => ?_) (fun c27 => ?_)
  · replace hf := x_in c27 hf
    exact wA_misuseIf_14 C σ a1 a2 res hf H locs ls hw (lv_sub hl [0, 1, 2] rfl)
  · replace hf := x_ip c27 hf
    refine lv_iload_n hx hb dA_misuseIf_4 rfl (lv_at hl 2 rfl) ?_
    refine lv_if_ne (tgt := 14) hx hb dA_misuseIf_5 (by decide) (fun c28 => ?_) (fun c28 => ?_)
    · replace hf := x_in c28 hf
      exact wA_misuseIf_14 C σ a1 a2 res hf H locs ls hw (lv_sub hl [0, 1, 2] rfl)
    · replace hf := x_ip c28 hf
      refine lv_iload_n hx hb dA_misuseIf_8 rfl (lv_at hl 3 rfl) ?_
      refine lv_if_ne (tgt := 14) hx hb dA_misuseIf_9 (by decide) (fun c29 => ?_) (fun c29 => ?_)
      · replace hf := x_in c29 hf
        exact wA_misuseIf_14 C σ a1 a2 res hf H locs ls hw (lv_sub hl [0, 1, 2] rfl)
      · replace hf := x_ip c29 hf
        refine lv_iconst (v := 0) hx hb dA_misuseIf_12 (by decide) ?_
        obtain rfl := Option.some.inj hf
        exact x_iret C hw dA_misuseIf_13
-- StandIns misuseOfPlainStep (Z)I
set_option maxRecDepth 100000 in
theorem dA_misuseOfPlainStep_0 : decode bA_misuseOfPlainStep 0 = .ok (.aload_n 0, 1) := by decide +kernel
set_option maxRecDepth 100000 in
theorem dA_misuseOfPlainStep_1 : decode bA_misuseOfPlainStep 1 = .ok (.aload_n 0, 1) := by decide +kernel
set_option maxRecDepth 100000 in
theorem dA_misuseOfPlainStep_2 : decode bA_misuseOfPlainStep 2 = .ok (.invokevirtual 147, 3) := by decide +kernel
set_option maxRecDepth 100000 in
theorem dA_misuseOfPlainStep_5 : decode bA_misuseOfPlainStep 5 = .ok (.ifCond .ne 10, 3) := by decide +kernel
set_option maxRecDepth 100000 in
theorem dA_misuseOfPlainStep_8 : decode bA_misuseOfPlainStep 8 = .ok (.aload_n 0, 1) := by decide +kernel
set_option maxRecDepth 100000 in
theorem dA_misuseOfPlainStep_9 : decode bA_misuseOfPlainStep 9 = .ok (.invokevirtual 128, 3) := by decide +kernel
set_option maxRecDepth 100000 in
theorem dA_misuseOfPlainStep_12 : decode bA_misuseOfPlainStep 12 = .ok (.ifCond .eq 7, 3) := by decide +kernel
set_option maxRecDepth 100000 in
theorem dA_misuseOfPlainStep_15 : decode bA_misuseOfPlainStep 15 = .ok (.iconst 1, 1) := by decide +kernel
set_option maxRecDepth 100000 in
theorem dA_misuseOfPlainStep_16 : decode bA_misuseOfPlainStep 16 = .ok (.goto 4, 3) := by decide +kernel
set_option maxRecDepth 100000 in
theorem dA_misuseOfPlainStep_19 : decode bA_misuseOfPlainStep 19 = .ok (.iconst 0, 1) := by decide +kernel
set_option maxRecDepth 100000 in
theorem dA_misuseOfPlainStep_20 : decode bA_misuseOfPlainStep 20 = .ok (.aload_n 0, 1) := by decide +kernel
set_option maxRecDepth 100000 in
theorem dA_misuseOfPlainStep_21 : decode bA_misuseOfPlainStep 21 = .ok (.getfield 29, 3) := by decide +kernel
set_option maxRecDepth 100000 in
theorem dA_misuseOfPlainStep_24 : decode bA_misuseOfPlainStep 24 = .ok (.getfield 121, 3) := by decide +kernel
set_option maxRecDepth 100000 in
theorem dA_misuseOfPlainStep_27 : decode bA_misuseOfPlainStep 27 = .ok (.ifCond .le 7, 3) := by decide +kernel
set_option maxRecDepth 100000 in
theorem dA_misuseOfPlainStep_30 : decode bA_misuseOfPlainStep 30 = .ok (.iconst 1, 1) := by decide +kernel
set_option maxRecDepth 100000 in
theorem dA_misuseOfPlainStep_31 : decode bA_misuseOfPlainStep 31 = .ok (.goto 4, 3) := by decide +kernel
set_option maxRecDepth 100000 in
theorem dA_misuseOfPlainStep_34 : decode bA_misuseOfPlainStep 34 = .ok (.iconst 0, 1) := by decide +kernel
set_option maxRecDepth 100000 in
theorem dA_misuseOfPlainStep_35 : decode bA_misuseOfPlainStep 35 = .ok (.iload_n 1, 1) := by decide +kernel
set_option maxRecDepth 100000 in
theorem dA_misuseOfPlainStep_36 : decode bA_misuseOfPlainStep 36 = .ok (.invokevirtual 132, 3) := by decide +kernel
set_option maxRecDepth 100000 in
theorem dA_misuseOfPlainStep_39 : decode bA_misuseOfPlainStep 39 = .ok (.ireturn, 1) := by decide +kernel
def fA_misuseOfPlainStep_35 (σ : xS) (a1 : Int32) (t0 : Int32) (t1 : Int32) : Option (Int32 × xS) :=
  xb (fA_misuseIf σ t1 t0 a1) fun r6 s7 =>
  some (r6, s7)
def fA_misuseOfPlainStep_20 (σ : xS) (a1 : Int32) (t0 : Int32) : Option (Int32 × xS) :=
  if (σ.1 4 0 1) ≤ 0 then
  (fA_misuseOfPlainStep_35 σ a1 0 t0)
  else
  (fA_misuseOfPlainStep_35 σ a1 1 t0)
def fA_misuseOfPlainStep_15 (σ : xS) (a1 : Int32) : Option (Int32 × xS) :=
  fA_misuseOfPlainStep_20 σ a1 1
def fA_misuseOfPlainStep (σ : xS) (a1 : Int32) : Option (Int32 × xS) :=
  if (fA_awaitsCall σ) = 0 then
  (xp (fA_lacksAnswers σ) fun r12 =>
  if r12 = 0 then
  (fA_misuseOfPlainStep_20 σ a1 0)
  else
  (fA_misuseOfPlainStep_15 σ a1))
  else
  (fA_misuseOfPlainStep_15 σ a1)
set_option maxHeartbeats 4000000 in
set_option maxRecDepth 100000 in
theorem wA_misuseOfPlainStep_35 {p : Program} {l : Launch} {e : Env} {R : Room} {s : State} {m : MethodId} {args : Array Value} {below : List Frame} {meth : Method} {c : Code} {E : xE} {A : Nat → Prop} {τ : yS} (C : xC p s m args meth c R E A bA_misuseOfPlainStep 2 yA_misuseOfPlainStep (some .int) 4 0 0) (σ : xS) (a1 : Int32) (t0 : Int32) (t1 : Int32) (res : Int32 × xS) (hf : fA_misuseOfPlainStep_35 σ a1 t0 t1 = some res) (H : Heap) (locs : List Loc) (ls : Array Slot) (hw : xW E A s σ τ H locs) (hl : lv_has ls 2 [(1, .int a1)]) : W p l e R s m args below meth c H locs 0 0 (MQ below (xQ E A (some (.int res.1)) res.2 τ) args s 0 0 A) (F0 m 35 ls [.int t0, .int t1, .ref (E.2.2.1 0 0)]) := by
  have hx := C.1
  have hb := C.2.1
  unfold fA_misuseOfPlainStep_35 at hf
  refine lv_iload_n hx hb dA_misuseOfPlainStep_35 rfl (lv_at hl 0 rfl) ?_
  obtain ⟨r6, s7, h5, hf⟩ := x_b hf
  refine x_callV (As := [.int t1, .int t0, .int a1]) (rest := []) (st1 := [.int r6]) C hw (cA_misuseIf l E σ τ t1 t0 a1 (r6, s7) h5) kA_132 (x_recv C hw 0 0 at_0 rfl rfl) (by decide) rfl rfl hl.1 (lv_room (Nat.le_of_ble_eq_true rfl)) dA_misuseOfPlainStep_36 ⟨by decide, by decide⟩ rfl (fun H locs hw => ?_)
  obtain rfl := Option.some.inj hf
  exact x_iret C hw dA_misuseOfPlainStep_39
set_option maxHeartbeats 4000000 in
set_option maxRecDepth 100000 in
theorem wA_misuseOfPlainStep_20 {p : Program} {l : Launch} {e : Env} {R : Room} {s : State} {m : MethodId} {args : Array Value} {below : List Frame} {meth : Method} {c : Code} {E : xE} {A : Nat → Prop} {τ : yS} (C : xC p s m args meth c R E A bA_misuseOfPlainStep 2 yA_misuseOfPlainStep (some .int) 4 0 0) (σ : xS) (a1 : Int32) (t0 : Int32) (res : Int32 × xS) (hf : fA_misuseOfPlainStep_20 σ a1 t0 = some res) (H : Heap) (locs : List Loc) (ls : Array Slot) (hw : xW E A s σ τ H locs) (hl : lv_has ls 2 [(0, .ref (E.2.2.1 0 0)), (1, .int a1)]) : W p l e R s m args below meth c H locs 0 0 (MQ below (xQ E A (some (.int res.1)) res.2 τ) args s 0 0 A) (F0 m 20 ls [.int t0, .ref (E.2.2.1 0 0)]) := by
  have hx := C.1
  have hb := C.2.1
  unfold fA_misuseOfPlainStep_20 at hf
  refine lv_aload_n hx hb dA_misuseOfPlainStep_20 rfl (lv_at hl 0 rfl) ?_
  refine x_get C hw 0 0 4 (v := .ref (E.2.2.1 4 0)) at_0 rfl rfl ⟨by decide, by decide⟩ wA_29 rfl dA_misuseOfPlainStep_21 ?_
  refine x_getN C hw 4 0 1 (v := .int (σ.1 4 0 1)) at_4 rfl rfl ⟨by decide, by decide⟩ wA_121 rfl dA_misuseOfPlainStep_24 ?_
  refine lv_if_le (tgt := 34) hx hb dA_misuseOfPlainStep_27 (by decide) (fun c8 => ?_) (fun c8 => ?_)
  · replace hf := x_ip c8 hf
    refine lv_iconst (v := 0) hx hb dA_misuseOfPlainStep_34 (by decide) ?_
    exact wA_misuseOfPlainStep_35 C σ a1 0 t0 res hf H locs ls hw (lv_sub hl [1] rfl)
  · replace hf := x_in c8 hf
    refine lv_iconst (v := 1) hx hb dA_misuseOfPlainStep_30 (by decide) ?_
    refine lv_goto (tgt := 35) hx hb dA_misuseOfPlainStep_31 (by decide) ?_
    exact wA_misuseOfPlainStep_35 C σ a1 1 t0 res hf H locs ls hw (lv_sub hl [1] rfl)
set_option maxHeartbeats 4000000 in
set_option maxRecDepth 100000 in
theorem wA_misuseOfPlainStep_15 {p : Program} {l : Launch} {e : Env} {R : Room} {s : State} {m : MethodId} {args : Array Value} {below : List Frame} {meth : Method} {c : Code} {E : xE} {A : Nat → Prop} {τ : yS} (C : xC p s m args meth c R E A bA_misuseOfPlainStep 2 yA_misuseOfPlainStep (some .int) 4 0 0) (σ : xS) (a1 : Int32) (res : Int32 × xS) (hf : fA_misuseOfPlainStep_15 σ a1 = some res) (H : Heap) (locs : List Loc) (ls : Array Slot) (hw : xW E A s σ τ H locs) (hl : lv_has ls 2 [(0, .ref (E.2.2.1 0 0)), (1, .int a1)]) : W p l e R s m args below meth c H locs 0 0 (MQ below (xQ E A (some (.int res.1)) res.2 τ) args s 0 0 A) (F0 m 15 ls [.ref (E.2.2.1 0 0)]) := by
  have hx := C.1
  have hb := C.2.1
  unfold fA_misuseOfPlainStep_15 at hf
  refine lv_iconst (v := 1) hx hb dA_misuseOfPlainStep_15 (by decide) ?_
  refine lv_goto (tgt := 20) hx hb dA_misuseOfPlainStep_16 (by decide) ?_
  exact wA_misuseOfPlainStep_20 C σ a1 1 res hf H locs ls hw (lv_sub hl [0, 1] rfl)
set_option maxHeartbeats 4000000 in
set_option maxRecDepth 100000 in
theorem cA_misuseOfPlainStep (l : Launch) (E : xE) (σ : xS) (τ : yS) (a1 : Int32) (res : Int32 × xS) (hf : fA_misuseOfPlainStep σ a1 = some res) : xM l E yA_misuseOfPlainStep bA_misuseOfPlainStep 2 (some .int) 4 0 0 [.ref (E.2.2.1 0 0), .int a1] σ τ (some (.int res.1)) res.2 τ := by
  refine x_met (by decide) (Nat.le_of_ble_eq_true rfl) (fun p e R s m args below meth c A ls H locs C hw hl => ?_)
  have hl : lv_has ls 2 [(0, .ref (E.2.2.1 0 0)), (1, .int a1)] := hl
  have hx := C.1
  have hb := C.2.1
  unfold fA_misuseOfPlainStep at hf
  refine lv_aload_n hx hb dA_misuseOfPlainStep_0 rfl (lv_at hl 0 rfl) ?_
  refine lv_aload_n hx hb dA_misuseOfPlainStep_1 rfl (lv_at hl 0 rfl) ?_
  refine x_callV (As := []) (rest := [.ref (E.2.2.1 0 0)]) (st1 := [.int (fA_awaitsCall σ), .ref (E.2.2.1 0 0)]) C hw (cA_awaitsCall l E σ τ) kA_147 (x_recv C hw 0 0 at_0 rfl rfl) (by decide) rfl rfl hl.1 (lv_room (Nat.le_of_ble_eq_true rfl)) dA_misuseOfPlainStep_2 ⟨by decide, by decide⟩ rfl (fun H locs hw => ?_)
  refine lv_if_ne (tgt := 15) hx hb dA_misuseOfPlainStep_5 (by decide) (fun c10 => ?_) (fun c10 => ?_)
  · replace hf := x_in c10 hf
    exact wA_misuseOfPlainStep_15 C σ a1 res hf H locs ls hw (lv_sub hl [0, 1] rfl)
  · replace hf := x_ip c10 hf
    refine lv_aload_n hx hb dA_misuseOfPlainStep_8 rfl (lv_at hl 0 rfl) ?_
    obtain ⟨r12, h11, hf⟩ := x_p hf
    refine x_callV (As := []) (rest := [.ref (E.2.2.1 0 0)]) (st1 := [.int r12, .ref (E.2.2.1 0 0)]) C hw (cA_lacksAnswers l E σ τ r12 h11) kA_128 (x_recv C hw 0 0 at_0 rfl rfl) (by decide) rfl rfl hl.1 (lv_room (Nat.le_of_ble_eq_true rfl)) dA_misuseOfPlainStep_9 ⟨by decide, by decide⟩ rfl (fun H locs hw => ?_)
    refine lv_if_eq (tgt := 19) hx hb dA_misuseOfPlainStep_12 (by decide) (fun c13 => ?_) (fun c13 => ?_)
    · replace hf := x_ip c13 hf
      refine lv_iconst (v := 0) hx hb dA_misuseOfPlainStep_19 (by decide) ?_
      exact wA_misuseOfPlainStep_20 C σ a1 0 res hf H locs ls hw (lv_sub hl [0, 1] rfl)
    · replace hf := x_in c13 hf
      exact wA_misuseOfPlainStep_15 C σ a1 res hf H locs ls hw (lv_sub hl [0, 1] rfl)
-- StandIns idleWith (I)I
set_option maxRecDepth 100000 in
theorem dA_idleWith_0 : decode bA_idleWith 0 = .ok (.aload_n 0, 1) := by decide +kernel
set_option maxRecDepth 100000 in
theorem dA_idleWith_1 : decode bA_idleWith 1 = .ok (.iconst 0, 1) := by decide +kernel
set_option maxRecDepth 100000 in
theorem dA_idleWith_2 : decode bA_idleWith 2 = .ok (.putfield 77, 3) := by decide +kernel
set_option maxRecDepth 100000 in
theorem dA_idleWith_5 : decode bA_idleWith 5 = .ok (.iload_n 1, 1) := by decide +kernel
set_option maxRecDepth 100000 in
theorem dA_idleWith_6 : decode bA_idleWith 6 = .ok (.ireturn, 1) := by decide +kernel
def fA_idleWith (σ : xS) (a1 : Int32) : Int32 × xS :=
  xl (x_si σ 0 0 12 0) fun s1 =>
  (a1, s1)
set_option maxHeartbeats 4000000 in
set_option maxRecDepth 100000 in
theorem cA_idleWith (l : Launch) (E : xE) (σ : xS) (τ : yS) (a1 : Int32) (res : Int32 × xS) (hf : fA_idleWith σ a1 = res) : xM l E yA_idleWith bA_idleWith 2 (some .int) 0 0 0 [.ref (E.2.2.1 0 0), .int a1] σ τ (some (.int res.1)) res.2 τ := by
  refine x_met (by decide) (Nat.le_of_ble_eq_true rfl) (fun p e R s m args below meth c A ls H locs C hw hl => ?_)
  have hl : lv_has ls 2 [(0, .ref (E.2.2.1 0 0)), (1, .int a1)] := hl
  have hx := C.1
  have hb := C.2.1
  unfold fA_idleWith at hf
  refine lv_aload_n hx hb dA_idleWith_0 rfl (lv_at hl 0 rfl) ?_
  refine lv_iconst (v := 0) hx hb dA_idleWith_1 (by decide) ?_
  refine x_puti C hw 0 0 12 at_0 rfl rfl rfl ⟨rfl, rfl⟩ ⟨by decide, by decide⟩ (Nat.le_of_ble_eq_true rfl) wA_77 dA_idleWith_2 (fun H locs hw => ?_)
  obtain ⟨s1, es1, hf⟩ := x_l hf
  rw [← es1] at hw
  refine lv_iload_n hx hb dA_idleWith_5 rfl (lv_at hl 1 rfl) ?_
  obtain rfl := hf
  exact x_iret C hw dA_idleWith_6
-- StandIns define (IIIZ)I
set_option maxRecDepth 100000 in
theorem dA_define_0 : decode bA_define 0 = .ok (.iload_n 1, 1) := by decide +kernel
set_option maxRecDepth 100000 in
theorem dA_define_1 : decode bA_define 1 = .ok (.iconst 3, 1) := by decide +kernel
set_option maxRecDepth 100000 in
theorem dA_define_2 : decode bA_define 2 = .ok (.invokestatic 97, 3) := by decide +kernel
set_option maxRecDepth 100000 in
theorem dA_define_5 : decode bA_define 5 = .ok (.ifCond .eq 19, 3) := by decide +kernel
set_option maxRecDepth 100000 in
theorem dA_define_8 : decode bA_define 8 = .ok (.iload_n 2, 1) := by decide +kernel
set_option maxRecDepth 100000 in
theorem dA_define_9 : decode bA_define 9 = .ok (.iconst 4, 1) := by decide +kernel
set_option maxRecDepth 100000 in
theorem dA_define_10 : decode bA_define 10 = .ok (.invokestatic 97, 3) := by decide +kernel
set_option maxRecDepth 100000 in
theorem dA_define_13 : decode bA_define 13 = .ok (.ifCond .eq 11, 3) := by decide +kernel
set_option maxRecDepth 100000 in
theorem dA_define_16 : decode bA_define 16 = .ok (.iload_n 3, 1) := by decide +kernel
set_option maxRecDepth 100000 in
theorem dA_define_17 : decode bA_define 17 = .ok (.iconst 3, 1) := by decide +kernel
set_option maxRecDepth 100000 in
theorem dA_define_18 : decode bA_define 18 = .ok (.invokestatic 97, 3) := by decide +kernel
set_option maxRecDepth 100000 in
theorem dA_define_21 : decode bA_define 21 = .ok (.ifCond .ne 5, 3) := by decide +kernel
set_option maxRecDepth 100000 in
theorem dA_define_24 : decode bA_define 24 = .ok (.iconst (-1), 1) := by decide +kernel
set_option maxRecDepth 100000 in
theorem dA_define_25 : decode bA_define 25 = .ok (.ireturn, 1) := by decide +kernel
set_option maxRecDepth 100000 in
theorem dA_define_26 : decode bA_define 26 = .ok (.aload_n 0, 1) := by decide +kernel
set_option maxRecDepth 100000 in
theorem dA_define_27 : decode bA_define 27 = .ok (.getfield 22, 3) := by decide +kernel
set_option maxRecDepth 100000 in
theorem dA_define_30 : decode bA_define 30 = .ok (.ifCond .le 6, 3) := by decide +kernel
set_option maxRecDepth 100000 in
theorem dA_define_33 : decode bA_define 33 = .ok (.bipush (-2), 2) := by decide +kernel
set_option maxRecDepth 100000 in
theorem dA_define_35 : decode bA_define 35 = .ok (.ireturn, 1) := by decide +kernel
set_option maxRecDepth 100000 in
theorem dA_define_36 : decode bA_define 36 = .ok (.aload_n 0, 1) := by decide +kernel
set_option maxRecDepth 100000 in
theorem dA_define_37 : decode bA_define 37 = .ok (.iconst 0, 1) := by decide +kernel
set_option maxRecDepth 100000 in
theorem dA_define_38 : decode bA_define 38 = .ok (.invokevirtual 101, 3) := by decide +kernel
set_option maxRecDepth 100000 in
theorem dA_define_41 : decode bA_define 41 = .ok (.istore 5, 2) := by decide +kernel
set_option maxRecDepth 100000 in
theorem dA_define_43 : decode bA_define 43 = .ok (.iload 5, 2) := by decide +kernel
set_option maxRecDepth 100000 in
theorem dA_define_45 : decode bA_define 45 = .ok (.ifCond .eq 6, 3) := by decide +kernel
set_option maxRecDepth 100000 in
theorem dA_define_48 : decode bA_define 48 = .ok (.iload 5, 2) := by decide +kernel
set_option maxRecDepth 100000 in
theorem dA_define_50 : decode bA_define 50 = .ok (.ireturn, 1) := by decide +kernel
set_option maxRecDepth 100000 in
theorem dA_define_51 : decode bA_define 51 = .ok (.aload_n 0, 1) := by decide +kernel
set_option maxRecDepth 100000 in
theorem dA_define_52 : decode bA_define 52 = .ok (.getfield 11, 3) := by decide +kernel
set_option maxRecDepth 100000 in
theorem dA_define_55 : decode bA_define 55 = .ok (.iload_n 1, 1) := by decide +kernel
set_option maxRecDepth 100000 in
theorem dA_define_56 : decode bA_define 56 = .ok (.iconst 4, 1) := by decide +kernel
set_option maxRecDepth 100000 in
theorem dA_define_57 : decode bA_define 57 = .ok (.imul, 1) := by decide +kernel
set_option maxRecDepth 100000 in
theorem dA_define_58 : decode bA_define 58 = .ok (.iload_n 2, 1) := by decide +kernel
set_option maxRecDepth 100000 in
theorem dA_define_59 : decode bA_define 59 = .ok (.iadd, 1) := by decide +kernel
set_option maxRecDepth 100000 in
theorem dA_define_60 : decode bA_define 60 = .ok (.aaload, 1) := by decide +kernel
set_option maxRecDepth 100000 in
theorem dA_define_61 : decode bA_define 61 = .ok (.astore 6, 2) := by decide +kernel
set_option maxRecDepth 100000 in
theorem dA_define_63 : decode bA_define 63 = .ok (.aload 6, 2) := by decide +kernel
set_option maxRecDepth 100000 in
theorem dA_define_65 : decode bA_define 65 = .ok (.iload_n 3, 1) := by decide +kernel
set_option maxRecDepth 100000 in
theorem dA_define_66 : decode bA_define 66 = .ok (.putfield 105, 3) := by decide +kernel
set_option maxRecDepth 100000 in
theorem dA_define_69 : decode bA_define 69 = .ok (.aload 6, 2) := by decide +kernel
set_option maxRecDepth 100000 in
theorem dA_define_71 : decode bA_define 71 = .ok (.iload 4, 2) := by decide +kernel
set_option maxRecDepth 100000 in
theorem dA_define_73 : decode bA_define 73 = .ok (.putfield 108, 3) := by decide +kernel
set_option maxRecDepth 100000 in
theorem dA_define_76 : decode bA_define 76 = .ok (.aload_n 0, 1) := by decide +kernel
set_option maxRecDepth 100000 in
theorem dA_define_77 : decode bA_define 77 = .ok (.iconst 1, 1) := by decide +kernel
set_option maxRecDepth 100000 in
theorem dA_define_78 : decode bA_define 78 = .ok (.invokevirtual 112, 3) := by decide +kernel
set_option maxRecDepth 100000 in
theorem dA_define_81 : decode bA_define 81 = .ok (.ireturn, 1) := by decide +kernel
def fA_define (σ : xS) (a1 : Int32) (a2 : Int32) (a3 : Int32) (a4 : Int32) : Option (Int32 × xS) :=
  if (fA_isBelow a1 3) = 0 then
  (some ((-1), σ))
  else
  (if (fA_isBelow a2 4) = 0 then
  (some ((-1), σ))
  else
  (if (fA_isBelow a3 3) = 0 then
  (some ((-1), σ))
  else
  (if (σ.1 0 0 3) ≤ 0 then
  (xb (fA_misuseOfPlainStep σ 0) fun r9 s10 =>
  if r9 = 0 then
  (if ¬ (((a1 * 4) + a2) < 0 ∨ 12 ≤ ((a1 * 4) + a2).toNatClampNeg) then
  xl (x_si s10 14 (((a1 * 4) + a2).toNatClampNeg) 0 a3) fun s14 =>
  if a4 = 0 ∨ a4 = 1 then
  xl (x_si s14 14 (((a1 * 4) + a2).toNatClampNeg) 1 a4) fun s16 =>
  xl (fA_idleWith s16 1) fun s18 =>
  some (s18.1, s18.2)
  else none
  else none)
  else
  (some (r9, s10)))
  else
  (some ((-2), σ)))))
set_option maxHeartbeats 4000000 in
set_option maxRecDepth 100000 in
theorem cA_define (l : Launch) (E : xE) (σ : xS) (τ : yS) (a1 : Int32) (a2 : Int32) (a3 : Int32) (a4 : Int32) (res : Int32 × xS) (hf : fA_define σ a1 a2 a3 a4 = some res) : xM l E yA_define bA_define 7 (some .int) 5 0 0 [.ref (E.2.2.1 0 0), .int a1, .int a2, .int a3, .int a4] σ τ (some (.int res.1)) res.2 τ := by
  refine x_met (by decide) (Nat.le_of_ble_eq_true rfl) (fun p e R s m args below meth c A ls H locs C hw hl => ?_)
  have hl : lv_has ls 7 [(0, .ref (E.2.2.1 0 0)), (1, .int a1), (2, .int a2), (3, .int a3), (4, .int a4)] := hl
  have hx := C.1
  have hb := C.2.1
  unfold fA_define at hf
  refine lv_iload_n hx hb dA_define_0 rfl (lv_at hl 1 rfl) ?_
  refine lv_iconst (v := 3) hx hb dA_define_1 (by decide) ?_
  refine x_callS (As := [.int a1, .int 3]) (rest := []) (st1 := [.int (fA_isBelow a1 3)]) C hw (cA_isBelow l E σ τ a1 3) kA_97 (by decide) rfl rfl hl.1 (lv_room (Nat.le_of_ble_eq_true rfl)) dA_define_2 ⟨by decide, by decide⟩ rfl (fun H locs hw => ?_)
  refine lv_if_eq (tgt := 24) hx hb dA_define_5 (by decide) (fun c2 => ?_) (fun c2 => ?_)
  · replace hf := x_ip c2 hf
    refine lv_iconst (v := (-1)) hx hb dA_define_24 (by decide) ?_
    obtain rfl := Option.some.inj hf
    exact x_iret C hw dA_define_25
  · replace hf := x_in c2 hf
    refine lv_iload_n hx hb dA_define_8 rfl (lv_at hl 2 rfl) ?_
    refine lv_iconst (v := 4) hx hb dA_define_9 (by decide) ?_
    refine x_callS (As := [.int a2, .int 4]) (rest := []) (st1 := [.int (fA_isBelow a2 4)]) C hw (cA_isBelow l E σ τ a2 4) kA_97 (by decide) rfl rfl hl.1 (lv_room (Nat.le_of_ble_eq_true rfl)) dA_define_10 ⟨by decide, by decide⟩ rfl (fun H locs hw => ?_)
    refine lv_if_eq (tgt := 24) hx hb dA_define_13 (by decide) (fun c4 => ?_) (fun c4 => ?_)
    · replace hf := x_ip c4 hf
      refine lv_iconst (v := (-1)) hx hb dA_define_24 (by decide) ?_
      obtain rfl := Option.some.inj hf
      exact x_iret C hw dA_define_25
    · replace hf := x_in c4 hf
      refine lv_iload_n hx hb dA_define_16 rfl (lv_at hl 3 rfl) ?_
      refine lv_iconst (v := 3) hx hb dA_define_17 (by decide) ?_
      refine x_callS (As := [.int a3, .int 3]) (rest := []) (st1 := [.int (fA_isBelow a3 3)]) C hw (cA_isBelow l E σ τ a3 3) kA_97 (by decide) rfl rfl hl.1 (lv_room (Nat.le_of_ble_eq_true rfl)) dA_define_18 ⟨by decide, by decide⟩ rfl (fun H locs hw => ?_)
      refine lv_if_ne (tgt := 26) hx hb dA_define_21 (by decide) (fun c6 => ?_) (fun c6 => ?_)
      · replace hf := x_in c6 hf
        refine lv_aload_n hx hb dA_define_26 rfl (lv_at hl 0 rfl) ?_
        refine x_get C hw 0 0 3 (v := .int (σ.1 0 0 3)) at_0 rfl rfl ⟨by decide, by decide⟩ wA_22 rfl dA_define_27 ?_
        refine lv_if_le (tgt := 36) hx hb dA_define_30 (by decide) (fun c7 => ?_) (fun c7 => ?_)
        · replace hf := x_ip c7 hf
          refine lv_aload_n hx hb dA_define_36 rfl (lv_at hl 0 rfl) ?_
          refine lv_iconst (v := 0) hx hb dA_define_37 (by decide) ?_
          obtain ⟨r9, s10, h8, hf⟩ := x_b hf
          refine x_callV (As := [.int 0]) (rest := []) (st1 := [.int r9]) C hw (cA_misuseOfPlainStep l E σ τ 0 (r9, s10) h8) kA_101 (x_recv C hw 0 0 at_0 rfl rfl) (by decide) rfl rfl hl.1 (lv_room (Nat.le_of_ble_eq_true rfl)) dA_define_38 ⟨by decide, by decide⟩ rfl (fun H locs hw => ?_)
          refine lv_istore (lv' := [(5, .int r9), (0, .ref (E.2.2.1 0 0)), (1, .int a1), (2, .int a2), (3, .int a3), (4, .int a4)]) hx hb dA_define_41 hl (by decide) rfl (fun ls hl => ?_)
          refine lv_iload hx hb dA_define_43 (lv_at hl 0 rfl) ?_
          refine lv_if_eq (tgt := 51) hx hb dA_define_45 (by decide) (fun c11 => ?_) (fun c11 => ?_)
          · replace hf := x_ip c11 hf
            refine lv_aload_n hx hb dA_define_51 rfl (lv_at hl 1 rfl) ?_
            refine x_get C hw 0 0 0 (v := .ref (E.2.2.1 1 0)) at_0 rfl rfl ⟨by decide, by decide⟩ wA_11 rfl dA_define_52 ?_
            refine lv_iload_n hx hb dA_define_55 rfl (lv_at hl 2 rfl) ?_
            refine lv_iconst (v := 4) hx hb dA_define_56 (by decide) ?_
            refine lv_imul hx hb dA_define_57 ?_
            refine lv_iload_n hx hb dA_define_58 rfl (lv_at hl 3 rfl) ?_
            refine lv_iadd hx hb dA_define_59 ?_
            obtain ⟨g12, hf⟩ := x_g hf
            refine x_ald1 C hw g12 dA_define_60 ?_
            have g13 := x_lt g12
            refine lv_astore (lv' := [(6, .ref (E.2.2.1 14 (((a1 * 4) + a2).toNatClampNeg))), (5, .int r9), (0, .ref (E.2.2.1 0 0)), (1, .int a1), (2, .int a2), (3, .int a3), (4, .int a4)]) hx hb dA_define_61 hl (by decide) rfl (fun ls hl => ?_)
            refine lv_aload hx hb dA_define_63 (lv_at hl 0 rfl) ?_
            refine lv_iload_n hx hb dA_define_65 rfl (lv_at hl 5 rfl) ?_
            refine x_putiN C hw 14 (((a1 * 4) + a2).toNatClampNeg) 0 (at_14 g13) rfl rfl rfl ⟨rfl, rfl⟩ ⟨by decide, by decide⟩ (Nat.le_of_ble_eq_true rfl) wA_105 dA_define_66 (fun H locs hw => ?_)
            obtain ⟨s14, es14, hf⟩ := x_l hf
            rw [← es14] at hw
            refine lv_aload hx hb dA_define_69 (lv_at hl 0 rfl) ?_
            refine lv_iload hx hb dA_define_71 (lv_at hl 6 rfl) ?_
            obtain ⟨g15, hf⟩ := x_g hf
            refine x_putzN C hw 14 (((a1 * 4) + a2).toNatClampNeg) 1 (at_14 g13) g15 rfl rfl rfl ⟨rfl, rfl⟩ ⟨by decide, by decide⟩ (Nat.le_of_ble_eq_true rfl) wA_108 dA_define_73 (fun H locs hw => ?_)
            obtain ⟨s16, es16, hf⟩ := x_l hf
            rw [← es16] at hw
            refine lv_aload_n hx hb dA_define_76 rfl (lv_at hl 2 rfl) ?_
            refine lv_iconst (v := 1) hx hb dA_define_77 (by decide) ?_
            obtain ⟨s18, h17, hf⟩ := x_l hf
            refine x_callV (As := [.int 1]) (rest := []) (st1 := [.int s18.1]) C hw (cA_idleWith l E s16 τ 1 s18 h17.symm) kA_112 (x_recv C hw 0 0 at_0 rfl rfl) (by decide) rfl rfl hl.1 (lv_room (Nat.le_of_ble_eq_true rfl)) dA_define_78 ⟨by decide, by decide⟩ rfl (fun H locs hw => ?_)
            obtain rfl := Option.some.inj hf
            exact x_iret C hw dA_define_81
          · replace hf := x_in c11 hf
            refine lv_iload hx hb dA_define_48 (lv_at hl 0 rfl) ?_
            obtain rfl := Option.some.inj hf
            exact x_iret C hw dA_define_50
        · replace hf := x_in c7 hf
          refine lv_bipush (v := (-2)) hx hb dA_define_33 (by decide) ?_
          obtain rfl := Option.some.inj hf
          exact x_iret C hw dA_define_35
      · replace hf := x_ip c6 hf
        refine lv_iconst (v := (-1)) hx hb dA_define_24 (by decide) ?_
        obtain rfl := Option.some.inj hf
        exact x_iret C hw dA_define_25
-- StandIns make (II)I
set_option maxRecDepth 100000 in
theorem dA_make_0 : decode bA_make 0 = .ok (.iload_n 1, 1) := by decide +kernel
set_option maxRecDepth 100000 in
theorem dA_make_1 : decode bA_make 1 = .ok (.iconst 3, 1) := by decide +kernel
set_option maxRecDepth 100000 in
theorem dA_make_2 : decode bA_make 2 = .ok (.invokestatic 97, 3) := by decide +kernel
set_option maxRecDepth 100000 in
theorem dA_make_5 : decode bA_make 5 = .ok (.ifCond .eq 12, 3) := by decide +kernel
set_option maxRecDepth 100000 in
theorem dA_make_8 : decode bA_make 8 = .ok (.iload_n 2, 1) := by decide +kernel
set_option maxRecDepth 100000 in
theorem dA_make_9 : decode bA_make 9 = .ok (.ifCond .lt 8, 3) := by decide +kernel
set_option maxRecDepth 100000 in
theorem dA_make_12 : decode bA_make 12 = .ok (.iload_n 2, 1) := by decide +kernel
set_option maxRecDepth 100000 in
theorem dA_make_13 : decode bA_make 13 = .ok (.iconst 2, 1) := by decide +kernel
set_option maxRecDepth 100000 in
theorem dA_make_14 : decode bA_make 14 = .ok (.if_icmp .le 5, 3) := by decide +kernel
set_option maxRecDepth 100000 in
theorem dA_make_17 : decode bA_make 17 = .ok (.iconst (-1), 1) := by decide +kernel
set_option maxRecDepth 100000 in
theorem dA_make_18 : decode bA_make 18 = .ok (.ireturn, 1) := by decide +kernel
set_option maxRecDepth 100000 in
theorem dA_make_19 : decode bA_make 19 = .ok (.aload_n 0, 1) := by decide +kernel
set_option maxRecDepth 100000 in
theorem dA_make_20 : decode bA_make 20 = .ok (.getfield 22, 3) := by decide +kernel
set_option maxRecDepth 100000 in
theorem dA_make_23 : decode bA_make 23 = .ok (.bipush 6, 2) := by decide +kernel
set_option maxRecDepth 100000 in
theorem dA_make_25 : decode bA_make 25 = .ok (.if_icmp .lt 6, 3) := by decide +kernel
set_option maxRecDepth 100000 in
theorem dA_make_28 : decode bA_make 28 = .ok (.bipush (-2), 2) := by decide +kernel
set_option maxRecDepth 100000 in
theorem dA_make_30 : decode bA_make 30 = .ok (.ireturn, 1) := by decide +kernel
set_option maxRecDepth 100000 in
theorem dA_make_31 : decode bA_make 31 = .ok (.aload_n 0, 1) := by decide +kernel
set_option maxRecDepth 100000 in
theorem dA_make_32 : decode bA_make 32 = .ok (.iconst 0, 1) := by decide +kernel
set_option maxRecDepth 100000 in
theorem dA_make_33 : decode bA_make 33 = .ok (.invokevirtual 101, 3) := by decide +kernel
set_option maxRecDepth 100000 in
theorem dA_make_36 : decode bA_make 36 = .ok (.istore_n 3, 1) := by decide +kernel
set_option maxRecDepth 100000 in
theorem dA_make_37 : decode bA_make 37 = .ok (.iload_n 3, 1) := by decide +kernel
set_option maxRecDepth 100000 in
theorem dA_make_38 : decode bA_make 38 = .ok (.ifCond .eq 5, 3) := by decide +kernel
set_option maxRecDepth 100000 in
theorem dA_make_41 : decode bA_make 41 = .ok (.iload_n 3, 1) := by decide +kernel
set_option maxRecDepth 100000 in
theorem dA_make_42 : decode bA_make 42 = .ok (.ireturn, 1) := by decide +kernel
set_option maxRecDepth 100000 in
theorem dA_make_43 : decode bA_make 43 = .ok (.aload_n 0, 1) := by decide +kernel
set_option maxRecDepth 100000 in
theorem dA_make_44 : decode bA_make 44 = .ok (.getfield 15, 3) := by decide +kernel
set_option maxRecDepth 100000 in
theorem dA_make_47 : decode bA_make 47 = .ok (.aload_n 0, 1) := by decide +kernel
set_option maxRecDepth 100000 in
theorem dA_make_48 : decode bA_make 48 = .ok (.getfield 22, 3) := by decide +kernel
set_option maxRecDepth 100000 in
theorem dA_make_51 : decode bA_make 51 = .ok (.iload_n 1, 1) := by decide +kernel
set_option maxRecDepth 100000 in
theorem dA_make_52 : decode bA_make 52 = .ok (.iastore, 1) := by decide +kernel
set_option maxRecDepth 100000 in
theorem dA_make_53 : decode bA_make 53 = .ok (.aload_n 0, 1) := by decide +kernel
set_option maxRecDepth 100000 in
theorem dA_make_54 : decode bA_make 54 = .ok (.getfield 19, 3) := by decide +kernel
set_option maxRecDepth 100000 in
theorem dA_make_57 : decode bA_make 57 = .ok (.aload_n 0, 1) := by decide +kernel
set_option maxRecDepth 100000 in
theorem dA_make_58 : decode bA_make 58 = .ok (.getfield 22, 3) := by decide +kernel
set_option maxRecDepth 100000 in
theorem dA_make_61 : decode bA_make 61 = .ok (.iload_n 2, 1) := by decide +kernel
set_option maxRecDepth 100000 in
theorem dA_make_62 : decode bA_make 62 = .ok (.iastore, 1) := by decide +kernel
set_option maxRecDepth 100000 in
theorem dA_make_63 : decode bA_make 63 = .ok (.aload_n 0, 1) := by decide +kernel
set_option maxRecDepth 100000 in
theorem dA_make_64 : decode bA_make 64 = .ok (.dup, 1) := by decide +kernel
set_option maxRecDepth 100000 in
theorem dA_make_65 : decode bA_make 65 = .ok (.getfield 22, 3) := by decide +kernel
set_option maxRecDepth 100000 in
theorem dA_make_68 : decode bA_make 68 = .ok (.iconst 1, 1) := by decide +kernel
set_option maxRecDepth 100000 in
theorem dA_make_69 : decode bA_make 69 = .ok (.iadd, 1) := by decide +kernel
set_option maxRecDepth 100000 in
theorem dA_make_70 : decode bA_make 70 = .ok (.putfield 22, 3) := by decide +kernel
set_option maxRecDepth 100000 in
theorem dA_make_73 : decode bA_make 73 = .ok (.aload_n 0, 1) := by decide +kernel
set_option maxRecDepth 100000 in
theorem dA_make_74 : decode bA_make 74 = .ok (.aload_n 0, 1) := by decide +kernel
set_option maxRecDepth 100000 in
theorem dA_make_75 : decode bA_make 75 = .ok (.getfield 22, 3) := by decide +kernel
set_option maxRecDepth 100000 in
theorem dA_make_78 : decode bA_make 78 = .ok (.iconst 1, 1) := by decide +kernel
set_option maxRecDepth 100000 in
theorem dA_make_79 : decode bA_make 79 = .ok (.isub, 1) := by decide +kernel
set_option maxRecDepth 100000 in
theorem dA_make_80 : decode bA_make 80 = .ok (.invokevirtual 112, 3) := by decide +kernel
set_option maxRecDepth 100000 in
theorem dA_make_83 : decode bA_make 83 = .ok (.ireturn, 1) := by decide +kernel
def fA_make (σ : xS) (a1 : Int32) (a2 : Int32) : Option (Int32 × xS) :=
  if (fA_isBelow a1 3) = 0 then
  (some ((-1), σ))
  else
  (if a2 < 0 then
  (some ((-1), σ))
  else
  (if a2 ≤ 2 then
  (if (σ.1 0 0 3) < 6 then
  (xb (fA_misuseOfPlainStep σ 0) fun r7 s8 =>
  if r7 = 0 then
  (if ¬ ((s8.1 0 0 3) < 0 ∨ 6 ≤ (s8.1 0 0 3).toNatClampNeg) then
  xl (x_si s8 2 0 ((s8.1 0 0 3).toNatClampNeg) a1) fun s11 =>
  if ¬ ((s11.1 0 0 3) < 0 ∨ 6 ≤ (s11.1 0 0 3).toNatClampNeg) then
  xl (x_si s11 3 0 ((s11.1 0 0 3).toNatClampNeg) a2) fun s13 =>
  xl (x_si s13 0 0 3 ((s13.1 0 0 3) + 1)) fun s14 =>
  xl (fA_idleWith s14 ((s14.1 0 0 3) - 1)) fun s16 =>
  some (s16.1, s16.2)
  else none
  else none)
  else
  (some (r7, s8)))
  else
  (some ((-2), σ)))
  else
  (some ((-1), σ))))
set_option maxHeartbeats 4000000 in
set_option maxRecDepth 100000 in
theorem cA_make (l : Launch) (E : xE) (σ : xS) (τ : yS) (a1 : Int32) (a2 : Int32) (res : Int32 × xS) (hf : fA_make σ a1 a2 = some res) : xM l E yA_make bA_make 4 (some .int) 5 0 0 [.ref (E.2.2.1 0 0), .int a1, .int a2] σ τ (some (.int res.1)) res.2 τ := by
  refine x_met (by decide) (Nat.le_of_ble_eq_true rfl) (fun p e R s m args below meth c A ls H locs C hw hl => ?_)
  have hl : lv_has ls 4 [(0, .ref (E.2.2.1 0 0)), (1, .int a1), (2, .int a2)] := hl
  have hx := C.1
  have hb := C.2.1
  unfold fA_make at hf
  refine lv_iload_n hx hb dA_make_0 rfl (lv_at hl 1 rfl) ?_
  refine lv_iconst (v := 3) hx hb dA_make_1 (by decide) ?_
  refine x_callS (As := [.int a1, .int 3]) (rest := []) (st1 := [.int (fA_isBelow a1 3)]) C hw (cA_isBelow l E σ τ a1 3) kA_97 (by decide) rfl rfl hl.1 (lv_room (Nat.le_of_ble_eq_true rfl)) dA_make_2 ⟨by decide, by decide⟩ rfl (fun H locs hw => ?_)
  refine lv_if_eq (tgt := 17) hx hb dA_make_5 (by decide) (fun c2 => ?_) (fun c2 => ?_)
  · replace hf := x_ip c2 hf
    refine lv_iconst (v := (-1)) hx hb dA_make_17 (by decide) ?_
    obtain rfl := Option.some.inj hf
    exact x_iret C hw dA_make_18
  · replace hf := x_in c2 hf
    refine lv_iload_n hx hb dA_make_8 rfl (lv_at hl 2 rfl) ?_
    refine lv_if_lt (tgt := 17) hx hb dA_make_9 (by decide) (fun c3 => ?_) (fun c3 => ?_)
    · replace hf := x_ip c3 hf
      refine lv_iconst (v := (-1)) hx hb dA_make_17 (by decide) ?_
      obtain rfl := Option.some.inj hf
      exact x_iret C hw dA_make_18
    · replace hf := x_in c3 hf
      refine lv_iload_n hx hb dA_make_12 rfl (lv_at hl 2 rfl) ?_
      refine lv_iconst (v := 2) hx hb dA_make_13 (by decide) ?_
      refine lv_icmp_le (tgt := 19) hx hb dA_make_14 (by decide) (fun c4 => ?_) (fun c4 => ?_)
      · replace hf := x_ip c4 hf
        refine lv_aload_n hx hb dA_make_19 rfl (lv_at hl 0 rfl) ?_
        refine x_get C hw 0 0 3 (v := .int (σ.1 0 0 3)) at_0 rfl rfl ⟨by decide, by decide⟩ wA_22 rfl dA_make_20 ?_
        refine lv_bipush (v := 6) hx hb dA_make_23 (by decide) ?_
        refine lv_icmp_lt (tgt := 31) hx hb dA_make_25 (by decide) (fun c5 => ?_) (fun c5 => ?_)
        · replace hf := x_ip c5 hf
          refine lv_aload_n hx hb dA_make_31 rfl (lv_at hl 0 rfl) ?_
          refine lv_iconst (v := 0) hx hb dA_make_32 (by decide) ?_
          obtain ⟨r7, s8, h6, hf⟩ := x_b hf
          refine x_callV (As := [.int 0]) (rest := []) (st1 := [.int r7]) C hw (cA_misuseOfPlainStep l E σ τ 0 (r7, s8) h6) kA_101 (x_recv C hw 0 0 at_0 rfl rfl) (by decide) rfl rfl hl.1 (lv_room (Nat.le_of_ble_eq_true rfl)) dA_make_33 ⟨by decide, by decide⟩ rfl (fun H locs hw => ?_)
          refine lv_istore_n (lv' := [(3, .int r7), (0, .ref (E.2.2.1 0 0)), (1, .int a1), (2, .int a2)]) hx hb dA_make_36 rfl hl (by decide) rfl (fun ls hl => ?_)
          refine lv_iload_n hx hb dA_make_37 rfl (lv_at hl 0 rfl) ?_
          refine lv_if_eq (tgt := 43) hx hb dA_make_38 (by decide) (fun c9 => ?_) (fun c9 => ?_)
          · replace hf := x_ip c9 hf
            refine lv_aload_n hx hb dA_make_43 rfl (lv_at hl 1 rfl) ?_
            refine x_get C hw 0 0 1 (v := .ref (E.2.2.1 2 0)) at_0 rfl rfl ⟨by decide, by decide⟩ wA_15 rfl dA_make_44 ?_
            refine lv_aload_n hx hb dA_make_47 rfl (lv_at hl 1 rfl) ?_
            refine x_get C hw 0 0 3 (v := .int (s8.1 0 0 3)) at_0 rfl rfl ⟨by decide, by decide⟩ wA_22 rfl dA_make_48 ?_
            refine lv_iload_n hx hb dA_make_51 rfl (lv_at hl 2 rfl) ?_
            obtain ⟨g10, hf⟩ := x_g hf
            refine x_ist C hw 2 0 at_2 rfl rfl g10 dA_make_52 (fun H locs hw => ?_)
            obtain ⟨s11, es11, hf⟩ := x_l hf
            rw [← es11] at hw
            refine lv_aload_n hx hb dA_make_53 rfl (lv_at hl 1 rfl) ?_
            refine x_get C hw 0 0 2 (v := .ref (E.2.2.1 3 0)) at_0 rfl rfl ⟨by decide, by decide⟩ wA_19 rfl dA_make_54 ?_
            refine lv_aload_n hx hb dA_make_57 rfl (lv_at hl 1 rfl) ?_
            refine x_get C hw 0 0 3 (v := .int (s11.1 0 0 3)) at_0 rfl rfl ⟨by decide, by decide⟩ wA_22 rfl dA_make_58 ?_
            refine lv_iload_n hx hb dA_make_61 rfl (lv_at hl 3 rfl) ?_
            obtain ⟨g12, hf⟩ := x_g hf
            refine x_ist C hw 3 0 at_3 rfl rfl g12 dA_make_62 (fun H locs hw => ?_)
            obtain ⟨s13, es13, hf⟩ := x_l hf
            rw [← es13] at hw
            refine lv_aload_n hx hb dA_make_63 rfl (lv_at hl 1 rfl) ?_
            refine lv_dup hx hb dA_make_64 rfl ?_
            refine x_get C hw 0 0 3 (v := .int (s13.1 0 0 3)) at_0 rfl rfl ⟨by decide, by decide⟩ wA_22 rfl dA_make_65 ?_
            refine lv_iconst (v := 1) hx hb dA_make_68 (by decide) ?_
            refine lv_iadd hx hb dA_make_69 ?_
            refine x_puti C hw 0 0 3 at_0 rfl rfl rfl ⟨rfl, rfl⟩ ⟨by decide, by decide⟩ (Nat.le_of_ble_eq_true rfl) wA_22 dA_make_70 (fun H locs hw => ?_)
            obtain ⟨s14, es14, hf⟩ := x_l hf
            rw [← es14] at hw
            refine lv_aload_n hx hb dA_make_73 rfl (lv_at hl 1 rfl) ?_
            refine lv_aload_n hx hb dA_make_74 rfl (lv_at hl 1 rfl) ?_
            refine x_get C hw 0 0 3 (v := .int (s14.1 0 0 3)) at_0 rfl rfl ⟨by decide, by decide⟩ wA_22 rfl dA_make_75 ?_
            refine lv_iconst (v := 1) hx hb dA_make_78 (by decide) ?_
            refine lv_isub hx hb dA_make_79 ?_
            obtain ⟨s16, h15, hf⟩ := x_l hf
            refine x_callV (As := [.int ((s14.1 0 0 3) - 1)]) (rest := []) (st1 := [.int s16.1]) C hw (cA_idleWith l E s14 τ ((s14.1 0 0 3) - 1) s16 h15.symm) kA_112 (x_recv C hw 0 0 at_0 rfl rfl) (by decide) rfl rfl hl.1 (lv_room (Nat.le_of_ble_eq_true rfl)) dA_make_80 ⟨by decide, by decide⟩ rfl (fun H locs hw => ?_)
            obtain rfl := Option.some.inj hf
            exact x_iret C hw dA_make_83
          · replace hf := x_in c9 hf
            refine lv_iload_n hx hb dA_make_41 rfl (lv_at hl 0 rfl) ?_
            obtain rfl := Option.some.inj hf
            exact x_iret C hw dA_make_42
        · replace hf := x_in c5 hf
          refine lv_bipush (v := (-2)) hx hb dA_make_28 (by decide) ?_
          obtain rfl := Option.some.inj hf
          exact x_iret C hw dA_make_30
      · replace hf := x_in c4 hf
        refine lv_iconst (v := (-1)) hx hb dA_make_17 (by decide) ?_
        obtain rfl := Option.some.inj hf
        exact x_iret C hw dA_make_18
-- StandIns$Matcher takenBy (I)I
set_option maxRecDepth 100000 in
theorem dH_takenBy_0 : decode bH_takenBy 0 = .ok (.iload_n 0, 1) := by decide +kernel
set_option maxRecDepth 100000 in
theorem dH_takenBy_1 : decode bH_takenBy 1 = .ok (.tableswitch 31 4 6 #[27, 27, 29], 27) := by decide +kernel
set_option maxRecDepth 100000 in
theorem dH_takenBy_28 : decode bH_takenBy 28 = .ok (.iconst 2, 1) := by decide +kernel
set_option maxRecDepth 100000 in
theorem dH_takenBy_29 : decode bH_takenBy 29 = .ok (.ireturn, 1) := by decide +kernel
set_option maxRecDepth 100000 in
theorem dH_takenBy_30 : decode bH_takenBy 30 = .ok (.iconst 1, 1) := by decide +kernel
set_option maxRecDepth 100000 in
theorem dH_takenBy_31 : decode bH_takenBy 31 = .ok (.ireturn, 1) := by decide +kernel
set_option maxRecDepth 100000 in
theorem dH_takenBy_32 : decode bH_takenBy 32 = .ok (.iconst 0, 1) := by decide +kernel
set_option maxRecDepth 100000 in
theorem dH_takenBy_33 : decode bH_takenBy 33 = .ok (.ireturn, 1) := by decide +kernel
def fH_takenBy (a0 : Int32) : Int32 :=
  if a0 = 4 then
  (2)
  else
  (if a0 = 5 then
  (2)
  else
  (if a0 = 6 then
  (1)
  else
  (0)))
set_option maxHeartbeats 4000000 in
set_option maxRecDepth 100000 in
theorem cH_takenBy (l : Launch) (E : xE) (σ : xS) (τ : yS) (a0 : Int32) : xM l E yH_takenBy bH_takenBy 1 (some .int) 0 0 0 [.int a0] σ τ (some (.int (fH_takenBy a0))) σ τ := by
  refine x_met (by decide) (Nat.le_of_ble_eq_true rfl) (fun p e R s m args below meth c A ls H locs C hw hl => ?_)
  have hl : lv_has ls 1 [(0, .int a0)] := hl
  have hx := C.1
  have hb := C.2.1
  obtain ⟨res, hf⟩ : ∃ z, fH_takenBy a0 = z := ⟨_, rfl⟩
  rw [hf]
  unfold fH_takenBy at hf
  refine lv_iload_n hx hb dH_takenBy_0 rfl (lv_at hl 0 rfl) ?_
  by_cases c1 : a0 = 4
  · replace hf := x_ip c1 hf
    refine lv_tableIn (tgt := 28) hx hb dH_takenBy_1 (by rw [c1]; decide) (by rw [c1]; decide) (by rw [c1]; rfl) (by decide) ?_
    refine lv_iconst (v := 2) hx hb dH_takenBy_28 (by decide) ?_
    obtain rfl := hf
    exact x_iret C hw dH_takenBy_29
  · replace hf := x_in c1 hf
    by_cases c2 : a0 = 5
    · replace hf := x_ip c2 hf
      refine lv_tableIn (tgt := 28) hx hb dH_takenBy_1 (by rw [c2]; decide) (by rw [c2]; decide) (by rw [c2]; rfl) (by decide) ?_
      refine lv_iconst (v := 2) hx hb dH_takenBy_28 (by decide) ?_
      obtain rfl := hf
      exact x_iret C hw dH_takenBy_29
    · replace hf := x_in c2 hf
      by_cases c3 : a0 = 6
      · replace hf := x_ip c3 hf
        refine lv_tableIn (tgt := 30) hx hb dH_takenBy_1 (by rw [c3]; decide) (by rw [c3]; decide) (by rw [c3]; rfl) (by decide) ?_
        refine lv_iconst (v := 1) hx hb dH_takenBy_30 (by decide) ?_
        obtain rfl := hf
        exact x_iret C hw dH_takenBy_31
      · replace hf := x_in c3 hf
        refine lv_tableOut (tgt := 32) hx hb dH_takenBy_1 (by have nc1 := lv_neT c1 (a := 4) (by decide); have nc2 := lv_neT c2 (a := 5) (by decide); have nc3 := lv_neT c3 (a := 6) (by decide); omega) (by decide) ?_
        refine lv_iconst (v := 0) hx hb dH_takenBy_32 (by decide) ?_
        obtain rfl := hf
        exact x_iret C hw dH_takenBy_33
-- StandIns$Matcher sizeOf (LStandIns$Matcher;)I
set_option maxRecDepth 100000 in
theorem dH_sizeOf_0 : decode bH_sizeOf 0 = .ok (.aload_n 0, 1) := by decide +kernel
set_option maxRecDepth 100000 in
theorem dH_sizeOf_1 : decode bH_sizeOf 1 = .ok (.ifnonnull 7, 3) := by decide +kernel
set_option maxRecDepth 100000 in
theorem dH_sizeOf_4 : decode bH_sizeOf 4 = .ok (.iconst 0, 1) := by decide +kernel
set_option maxRecDepth 100000 in
theorem dH_sizeOf_5 : decode bH_sizeOf 5 = .ok (.goto 7, 3) := by decide +kernel
set_option maxRecDepth 100000 in
theorem dH_sizeOf_8 : decode bH_sizeOf 8 = .ok (.aload_n 0, 1) := by decide +kernel
set_option maxRecDepth 100000 in
theorem dH_sizeOf_9 : decode bH_sizeOf 9 = .ok (.getfield 29, 3) := by decide +kernel
set_option maxRecDepth 100000 in
theorem dH_sizeOf_12 : decode bH_sizeOf 12 = .ok (.ireturn, 1) := by decide +kernel
def fH_sizeOf (σ : xS) (o0 : Option Nat) : Option (Int32) :=
  if o0 = none then
  (some 0)
  else
  (xp (xd σ.2.2.1 o0) fun q2 =>
  some (σ.1 21 q2 4))
set_option maxHeartbeats 4000000 in
set_option maxRecDepth 100000 in
theorem cH_sizeOf (l : Launch) (E : xE) (σ : xS) (τ : yS) (o0 : Option Nat) (res : Int32) (hf : fH_sizeOf σ o0 = some res) : xM l E yH_sizeOf bH_sizeOf 1 (some .int) 0 0 0 [va_rf o0] σ τ (some (.int res)) σ τ := by
  refine x_met (by decide) (by simp [lg_sl, x_cat, x_cati, x_catr, x_catl]) (fun p e R s m args below meth c A ls H locs C hw hl => ?_)
  have hl : lv_has ls 1 [(0, va_rf o0)] := by simpa [lv_args, x_cat, x_cati, x_catr, x_catl] using hl
  have hx := C.1
  have hb := C.2.1
  unfold fH_sizeOf at hf
  refine x_aload_n hx hb dH_sizeOf_0 rfl (lv_at hl 0 rfl) ?_
  refine x_ifnonnull (tgt := 8) hx hb dH_sizeOf_1 (by decide) (fun c1 => ?_) (fun c1 => ?_)
  · replace hf := x_ip c1 hf
    refine lv_iconst (v := 0) hx hb dH_sizeOf_4 (by decide) ?_
    refine lv_goto (tgt := 12) hx hb dH_sizeOf_5 (by decide) ?_
    obtain rfl := Option.some.inj hf
    exact x_iret C hw dH_sizeOf_12
  · replace hf := x_in c1 hf
    refine x_aload_n hx hb dH_sizeOf_8 rfl (lv_at hl 0 rfl) ?_
    obtain ⟨q2, eq2, hf⟩ := x_p hf
    refine x_getM C hw eq2 4 (v := .int (σ.1 21 q2 4)) (by decide) wH_29 rfl dH_sizeOf_9 ?_
    obtain rfl := Option.some.inj hf
    exact x_iret C hw dH_sizeOf_12
-- StandIns$Stack hasRoomFor (I)Z
set_option maxRecDepth 100000 in
theorem dK_hasRoomFor_0 : decode bK_hasRoomFor 0 = .ok (.iconst 1, 1) := by decide +kernel
set_option maxRecDepth 100000 in
theorem dK_hasRoomFor_1 : decode bK_hasRoomFor 1 = .ok (.istore_n 2, 1) := by decide +kernel
set_option maxRecDepth 100000 in
theorem dK_hasRoomFor_2 : decode bK_hasRoomFor 2 = .ok (.aload_n 0, 1) := by decide +kernel
set_option maxRecDepth 100000 in
theorem dK_hasRoomFor_3 : decode bK_hasRoomFor 3 = .ok (.getfield 17, 3) := by decide +kernel
set_option maxRecDepth 100000 in
theorem dK_hasRoomFor_6 : decode bK_hasRoomFor 6 = .ok (.iload_n 1, 1) := by decide +kernel
set_option maxRecDepth 100000 in
theorem dK_hasRoomFor_7 : decode bK_hasRoomFor 7 = .ok (.isub, 1) := by decide +kernel
set_option maxRecDepth 100000 in
theorem dK_hasRoomFor_8 : decode bK_hasRoomFor 8 = .ok (.iconst 0, 1) := by decide +kernel
set_option maxRecDepth 100000 in
theorem dK_hasRoomFor_9 : decode bK_hasRoomFor 9 = .ok (.invokestatic 21, 3) := by decide +kernel
set_option maxRecDepth 100000 in
theorem dK_hasRoomFor_12 : decode bK_hasRoomFor 12 = .ok (.istore_n 3, 1) := by decide +kernel
set_option maxRecDepth 100000 in
theorem dK_hasRoomFor_13 : decode bK_hasRoomFor 13 = .ok (.iload_n 3, 1) := by decide +kernel
set_option maxRecDepth 100000 in
theorem dK_hasRoomFor_14 : decode bK_hasRoomFor 14 = .ok (.aload_n 0, 1) := by decide +kernel
set_option maxRecDepth 100000 in
theorem dK_hasRoomFor_15 : decode bK_hasRoomFor 15 = .ok (.getfield 17, 3) := by decide +kernel
set_option maxRecDepth 100000 in
theorem dK_hasRoomFor_18 : decode bK_hasRoomFor 18 = .ok (.if_icmp .ge 21, 3) := by decide +kernel
set_option maxRecDepth 100000 in
theorem dK_hasRoomFor_21 : decode bK_hasRoomFor 21 = .ok (.iload_n 2, 1) := by decide +kernel
set_option maxRecDepth 100000 in
theorem dK_hasRoomFor_22 : decode bK_hasRoomFor 22 = .ok (.aload_n 0, 1) := by decide +kernel
set_option maxRecDepth 100000 in
theorem dK_hasRoomFor_23 : decode bK_hasRoomFor 23 = .ok (.getfield 11, 3) := by decide +kernel
set_option maxRecDepth 100000 in
theorem dK_hasRoomFor_26 : decode bK_hasRoomFor 26 = .ok (.iload_n 3, 1) := by decide +kernel
set_option maxRecDepth 100000 in
theorem dK_hasRoomFor_27 : decode bK_hasRoomFor 27 = .ok (.aaload, 1) := by decide +kernel
set_option maxRecDepth 100000 in
theorem dK_hasRoomFor_28 : decode bK_hasRoomFor 28 = .ok (.invokestatic 27, 3) := by decide +kernel
set_option maxRecDepth 100000 in
theorem dK_hasRoomFor_31 : decode bK_hasRoomFor 31 = .ok (.iadd, 1) := by decide +kernel
set_option maxRecDepth 100000 in
theorem dK_hasRoomFor_32 : decode bK_hasRoomFor 32 = .ok (.istore_n 2, 1) := by decide +kernel
set_option maxRecDepth 100000 in
theorem dK_hasRoomFor_33 : decode bK_hasRoomFor 33 = .ok (.iinc 3 1, 3) := by decide +kernel
set_option maxRecDepth 100000 in
theorem dK_hasRoomFor_36 : decode bK_hasRoomFor 36 = .ok (.goto (-23), 3) := by decide +kernel
set_option maxRecDepth 100000 in
theorem dK_hasRoomFor_39 : decode bK_hasRoomFor 39 = .ok (.aload_n 0, 1) := by decide +kernel
set_option maxRecDepth 100000 in
theorem dK_hasRoomFor_40 : decode bK_hasRoomFor 40 = .ok (.getfield 17, 3) := by decide +kernel
set_option maxRecDepth 100000 in
theorem dK_hasRoomFor_43 : decode bK_hasRoomFor 43 = .ok (.iload_n 1, 1) := by decide +kernel
set_option maxRecDepth 100000 in
theorem dK_hasRoomFor_44 : decode bK_hasRoomFor 44 = .ok (.isub, 1) := by decide +kernel
set_option maxRecDepth 100000 in
theorem dK_hasRoomFor_45 : decode bK_hasRoomFor 45 = .ok (.bipush 6, 2) := by decide +kernel
set_option maxRecDepth 100000 in
theorem dK_hasRoomFor_47 : decode bK_hasRoomFor 47 = .ok (.if_icmp .ge 13, 3) := by decide +kernel
set_option maxRecDepth 100000 in
theorem dK_hasRoomFor_50 : decode bK_hasRoomFor 50 = .ok (.iload_n 2, 1) := by decide +kernel
set_option maxRecDepth 100000 in
theorem dK_hasRoomFor_51 : decode bK_hasRoomFor 51 = .ok (.bipush 8, 2) := by decide +kernel
set_option maxRecDepth 100000 in
theorem dK_hasRoomFor_53 : decode bK_hasRoomFor 53 = .ok (.if_icmp .gt 7, 3) := by decide +kernel
set_option maxRecDepth 100000 in
theorem dK_hasRoomFor_56 : decode bK_hasRoomFor 56 = .ok (.iconst 1, 1) := by decide +kernel
set_option maxRecDepth 100000 in
theorem dK_hasRoomFor_57 : decode bK_hasRoomFor 57 = .ok (.goto 4, 3) := by decide +kernel
set_option maxRecDepth 100000 in
theorem dK_hasRoomFor_60 : decode bK_hasRoomFor 60 = .ok (.iconst 0, 1) := by decide +kernel
set_option maxRecDepth 100000 in
theorem dK_hasRoomFor_61 : decode bK_hasRoomFor 61 = .ok (.ireturn, 1) := by decide +kernel
def fK_hasRoomFor_13b (N : Nat) (rec13 : Int32 → Int32 → Int32 → Option (Int32)) (σ : xS) (a1 : Int32) (a2 : Int32) (a3 : Int32) : Option (Int32) :=
  if (σ.1 4 0 1) ≤ a3 then
  (if 6 ≤ ((σ.1 4 0 1) - a1) then
  (some 0)
  else
  (if 8 < a2 then
  (some 0)
  else
  (some 1)))
  else
  (if ¬ (a3 < 0 ∨ 6 ≤ a3.toNatClampNeg) then
  xp (fH_sizeOf σ (σ.2.1 5 0 a3.toNatClampNeg)) fun r12 =>
  rec13 a1 (a2 + r12) (a3 + 1)
  else none)
def fK_hasRoomFor_13 (N : Nat) (σ : xS) : Nat → Int32 → Int32 → Int32 → Option (Int32)
  | 0, _, _, _ => none
  | n + 1, a1, a2, a3 => fK_hasRoomFor_13b N (fK_hasRoomFor_13 N σ n) σ a1 a2 a3
def fK_hasRoomFor (N : Nat) (σ : xS) (a1 : Int32) : Option (Int32) :=
  fK_hasRoomFor_13 N σ N a1 1 (if ((σ.1 4 0 1) - a1) < 0 then 0 else (σ.1 4 0 1) - a1)
set_option maxHeartbeats 4000000 in
set_option maxRecDepth 100000 in
theorem wK_hasRoomFor_13b {p : Program} {l : Launch} {e : Env} {R : Room} {s : State} {m : MethodId} {args : Array Value} {below : List Frame} {meth : Method} {c : Code} {E : xE} {A : Nat → Prop} {τ : yS} (C : xC p s m args meth c R E A bK_hasRoomFor 4 yK_hasRoomFor (some .boolean) 1 0 0) (N : Nat) (σ : xS) (rec13 : Int32 → Int32 → Int32 → Option (Int32)) (hrec13 : ∀ (a1 : Int32) (a2 : Int32) (a3 : Int32) (res : Int32), rec13 a1 a2 a3 = some res → ∀ (H : Heap) (locs : List Loc) (ls : Array Slot), xW E A s σ τ H locs → lv_has ls 4 [(0, .ref (E.2.2.1 4 0)), (1, .int a1), (2, .int a2), (3, .int a3)] → W p l e R s m args below meth c H locs 0 0 (MQ below (xQ E A (some (.int res)) σ τ) args s 0 0 A) (F0 m 13 ls [])) (a1 : Int32) (a2 : Int32) (a3 : Int32) (res : Int32) (hf : fK_hasRoomFor_13b N rec13 σ a1 a2 a3 = some res) (H : Heap) (locs : List Loc) (ls : Array Slot) (hw : xW E A s σ τ H locs) (hl : lv_has ls 4 [(0, .ref (E.2.2.1 4 0)), (1, .int a1), (2, .int a2), (3, .int a3)]) : W p l e R s m args below meth c H locs 0 0 (MQ below (xQ E A (some (.int res)) σ τ) args s 0 0 A) (F0 m 13 ls []) := by
  have hx := C.1
  have hb := C.2.1
  unfold fK_hasRoomFor_13b at hf
  refine lv_iload_n hx hb dK_hasRoomFor_13 rfl (lv_at hl 3 rfl) ?_
  refine lv_aload_n hx hb dK_hasRoomFor_14 rfl (lv_at hl 0 rfl) ?_
  refine x_get C hw 4 0 1 (v := .int (σ.1 4 0 1)) at_4 rfl rfl ⟨by decide, by decide⟩ wK_17 rfl dK_hasRoomFor_15 ?_
  refine lv_icmp_ge (tgt := 39) hx hb dK_hasRoomFor_18 (by decide) (fun c7 => ?_) (fun c7 => ?_)
  · replace hf := x_ip c7 hf
    refine lv_aload_n hx hb dK_hasRoomFor_39 rfl (lv_at hl 0 rfl) ?_
    refine x_get C hw 4 0 1 (v := .int (σ.1 4 0 1)) at_4 rfl rfl ⟨by decide, by decide⟩ wK_17 rfl dK_hasRoomFor_40 ?_
    refine lv_iload_n hx hb dK_hasRoomFor_43 rfl (lv_at hl 1 rfl) ?_
    refine lv_isub hx hb dK_hasRoomFor_44 ?_
    refine lv_bipush (v := 6) hx hb dK_hasRoomFor_45 (by decide) ?_
    refine lv_icmp_ge (tgt := 60) hx hb dK_hasRoomFor_47 (by decide) (fun c8 => ?_) (fun c8 => ?_)
    · replace hf := x_ip c8 hf
      refine lv_iconst (v := 0) hx hb dK_hasRoomFor_60 (by decide) ?_
      obtain rfl := Option.some.inj hf
      exact x_zret C hw (x_nz (v := 0) (Or.inl rfl)) dK_hasRoomFor_61
    · replace hf := x_in c8 hf
      refine lv_iload_n hx hb dK_hasRoomFor_50 rfl (lv_at hl 2 rfl) ?_
      refine lv_bipush (v := 8) hx hb dK_hasRoomFor_51 (by decide) ?_
      refine lv_icmp_gt (tgt := 60) hx hb dK_hasRoomFor_53 (by decide) (fun c9 => ?_) (fun c9 => ?_)
      · replace hf := x_ip c9 hf
        refine lv_iconst (v := 0) hx hb dK_hasRoomFor_60 (by decide) ?_
        obtain rfl := Option.some.inj hf
        exact x_zret C hw (x_nz (v := 0) (Or.inl rfl)) dK_hasRoomFor_61
      · replace hf := x_in c9 hf
        refine lv_iconst (v := 1) hx hb dK_hasRoomFor_56 (by decide) ?_
        refine lv_goto (tgt := 61) hx hb dK_hasRoomFor_57 (by decide) ?_
        obtain rfl := Option.some.inj hf
        exact x_zret C hw (x_nz (v := 1) (Or.inr rfl)) dK_hasRoomFor_61
  · replace hf := x_in c7 hf
    refine lv_iload_n hx hb dK_hasRoomFor_21 rfl (lv_at hl 2 rfl) ?_
    refine lv_aload_n hx hb dK_hasRoomFor_22 rfl (lv_at hl 0 rfl) ?_
    refine x_get C hw 4 0 0 (v := .ref (E.2.2.1 5 0)) at_4 rfl rfl ⟨by decide, by decide⟩ wK_11 rfl dK_hasRoomFor_23 ?_
    refine lv_iload_n hx hb dK_hasRoomFor_26 rfl (lv_at hl 3 rfl) ?_
    obtain ⟨g10, hf⟩ := x_g hf
    refine x_oald C hw g10 dK_hasRoomFor_27 ?_
    obtain ⟨r12, h11, hf⟩ := x_p hf
    refine x_callSN (As := [va_rf (σ.2.1 5 0 a3.toNatClampNeg)]) (rest := [.int a2]) (st1 := [.int r12, .int a2]) C hw (cH_sizeOf l E σ τ (σ.2.1 5 0 a3.toNatClampNeg) r12 h11) kK_27 (by decide) rfl rfl hl.1 (lv_room (Nat.le_of_ble_eq_true rfl)) dK_hasRoomFor_28 ⟨by decide, by decide⟩ rfl (fun H locs hw => ?_)
    refine lv_iadd hx hb dK_hasRoomFor_31 ?_
    refine lv_istore_n (lv' := [(2, .int (a2 + r12)), (0, .ref (E.2.2.1 4 0)), (1, .int a1), (3, .int a3)]) hx hb dK_hasRoomFor_32 rfl hl (by decide) rfl (fun ls hl => ?_)
    refine lv_iinc (v := a3 + 1) (lv' := [(3, .int (a3 + 1)), (2, .int (a2 + r12)), (0, .ref (E.2.2.1 4 0)), (1, .int a1)]) hx hb dK_hasRoomFor_33 hl (k := 3) rfl rfl (by decide) rfl (fun ls hl => ?_)
    refine lv_goto (tgt := 13) hx hb dK_hasRoomFor_36 (by decide) ?_
    exact hrec13 a1 (a2 + r12) (a3 + 1) res hf H locs ls hw (lv_sub hl [2, 3, 1, 0] rfl)
set_option maxHeartbeats 4000000 in
set_option maxRecDepth 100000 in
theorem wK_hasRoomFor_13 {p : Program} {l : Launch} {e : Env} {R : Room} {s : State} {m : MethodId} {args : Array Value} {below : List Frame} {meth : Method} {c : Code} {E : xE} {A : Nat → Prop} {τ : yS} (C : xC p s m args meth c R E A bK_hasRoomFor 4 yK_hasRoomFor (some .boolean) 1 0 0) (N : Nat) (σ : xS) (n : Nat) : ∀ (a1 : Int32) (a2 : Int32) (a3 : Int32) (res : Int32), fK_hasRoomFor_13 N σ n a1 a2 a3 = some res → ∀ (H : Heap) (locs : List Loc) (ls : Array Slot), xW E A s σ τ H locs → lv_has ls 4 [(0, .ref (E.2.2.1 4 0)), (1, .int a1), (2, .int a2), (3, .int a3)] → W p l e R s m args below meth c H locs 0 0 (MQ below (xQ E A (some (.int res)) σ τ) args s 0 0 A) (F0 m 13 ls []) := by
  induction n with
  | zero => intro a1 a2 a3 res hf; cases hf
  | succ n ih =>
    intro a1 a2 a3 res hf H locs ls hw hl
    exact wK_hasRoomFor_13b C N σ (fK_hasRoomFor_13 N σ n) ih a1 a2 a3 res hf H locs ls hw hl
set_option maxHeartbeats 4000000 in
set_option maxRecDepth 100000 in
theorem cK_hasRoomFor (l : Launch) (E : xE) (N : Nat) (σ : xS) (τ : yS) (a1 : Int32) (res : Int32) (hf : fK_hasRoomFor N σ a1 = some res) : xM l E yK_hasRoomFor bK_hasRoomFor 4 (some .boolean) 1 0 0 [.ref (E.2.2.1 4 0), .int a1] σ τ (some (.int res)) σ τ := by
  refine x_met (by decide) (Nat.le_of_ble_eq_true rfl) (fun p e R s m args below meth c A ls H locs C hw hl => ?_)
  have hl : lv_has ls 4 [(0, .ref (E.2.2.1 4 0)), (1, .int a1)] := hl
  have hx := C.1
  have hb := C.2.1
  unfold fK_hasRoomFor at hf
  refine lv_iconst (v := 1) hx hb dK_hasRoomFor_0 (by decide) ?_
  refine lv_istore_n (lv' := [(2, .int 1), (0, .ref (E.2.2.1 4 0)), (1, .int a1)]) hx hb dK_hasRoomFor_1 rfl hl (by decide) rfl (fun ls hl => ?_)
  refine lv_aload_n hx hb dK_hasRoomFor_2 rfl (lv_at hl 1 rfl) ?_
  refine x_get C hw 4 0 1 (v := .int (σ.1 4 0 1)) at_4 rfl rfl ⟨by decide, by decide⟩ wK_17 rfl dK_hasRoomFor_3 ?_
  refine lv_iload_n hx hb dK_hasRoomFor_6 rfl (lv_at hl 2 rfl) ?_
  refine lv_isub hx hb dK_hasRoomFor_7 ?_
  refine lv_iconst (v := 0) hx hb dK_hasRoomFor_8 (by decide) ?_
  refine x_mmax C hl wK_21 dK_hasRoomFor_9 ?_
  refine lv_istore_n (lv' := [(3, .int (if ((σ.1 4 0 1) - a1) < 0 then 0 else (σ.1 4 0 1) - a1)), (2, .int 1), (0, .ref (E.2.2.1 4 0)), (1, .int a1)]) hx hb dK_hasRoomFor_12 rfl hl (by decide) rfl (fun ls hl => ?_)
  exact wK_hasRoomFor_13 C N σ N a1 1 (if ((σ.1 4 0 1) - a1) < 0 then 0 else (σ.1 4 0 1) - a1) res hf H locs ls hw (lv_sub hl [2, 3, 1, 0] rfl)
-- StandIns$Stack pop ()LStandIns$Matcher;
set_option maxRecDepth 100000 in
theorem dK_pop_0 : decode bK_pop 0 = .ok (.aload_n 0, 1) := by decide +kernel
set_option maxRecDepth 100000 in
theorem dK_pop_1 : decode bK_pop 1 = .ok (.getfield 17, 3) := by decide +kernel
set_option maxRecDepth 100000 in
theorem dK_pop_4 : decode bK_pop 4 = .ok (.ifCond .ne 5, 3) := by decide +kernel
set_option maxRecDepth 100000 in
theorem dK_pop_7 : decode bK_pop 7 = .ok (.aconst_null, 1) := by decide +kernel
set_option maxRecDepth 100000 in
theorem dK_pop_8 : decode bK_pop 8 = .ok (.areturn, 1) := by decide +kernel
set_option maxRecDepth 100000 in
theorem dK_pop_9 : decode bK_pop 9 = .ok (.aload_n 0, 1) := by decide +kernel
set_option maxRecDepth 100000 in
theorem dK_pop_10 : decode bK_pop 10 = .ok (.dup, 1) := by decide +kernel
set_option maxRecDepth 100000 in
theorem dK_pop_11 : decode bK_pop 11 = .ok (.getfield 17, 3) := by decide +kernel
set_option maxRecDepth 100000 in
theorem dK_pop_14 : decode bK_pop 14 = .ok (.iconst 1, 1) := by decide +kernel
set_option maxRecDepth 100000 in
theorem dK_pop_15 : decode bK_pop 15 = .ok (.isub, 1) := by decide +kernel
set_option maxRecDepth 100000 in
theorem dK_pop_16 : decode bK_pop 16 = .ok (.putfield 17, 3) := by decide +kernel
set_option maxRecDepth 100000 in
theorem dK_pop_19 : decode bK_pop 19 = .ok (.aload_n 0, 1) := by decide +kernel
set_option maxRecDepth 100000 in
theorem dK_pop_20 : decode bK_pop 20 = .ok (.getfield 11, 3) := by decide +kernel
set_option maxRecDepth 100000 in
theorem dK_pop_23 : decode bK_pop 23 = .ok (.aload_n 0, 1) := by decide +kernel
set_option maxRecDepth 100000 in
theorem dK_pop_24 : decode bK_pop 24 = .ok (.getfield 17, 3) := by decide +kernel
set_option maxRecDepth 100000 in
theorem dK_pop_27 : decode bK_pop 27 = .ok (.aaload, 1) := by decide +kernel
set_option maxRecDepth 100000 in
theorem dK_pop_28 : decode bK_pop 28 = .ok (.areturn, 1) := by decide +kernel
def fK_pop (σ : xS) : Option (Option Nat × xS) :=
  if (σ.1 4 0 1) = 0 then
  (some (none, σ))
  else
  (xl (x_si σ 4 0 1 ((σ.1 4 0 1) - 1)) fun s2 =>
  if ¬ ((s2.1 4 0 1) < 0 ∨ 6 ≤ (s2.1 4 0 1).toNatClampNeg) then
  some (s2.2.1 5 0 ((s2.1 4 0 1).toNatClampNeg), s2)
  else none)
set_option maxHeartbeats 4000000 in
set_option maxRecDepth 100000 in
theorem cK_pop (l : Launch) (E : xE) (σ : xS) (τ : yS) (res : Option Nat × xS) (hf : fK_pop σ = some res) : xM l E yK_pop bK_pop 1 (some (.object "StandIns$Matcher")) 0 0 0 [.ref (E.2.2.1 4 0)] σ τ (some (va_rf res.1)) res.2 τ := by
  refine x_met (by decide) (Nat.le_of_ble_eq_true rfl) (fun p e R s m args below meth c A ls H locs C hw hl => ?_)
  have hl : lv_has ls 1 [(0, .ref (E.2.2.1 4 0))] := hl
  have hx := C.1
  have hb := C.2.1
  unfold fK_pop at hf
  refine lv_aload_n hx hb dK_pop_0 rfl (lv_at hl 0 rfl) ?_
  refine x_get C hw 4 0 1 (v := .int (σ.1 4 0 1)) at_4 rfl rfl ⟨by decide, by decide⟩ wK_17 rfl dK_pop_1 ?_
  refine lv_if_ne (tgt := 9) hx hb dK_pop_4 (by decide) (fun c1 => ?_) (fun c1 => ?_)
  · replace hf := x_in c1 hf
    refine lv_aload_n hx hb dK_pop_9 rfl (lv_at hl 0 rfl) ?_
    refine lv_dup hx hb dK_pop_10 rfl ?_
    refine x_get C hw 4 0 1 (v := .int (σ.1 4 0 1)) at_4 rfl rfl ⟨by decide, by decide⟩ wK_17 rfl dK_pop_11 ?_
    refine lv_iconst (v := 1) hx hb dK_pop_14 (by decide) ?_
    refine lv_isub hx hb dK_pop_15 ?_
    refine x_puti C hw 4 0 1 at_4 rfl rfl rfl ⟨rfl, rfl⟩ ⟨by decide, by decide⟩ (Nat.le_of_ble_eq_true rfl) wK_17 dK_pop_16 (fun H locs hw => ?_)
    obtain ⟨s2, es2, hf⟩ := x_l hf
    rw [← es2] at hw
    refine lv_aload_n hx hb dK_pop_19 rfl (lv_at hl 0 rfl) ?_
    refine x_get C hw 4 0 0 (v := .ref (E.2.2.1 5 0)) at_4 rfl rfl ⟨by decide, by decide⟩ wK_11 rfl dK_pop_20 ?_
    refine lv_aload_n hx hb dK_pop_23 rfl (lv_at hl 0 rfl) ?_
    refine x_get C hw 4 0 1 (v := .int (s2.1 4 0 1)) at_4 rfl rfl ⟨by decide, by decide⟩ wK_17 rfl dK_pop_24 ?_
    obtain ⟨g3, hf⟩ := x_g hf
    refine x_oald C hw g3 dK_pop_27 ?_
    obtain rfl := Option.some.inj hf
    exact x_aret C hw (va_rf_or _) dK_pop_28
  · replace hf := x_ip c1 hf
    refine x_null hx hb dK_pop_7 ?_
    obtain rfl := Option.some.inj hf
    exact x_aret C hw (va_rf_or _) dK_pop_8
-- StandIns$Matcher <init> (IILStandIns$Matcher;LStandIns$Matcher;)V
set_option maxRecDepth 100000 in
theorem dH_init_0 : decode bH_init 0 = .ok (.aload_n 0, 1) := by decide +kernel
set_option maxRecDepth 100000 in
theorem dH_init_1 : decode bH_init 1 = .ok (.invokespecial 3, 3) := by decide +kernel
set_option maxRecDepth 100000 in
theorem dH_init_4 : decode bH_init 4 = .ok (.aload_n 0, 1) := by decide +kernel
set_option maxRecDepth 100000 in
theorem dH_init_5 : decode bH_init 5 = .ok (.iload_n 1, 1) := by decide +kernel
set_option maxRecDepth 100000 in
theorem dH_init_6 : decode bH_init 6 = .ok (.putfield 9, 3) := by decide +kernel
set_option maxRecDepth 100000 in
theorem dH_init_9 : decode bH_init 9 = .ok (.aload_n 0, 1) := by decide +kernel
set_option maxRecDepth 100000 in
theorem dH_init_10 : decode bH_init 10 = .ok (.iload_n 2, 1) := by decide +kernel
set_option maxRecDepth 100000 in
theorem dH_init_11 : decode bH_init 11 = .ok (.putfield 15, 3) := by decide +kernel
set_option maxRecDepth 100000 in
theorem dH_init_14 : decode bH_init 14 = .ok (.aload_n 0, 1) := by decide +kernel
set_option maxRecDepth 100000 in
theorem dH_init_15 : decode bH_init 15 = .ok (.aload_n 3, 1) := by decide +kernel
set_option maxRecDepth 100000 in
theorem dH_init_16 : decode bH_init 16 = .ok (.putfield 18, 3) := by decide +kernel
set_option maxRecDepth 100000 in
theorem dH_init_19 : decode bH_init 19 = .ok (.aload_n 0, 1) := by decide +kernel
set_option maxRecDepth 100000 in
theorem dH_init_20 : decode bH_init 20 = .ok (.aload 4, 2) := by decide +kernel
set_option maxRecDepth 100000 in
theorem dH_init_22 : decode bH_init 22 = .ok (.putfield 22, 3) := by decide +kernel
set_option maxRecDepth 100000 in
theorem dH_init_25 : decode bH_init 25 = .ok (.aload_n 0, 1) := by decide +kernel
set_option maxRecDepth 100000 in
theorem dH_init_26 : decode bH_init 26 = .ok (.iconst 1, 1) := by decide +kernel
set_option maxRecDepth 100000 in
theorem dH_init_27 : decode bH_init 27 = .ok (.aload_n 3, 1) := by decide +kernel
set_option maxRecDepth 100000 in
theorem dH_init_28 : decode bH_init 28 = .ok (.invokestatic 25, 3) := by decide +kernel
set_option maxRecDepth 100000 in
theorem dH_init_31 : decode bH_init 31 = .ok (.iadd, 1) := by decide +kernel
set_option maxRecDepth 100000 in
theorem dH_init_32 : decode bH_init 32 = .ok (.aload 4, 2) := by decide +kernel
set_option maxRecDepth 100000 in
theorem dH_init_34 : decode bH_init 34 = .ok (.invokestatic 25, 3) := by decide +kernel
set_option maxRecDepth 100000 in
theorem dH_init_37 : decode bH_init 37 = .ok (.iadd, 1) := by decide +kernel
set_option maxRecDepth 100000 in
theorem dH_init_38 : decode bH_init 38 = .ok (.putfield 29, 3) := by decide +kernel
set_option maxRecDepth 100000 in
theorem dH_init_41 : decode bH_init 41 = .ok (.return_, 1) := by decide +kernel
def fH_init (σ : xS) (k0 : Nat) (a1 : Int32) (a2 : Int32) (o3 : Option Nat) (o4 : Option Nat) : Option (xS) :=
  if k0 ∈ σ.2.2.1 then
  xl (x_si σ 21 k0 0 a1) fun s2 =>
  if k0 ∈ s2.2.2.1 then
  xl (x_si s2 21 k0 1 a2) fun s4 =>
  if k0 ∈ s4.2.2.1 then
  xl (x_sp s4 21 k0 2 o3) fun s6 =>
  if k0 ∈ s6.2.2.1 then
  xl (x_sp s6 21 k0 3 o4) fun s8 =>
  xp (fH_sizeOf s8 o3) fun r10 =>
  xp (fH_sizeOf s8 o4) fun r12 =>
  if k0 ∈ s8.2.2.1 then
  xl (x_si s8 21 k0 4 ((1 + r10) + r12)) fun s14 =>
  some s14
  else none
  else none
  else none
  else none
  else none
set_option maxHeartbeats 4000000 in
set_option maxRecDepth 100000 in
theorem cH_init (l : Launch) (E : xE) (σ : xS) (τ : yS) (k0 : Nat) (a1 : Int32) (a2 : Int32) (o3 : Option Nat) (o4 : Option Nat) (res : xS) (hf : fH_init σ k0 a1 a2 o3 o4 = some res) : xM l E yH_init bH_init 5 none 1 0 0 [.ref k0, .int a1, .int a2, va_rf o3, va_rf o4] σ τ none res τ := by
  refine x_met (by decide) (by simp [lg_sl, x_cat, x_cati, x_catr, x_catl]) (fun p e R s m args below meth c A ls H locs C hw hl => ?_)
  have hl : lv_has ls 5 [(0, .ref k0), (1, .int a1), (2, .int a2), (3, va_rf o3), (4, va_rf o4)] := by simpa [lv_args, x_cat, x_cati, x_catr, x_catl] using hl
  have hx := C.1
  have hb := C.2.1
  unfold fH_init at hf
  refine lv_aload_n hx hb dH_init_0 rfl (lv_at hl 0 rfl) ?_
  refine x_objinit C hl wH_3 dH_init_1 ?_
  refine lv_aload_n hx hb dH_init_4 rfl (lv_at hl 0 rfl) ?_
  refine lv_iload_n hx hb dH_init_5 rfl (lv_at hl 1 rfl) ?_
  obtain ⟨g1, hf⟩ := x_g hf
  refine x_putFiM C hw k0 0 g1 rfl rfl rfl ⟨rfl, rfl⟩ (by decide) wH_9 dH_init_6 (fun H locs hw => ?_)
  obtain ⟨s2, es2, hf⟩ := x_l hf
  rw [← es2] at hw
  refine lv_aload_n hx hb dH_init_9 rfl (lv_at hl 0 rfl) ?_
  refine lv_iload_n hx hb dH_init_10 rfl (lv_at hl 2 rfl) ?_
  obtain ⟨g3, hf⟩ := x_g hf
  refine x_putFiM C hw k0 1 g3 rfl rfl rfl ⟨rfl, rfl⟩ (by decide) wH_15 dH_init_11 (fun H locs hw => ?_)
  obtain ⟨s4, es4, hf⟩ := x_l hf
  rw [← es4] at hw
  refine lv_aload_n hx hb dH_init_14 rfl (lv_at hl 0 rfl) ?_
  refine x_aload_n hx hb dH_init_15 rfl (lv_at hl 3 rfl) ?_
  obtain ⟨g5, hf⟩ := x_g hf
  refine x_putFoM C hw k0 2 g5 rfl rfl rfl ⟨rfl, rfl⟩ (by decide) wH_18 dH_init_16 (fun H locs hw => ?_)
  obtain ⟨s6, es6, hf⟩ := x_l hf
  rw [← es6] at hw
  refine lv_aload_n hx hb dH_init_19 rfl (lv_at hl 0 rfl) ?_
  refine x_aload hx hb dH_init_20 (lv_at hl 4 rfl) ?_
  obtain ⟨g7, hf⟩ := x_g hf
  refine x_putFoM C hw k0 3 g7 rfl rfl rfl ⟨rfl, rfl⟩ (by decide) wH_22 dH_init_22 (fun H locs hw => ?_)
  obtain ⟨s8, es8, hf⟩ := x_l hf
  rw [← es8] at hw
  refine lv_aload_n hx hb dH_init_25 rfl (lv_at hl 0 rfl) ?_
  refine lv_iconst (v := 1) hx hb dH_init_26 (by decide) ?_
  refine x_aload_n hx hb dH_init_27 rfl (lv_at hl 3 rfl) ?_
  obtain ⟨r10, h9, hf⟩ := x_p hf
  refine x_callS (As := [va_rf o3]) (rest := [.int 1, .ref k0]) (st1 := [.int r10, .int 1, .ref k0]) C hw (cH_sizeOf l E s8 τ o3 r10 h9) kH_25 (by decide) rfl rfl hl.1 (lv_room (Nat.le_of_ble_eq_true rfl)) dH_init_28 ⟨by decide, by decide⟩ rfl (fun H locs hw => ?_)
  refine lv_iadd hx hb dH_init_31 ?_
  refine x_aload hx hb dH_init_32 (lv_at hl 4 rfl) ?_
  obtain ⟨r12, h11, hf⟩ := x_p hf
  refine x_callS (As := [va_rf o4]) (rest := [.int (1 + r10), .ref k0]) (st1 := [.int r12, .int (1 + r10), .ref k0]) C hw (cH_sizeOf l E s8 τ o4 r12 h11) kH_25 (by decide) rfl rfl hl.1 (lv_room (Nat.le_of_ble_eq_true rfl)) dH_init_34 ⟨by decide, by decide⟩ rfl (fun H locs hw => ?_)
  refine lv_iadd hx hb dH_init_37 ?_
  obtain ⟨g13, hf⟩ := x_g hf
  refine x_putFiM C hw k0 4 g13 rfl rfl rfl ⟨rfl, rfl⟩ (by decide) wH_29 dH_init_38 (fun H locs hw => ?_)
  obtain ⟨s14, es14, hf⟩ := x_l hf
  rw [← es14] at hw
  obtain rfl := Option.some.inj hf
  exact x_vret C hw dH_init_41
-- StandIns$Stack push (LStandIns$Matcher;)V
set_option maxRecDepth 100000 in
theorem dK_push_0 : decode bK_push 0 = .ok (.aload_n 0, 1) := by decide +kernel
set_option maxRecDepth 100000 in
theorem dK_push_1 : decode bK_push 1 = .ok (.getfield 17, 3) := by decide +kernel
set_option maxRecDepth 100000 in
theorem dK_push_4 : decode bK_push 4 = .ok (.bipush 6, 2) := by decide +kernel
set_option maxRecDepth 100000 in
theorem dK_push_6 : decode bK_push 6 = .ok (.if_icmp .ge 23, 3) := by decide +kernel
set_option maxRecDepth 100000 in
theorem dK_push_9 : decode bK_push 9 = .ok (.aload_n 0, 1) := by decide +kernel
set_option maxRecDepth 100000 in
theorem dK_push_10 : decode bK_push 10 = .ok (.getfield 11, 3) := by decide +kernel
set_option maxRecDepth 100000 in
theorem dK_push_13 : decode bK_push 13 = .ok (.aload_n 0, 1) := by decide +kernel
set_option maxRecDepth 100000 in
theorem dK_push_14 : decode bK_push 14 = .ok (.getfield 17, 3) := by decide +kernel
set_option maxRecDepth 100000 in
theorem dK_push_17 : decode bK_push 17 = .ok (.aload_n 1, 1) := by decide +kernel
set_option maxRecDepth 100000 in
theorem dK_push_18 : decode bK_push 18 = .ok (.aastore, 1) := by decide +kernel
set_option maxRecDepth 100000 in
theorem dK_push_19 : decode bK_push 19 = .ok (.aload_n 0, 1) := by decide +kernel
set_option maxRecDepth 100000 in
theorem dK_push_20 : decode bK_push 20 = .ok (.dup, 1) := by decide +kernel
set_option maxRecDepth 100000 in
theorem dK_push_21 : decode bK_push 21 = .ok (.getfield 17, 3) := by decide +kernel
set_option maxRecDepth 100000 in
theorem dK_push_24 : decode bK_push 24 = .ok (.iconst 1, 1) := by decide +kernel
set_option maxRecDepth 100000 in
theorem dK_push_25 : decode bK_push 25 = .ok (.iadd, 1) := by decide +kernel
set_option maxRecDepth 100000 in
theorem dK_push_26 : decode bK_push 26 = .ok (.putfield 17, 3) := by decide +kernel
set_option maxRecDepth 100000 in
theorem dK_push_29 : decode bK_push 29 = .ok (.return_, 1) := by decide +kernel
def fK_push (σ : xS) (o1 : Option Nat) : Option (xS) :=
  if 6 ≤ (σ.1 4 0 1) then
  (some σ)
  else
  (if ¬ ((σ.1 4 0 1) < 0 ∨ 6 ≤ (σ.1 4 0 1).toNatClampNeg) then
  if xo σ.2.2.1 o1 = true then
  xl (x_sp σ 5 0 ((σ.1 4 0 1).toNatClampNeg) o1) fun s4 =>
  xl (x_si s4 4 0 1 ((s4.1 4 0 1) + 1)) fun s5 =>
  some s5
  else none
  else none)
set_option maxHeartbeats 4000000 in
set_option maxRecDepth 100000 in
theorem cK_push (l : Launch) (E : xE) (σ : xS) (τ : yS) (o1 : Option Nat) (res : xS) (hf : fK_push σ o1 = some res) : xM l E yK_push bK_push 2 none 0 0 0 [.ref (E.2.2.1 4 0), va_rf o1] σ τ none res τ := by
  refine x_met (by decide) (by simp [lg_sl, x_cat, x_cati, x_catr, x_catl]) (fun p e R s m args below meth c A ls H locs C hw hl => ?_)
  have hl : lv_has ls 2 [(0, .ref (E.2.2.1 4 0)), (1, va_rf o1)] := by simpa [lv_args, x_cat, x_cati, x_catr, x_catl] using hl
  have hx := C.1
  have hb := C.2.1
  unfold fK_push at hf
  refine lv_aload_n hx hb dK_push_0 rfl (lv_at hl 0 rfl) ?_
  refine x_get C hw 4 0 1 (v := .int (σ.1 4 0 1)) at_4 rfl rfl ⟨by decide, by decide⟩ wK_17 rfl dK_push_1 ?_
  refine lv_bipush (v := 6) hx hb dK_push_4 (by decide) ?_
  refine lv_icmp_ge (tgt := 29) hx hb dK_push_6 (by decide) (fun c1 => ?_) (fun c1 => ?_)
  · replace hf := x_ip c1 hf
    obtain rfl := Option.some.inj hf
    exact x_vret C hw dK_push_29
  · replace hf := x_in c1 hf
    refine lv_aload_n hx hb dK_push_9 rfl (lv_at hl 0 rfl) ?_
    refine x_get C hw 4 0 0 (v := .ref (E.2.2.1 5 0)) at_4 rfl rfl ⟨by decide, by decide⟩ wK_11 rfl dK_push_10 ?_
    refine lv_aload_n hx hb dK_push_13 rfl (lv_at hl 0 rfl) ?_
    refine x_get C hw 4 0 1 (v := .int (σ.1 4 0 1)) at_4 rfl rfl ⟨by decide, by decide⟩ wK_17 rfl dK_push_14 ?_
    refine x_aload_n hx hb dK_push_17 rfl (lv_at hl 1 rfl) ?_
    obtain ⟨g2, hf⟩ := x_g hf
    obtain ⟨g3, hf⟩ := x_g hf
    refine x_oast C hw g3 g2 dK_push_18 (fun H locs hw => ?_)
    obtain ⟨s4, es4, hf⟩ := x_l hf
    rw [← es4] at hw
    refine lv_aload_n hx hb dK_push_19 rfl (lv_at hl 0 rfl) ?_
    refine lv_dup hx hb dK_push_20 rfl ?_
    refine x_get C hw 4 0 1 (v := .int (s4.1 4 0 1)) at_4 rfl rfl ⟨by decide, by decide⟩ wK_17 rfl dK_push_21 ?_
    refine lv_iconst (v := 1) hx hb dK_push_24 (by decide) ?_
    refine lv_iadd hx hb dK_push_25 ?_
    refine x_puti C hw 4 0 1 at_4 rfl rfl rfl ⟨rfl, rfl⟩ ⟨by decide, by decide⟩ (Nat.le_of_ble_eq_true rfl) wK_17 dK_push_26 (fun H locs hw => ?_)
    obtain ⟨s5, es5, hf⟩ := x_l hf
    rw [← es5] at hw
    obtain rfl := Option.some.inj hf
    exact x_vret C hw dK_push_29
