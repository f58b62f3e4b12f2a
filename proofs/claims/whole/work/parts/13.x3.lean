-- StandIns doCheck ()J
set_option maxRecDepth 100000 in
theorem dA_doCheck_0 : decode bA_doCheck 0 = .ok (.aload_n 0, 1) := by decide +kernel
set_option maxRecDepth 100000 in
theorem dA_doCheck_1 : decode bA_doCheck 1 = .ok (.aload_n 0, 1) := by decide +kernel
set_option maxRecDepth 100000 in
theorem dA_doCheck_2 : decode bA_doCheck 2 = .ok (.getfield 83, 3) := by decide +kernel
set_option maxRecDepth 100000 in
theorem dA_doCheck_5 : decode bA_doCheck 5 = .ok (.iconst 4, 1) := by decide +kernel
set_option maxRecDepth 100000 in
theorem dA_doCheck_6 : decode bA_doCheck 6 = .ok (.if_icmp .ne 10, 3) := by decide +kernel
set_option maxRecDepth 100000 in
theorem dA_doCheck_9 : decode bA_doCheck 9 = .ok (.aload_n 0, 1) := by decide +kernel
set_option maxRecDepth 100000 in
theorem dA_doCheck_10 : decode bA_doCheck 10 = .ok (.getfield 89, 3) := by decide +kernel
set_option maxRecDepth 100000 in
theorem dA_doCheck_13 : decode bA_doCheck 13 = .ok (.goto 4, 3) := by decide +kernel
set_option maxRecDepth 100000 in
theorem dA_doCheck_16 : decode bA_doCheck 16 = .ok (.iconst (-1), 1) := by decide +kernel
set_option maxRecDepth 100000 in
theorem dA_doCheck_17 : decode bA_doCheck 17 = .ok (.invokevirtual 323, 3) := by decide +kernel
set_option maxRecDepth 100000 in
theorem dA_doCheck_20 : decode bA_doCheck 20 = .ok (.aload_n 0, 1) := by decide +kernel
set_option maxRecDepth 100000 in
theorem dA_doCheck_21 : decode bA_doCheck 21 = .ok (.getfield 59, 3) := by decide +kernel
set_option maxRecDepth 100000 in
theorem dA_doCheck_24 : decode bA_doCheck 24 = .ok (.iconst 1, 1) := by decide +kernel
set_option maxRecDepth 100000 in
theorem dA_doCheck_25 : decode bA_doCheck 25 = .ok (.putfield 258, 3) := by decide +kernel
set_option maxRecDepth 100000 in
theorem dA_doCheck_28 : decode bA_doCheck 28 = .ok (.aload_n 0, 1) := by decide +kernel
set_option maxRecDepth 100000 in
theorem dA_doCheck_29 : decode bA_doCheck 29 = .ok (.getfield 59, 3) := by decide +kernel
set_option maxRecDepth 100000 in
theorem dA_doCheck_32 : decode bA_doCheck 32 = .ok (.aload_n 0, 1) := by decide +kernel
set_option maxRecDepth 100000 in
theorem dA_doCheck_33 : decode bA_doCheck 33 = .ok (.invokevirtual 327, 3) := by decide +kernel
set_option maxRecDepth 100000 in
theorem dA_doCheck_36 : decode bA_doCheck 36 = .ok (.putfield 261, 3) := by decide +kernel
set_option maxRecDepth 100000 in
theorem dA_doCheck_39 : decode bA_doCheck 39 = .ok (.aload_n 0, 1) := by decide +kernel
set_option maxRecDepth 100000 in
theorem dA_doCheck_40 : decode bA_doCheck 40 = .ok (.getfield 59, 3) := by decide +kernel
set_option maxRecDepth 100000 in
theorem dA_doCheck_43 : decode bA_doCheck 43 = .ok (.getfield 261, 3) := by decide +kernel
set_option maxRecDepth 100000 in
theorem dA_doCheck_46 : decode bA_doCheck 46 = .ok (.ifCond .eq 44, 3) := by decide +kernel
set_option maxRecDepth 100000 in
theorem dA_doCheck_49 : decode bA_doCheck 49 = .ok (.aload_n 0, 1) := by decide +kernel
set_option maxRecDepth 100000 in
theorem dA_doCheck_50 : decode bA_doCheck 50 = .ok (.getfield 83, 3) := by decide +kernel
set_option maxRecDepth 100000 in
theorem dA_doCheck_53 : decode bA_doCheck 53 = .ok (.iconst 4, 1) := by decide +kernel
set_option maxRecDepth 100000 in
theorem dA_doCheck_54 : decode bA_doCheck 54 = .ok (.if_icmp .ne 32, 3) := by decide +kernel
set_option maxRecDepth 100000 in
theorem dA_doCheck_57 : decode bA_doCheck 57 = .ok (.aload_n 0, 1) := by decide +kernel
set_option maxRecDepth 100000 in
theorem dA_doCheck_58 : decode bA_doCheck 58 = .ok (.getfield 59, 3) := by decide +kernel
set_option maxRecDepth 100000 in
theorem dA_doCheck_61 : decode bA_doCheck 61 = .ok (.aload_n 0, 1) := by decide +kernel
set_option maxRecDepth 100000 in
theorem dA_doCheck_62 : decode bA_doCheck 62 = .ok (.getfield 86, 3) := by decide +kernel
set_option maxRecDepth 100000 in
theorem dA_doCheck_65 : decode bA_doCheck 65 = .ok (.putfield 264, 3) := by decide +kernel
set_option maxRecDepth 100000 in
theorem dA_doCheck_68 : decode bA_doCheck 68 = .ok (.aload_n 0, 1) := by decide +kernel
set_option maxRecDepth 100000 in
theorem dA_doCheck_69 : decode bA_doCheck 69 = .ok (.aload_n 0, 1) := by decide +kernel
set_option maxRecDepth 100000 in
theorem dA_doCheck_70 : decode bA_doCheck 70 = .ok (.getfield 59, 3) := by decide +kernel
set_option maxRecDepth 100000 in
theorem dA_doCheck_73 : decode bA_doCheck 73 = .ok (.getfield 265, 3) := by decide +kernel
set_option maxRecDepth 100000 in
theorem dA_doCheck_76 : decode bA_doCheck 76 = .ok (.aload_n 0, 1) := by decide +kernel
set_option maxRecDepth 100000 in
theorem dA_doCheck_77 : decode bA_doCheck 77 = .ok (.getfield 86, 3) := by decide +kernel
set_option maxRecDepth 100000 in
theorem dA_doCheck_80 : decode bA_doCheck 80 = .ok (.iconst 1, 1) := by decide +kernel
set_option maxRecDepth 100000 in
theorem dA_doCheck_81 : decode bA_doCheck 81 = .ok (.isub, 1) := by decide +kernel
set_option maxRecDepth 100000 in
theorem dA_doCheck_82 : decode bA_doCheck 82 = .ok (.iaload, 1) := by decide +kernel
set_option maxRecDepth 100000 in
theorem dA_doCheck_83 : decode bA_doCheck 83 = .ok (.putfield 89, 3) := by decide +kernel
set_option maxRecDepth 100000 in
theorem dA_doCheck_86 : decode bA_doCheck 86 = .ok (.aload_n 0, 1) := by decide +kernel
set_option maxRecDepth 100000 in
theorem dA_doCheck_87 : decode bA_doCheck 87 = .ok (.invokevirtual 330, 3) := by decide +kernel
set_option maxRecDepth 100000 in
theorem dA_doCheck_90 : decode bA_doCheck 90 = .ok (.aload_n 0, 1) := by decide +kernel
set_option maxRecDepth 100000 in
theorem dA_doCheck_91 : decode bA_doCheck 91 = .ok (.iconst 0, 1) := by decide +kernel
set_option maxRecDepth 100000 in
theorem dA_doCheck_92 : decode bA_doCheck 92 = .ok (.putfield 77, 3) := by decide +kernel
set_option maxRecDepth 100000 in
theorem dA_doCheck_95 : decode bA_doCheck 95 = .ok (.aload_n 0, 1) := by decide +kernel
set_option maxRecDepth 100000 in
theorem dA_doCheck_96 : decode bA_doCheck 96 = .ok (.getfield 59, 3) := by decide +kernel
set_option maxRecDepth 100000 in
theorem dA_doCheck_99 : decode bA_doCheck 99 = .ok (.getfield 261, 3) := by decide +kernel
set_option maxRecDepth 100000 in
theorem dA_doCheck_102 : decode bA_doCheck 102 = .ok (.ifCond .eq 9, 3) := by decide +kernel
set_option maxRecDepth 100000 in
theorem dA_doCheck_105 : decode bA_doCheck 105 = .ok (.ldc2_w 333, 3) := by decide +kernel
set_option maxRecDepth 100000 in
theorem dA_doCheck_108 : decode bA_doCheck 108 = .ok (.goto 6, 3) := by decide +kernel
set_option maxRecDepth 100000 in
theorem dA_doCheck_111 : decode bA_doCheck 111 = .ok (.ldc2_w 335, 3) := by decide +kernel
set_option maxRecDepth 100000 in
theorem dA_doCheck_114 : decode bA_doCheck 114 = .ok (.lreturn, 1) := by decide +kernel
def fA_doCheck_90 (N : Nat) (σ : xS) : Option (Int64 × xS) :=
  xl (x_si σ 0 0 12 0) fun s17 =>
  if (s17.1 9 0 4) = 0 then
  (some (8796093022208, s17))
  else
  (some (4398046511104, s17))
def fA_doCheck_86 (N : Nat) (σ : xS) : Option (Int64 × xS) :=
  xp (fA_seeAndCatch N σ) fun s20 =>
  fA_doCheck_90 N s20
def fA_doCheck_17 (N : Nat) (σ : xS) (t0 : Int32) : Option (Int64 × xS) :=
  xp (fA_findAbove N σ t0) fun s22 =>
  xl (x_si s22 9 0 3 1) fun s23 =>
  xp (fA_passes N s23) fun r25 =>
  if r25 = 0 ∨ r25 = 1 then
  xl (x_si s23 9 0 4 r25) fun s27 =>
  if (s27.1 9 0 4) = 0 then
  (fA_doCheck_90 N s27)
  else
  (if (s27.1 0 0 14) = 4 then
  (xl (x_si s27 9 0 2 (s27.1 0 0 15)) fun s30 =>
  if ¬ (((s30.1 0 0 15) - 1) < 0 ∨ 40 ≤ ((s30.1 0 0 15) - 1).toNatClampNeg) then
  xl (x_si s30 0 0 16 (s30.1 11 0 (((s30.1 0 0 15) - 1).toNatClampNeg))) fun s32 =>
  fA_doCheck_86 N s32
  else none)
  else
  (fA_doCheck_86 N s27))
  else none
def fA_doCheck (N : Nat) (σ : xS) : Option (Int64 × xS) :=
  if (σ.1 0 0 14) = 4 then
  (fA_doCheck_17 N σ (σ.1 0 0 16))
  else
  (fA_doCheck_17 N σ (-1))
set_option maxHeartbeats 4000000 in
set_option maxRecDepth 100000 in
theorem wA_doCheck_90 {p : Program} {l : Launch} {e : Env} {R : Room} {s : State} {m : MethodId} {args : Array Value} {below : List Frame} {meth : Method} {c : Code} {E : xE} {A : Nat → Prop} {τ : yS} (C : xC p s m args meth c R E A bA_doCheck 1 yA_doCheck (some .long) 12 0 0) (N : Nat) (σ : xS) (res : Int64 × xS) (hf : fA_doCheck_90 N σ = some res) (H : Heap) (locs : List Loc) (ls : Array Slot) (hw : xW E A s σ τ H locs) (hl : lv_has ls 1 [(0, .ref (E.2.2.1 0 0))]) : W p l e R s m args below meth c H locs 0 0 (MQ below (xQ E A (some (.long res.1)) res.2 τ) args s 0 0 A) (F0 m 90 ls []) := by
  have hx := C.1
  have hb := C.2.1
  unfold fA_doCheck_90 at hf
  refine lv_aload_n hx hb dA_doCheck_90 rfl (lv_at hl 0 rfl) ?_
  refine lv_iconst (v := 0) hx hb dA_doCheck_91 (by decide) ?_
  refine x_puti C hw 0 0 12 at_0 rfl rfl rfl ⟨rfl, rfl⟩ ⟨by decide, by decide⟩ (Nat.le_of_ble_eq_true rfl) wA_77 dA_doCheck_92 (fun H locs hw => ?_)
  obtain ⟨s17, es17, hf⟩ := x_l hf
  rw [← es17] at hw
  refine lv_aload_n hx hb dA_doCheck_95 rfl (lv_at hl 0 rfl) ?_
  refine x_get C hw 0 0 9 (v := .ref (E.2.2.1 9 0)) at_0 rfl rfl ⟨by decide, by decide⟩ wA_59 rfl dA_doCheck_96 ?_
  refine x_getN C hw 9 0 4 (v := .int (s17.1 9 0 4)) at_9 rfl rfl ⟨by decide, by decide⟩ wA_261 rfl dA_doCheck_99 ?_
  refine lv_if_eq (tgt := 111) hx hb dA_doCheck_102 (by decide) (fun c18 => ?_) (fun c18 => ?_)
  · replace hf := x_ip c18 hf
    refine lv_ldc2 (v := 8796093022208) hx hb C.own (C.tb wA_335) dA_doCheck_111 ?_
    obtain rfl := Option.some.inj hf
    exact x_lret C hw dA_doCheck_114
  · replace hf := x_in c18 hf
    refine lv_ldc2 (v := 4398046511104) hx hb C.own (C.tb wA_333) dA_doCheck_105 ?_
    refine lv_goto (tgt := 114) hx hb dA_doCheck_108 (by decide) ?_
    obtain rfl := Option.some.inj hf
    exact x_lret C hw dA_doCheck_114
set_option maxHeartbeats 4000000 in
set_option maxRecDepth 100000 in
theorem wA_doCheck_86 {p : Program} {l : Launch} {e : Env} {R : Room} {s : State} {m : MethodId} {args : Array Value} {below : List Frame} {meth : Method} {c : Code} {E : xE} {A : Nat → Prop} {τ : yS} (C : xC p s m args meth c R E A bA_doCheck 1 yA_doCheck (some .long) 12 0 0) (N : Nat) (σ : xS) (res : Int64 × xS) (hf : fA_doCheck_86 N σ = some res) (H : Heap) (locs : List Loc) (ls : Array Slot) (hw : xW E A s σ τ H locs) (hl : lv_has ls 1 [(0, .ref (E.2.2.1 0 0))]) : W p l e R s m args below meth c H locs 0 0 (MQ below (xQ E A (some (.long res.1)) res.2 τ) args s 0 0 A) (F0 m 86 ls []) := by
  have hx := C.1
  have hb := C.2.1
  unfold fA_doCheck_86 at hf
  refine lv_aload_n hx hb dA_doCheck_86 rfl (lv_at hl 0 rfl) ?_
  obtain ⟨s20, h19, hf⟩ := x_p hf
  refine x_callV (As := []) (rest := []) (st1 := []) C hw (cA_seeAndCatch l E N σ τ s20 h19) kA_330 (x_recv C hw 0 0 at_0 rfl rfl) (by decide) rfl rfl hl.1 (lv_room (Nat.le_of_ble_eq_true rfl)) dA_doCheck_87 ⟨by decide, by decide⟩ rfl (fun H locs hw => ?_)
  exact wA_doCheck_90 C N s20 res hf H locs ls hw (lv_sub hl [0] rfl)
set_option maxHeartbeats 4000000 in
set_option maxRecDepth 100000 in
theorem wA_doCheck_17 {p : Program} {l : Launch} {e : Env} {R : Room} {s : State} {m : MethodId} {args : Array Value} {below : List Frame} {meth : Method} {c : Code} {E : xE} {A : Nat → Prop} {τ : yS} (C : xC p s m args meth c R E A bA_doCheck 1 yA_doCheck (some .long) 12 0 0) (N : Nat) (σ : xS) (t0 : Int32) (res : Int64 × xS) (hf : fA_doCheck_17 N σ t0 = some res) (H : Heap) (locs : List Loc) (ls : Array Slot) (hw : xW E A s σ τ H locs) (hl : lv_has ls 1 [(0, .ref (E.2.2.1 0 0))]) : W p l e R s m args below meth c H locs 0 0 (MQ below (xQ E A (some (.long res.1)) res.2 τ) args s 0 0 A) (F0 m 17 ls [.int t0, .ref (E.2.2.1 0 0)]) := by
  have hx := C.1
  have hb := C.2.1
  unfold fA_doCheck_17 at hf
  obtain ⟨s22, h21, hf⟩ := x_p hf
  refine x_callV (As := [.int t0]) (rest := []) (st1 := []) C hw (cA_findAbove l E N σ τ t0 s22 h21) kA_323 (x_recv C hw 0 0 at_0 rfl rfl) (by decide) rfl rfl hl.1 (lv_room (Nat.le_of_ble_eq_true rfl)) dA_doCheck_17 ⟨by decide, by decide⟩ rfl (fun H locs hw => ?_)
  refine lv_aload_n hx hb dA_doCheck_20 rfl (lv_at hl 0 rfl) ?_
  refine x_get C hw 0 0 9 (v := .ref (E.2.2.1 9 0)) at_0 rfl rfl ⟨by decide, by decide⟩ wA_59 rfl dA_doCheck_21 ?_
  refine lv_iconst (v := 1) hx hb dA_doCheck_24 (by decide) ?_
  refine x_putzN C hw 9 0 3 at_9 (by decide) rfl rfl rfl ⟨rfl, rfl⟩ ⟨by decide, by decide⟩ (Nat.le_of_ble_eq_true rfl) wA_258 dA_doCheck_25 (fun H locs hw => ?_)
  obtain ⟨s23, es23, hf⟩ := x_l hf
  rw [← es23] at hw
  refine lv_aload_n hx hb dA_doCheck_28 rfl (lv_at hl 0 rfl) ?_
  refine x_get C hw 0 0 9 (v := .ref (E.2.2.1 9 0)) at_0 rfl rfl ⟨by decide, by decide⟩ wA_59 rfl dA_doCheck_29 ?_
  refine lv_aload_n hx hb dA_doCheck_32 rfl (lv_at hl 0 rfl) ?_
  obtain ⟨r25, h24, hf⟩ := x_p hf
  refine x_callV (As := []) (rest := [.ref (E.2.2.1 9 0)]) (st1 := [.int r25, .ref (E.2.2.1 9 0)]) C hw (cA_passes l E N s23 τ r25 h24) kA_327 (x_recv C hw 0 0 at_0 rfl rfl) (by decide) rfl rfl hl.1 (lv_room (Nat.le_of_ble_eq_true rfl)) dA_doCheck_33 ⟨by decide, by decide⟩ rfl (fun H locs hw => ?_)
  obtain ⟨g26, hf⟩ := x_g hf
  refine x_putzN C hw 9 0 4 at_9 g26 rfl rfl rfl ⟨rfl, rfl⟩ ⟨by decide, by decide⟩ (Nat.le_of_ble_eq_true rfl) wA_261 dA_doCheck_36 (fun H locs hw => ?_)
  obtain ⟨s27, es27, hf⟩ := x_l hf
  rw [← es27] at hw
  refine lv_aload_n hx hb dA_doCheck_39 rfl (lv_at hl 0 rfl) ?_
  refine x_get C hw 0 0 9 (v := .ref (E.2.2.1 9 0)) at_0 rfl rfl ⟨by decide, by decide⟩ wA_59 rfl dA_doCheck_40 ?_
  refine x_getN C hw 9 0 4 (v := .int (s27.1 9 0 4)) at_9 rfl rfl ⟨by decide, by decide⟩ wA_261 rfl dA_doCheck_43 ?_
  refine lv_if_eq (tgt := 90) hx hb dA_doCheck_46 (by decide) (fun c28 => ?_) (fun c28 => ?_)
  · replace hf := x_ip c28 hf
    exact wA_doCheck_90 C N s27 res hf H locs ls hw (lv_sub hl [0] rfl)
  · replace hf := x_in c28 hf
    refine lv_aload_n hx hb dA_doCheck_49 rfl (lv_at hl 0 rfl) ?_
    refine x_get C hw 0 0 14 (v := .int (s27.1 0 0 14)) at_0 rfl rfl ⟨by decide, by decide⟩ wA_83 rfl dA_doCheck_50 ?_
    refine lv_iconst (v := 4) hx hb dA_doCheck_53 (by decide) ?_
    refine lv_icmp_ne (tgt := 86) hx hb dA_doCheck_54 (by decide) (fun c29 => ?_) (fun c29 => ?_)
    · replace hf := x_in c29 hf
      exact wA_doCheck_86 C N s27 res hf H locs ls hw (lv_sub hl [0] rfl)
    · replace hf := x_ip c29 hf
      refine lv_aload_n hx hb dA_doCheck_57 rfl (lv_at hl 0 rfl) ?_
      refine x_get C hw 0 0 9 (v := .ref (E.2.2.1 9 0)) at_0 rfl rfl ⟨by decide, by decide⟩ wA_59 rfl dA_doCheck_58 ?_
      refine lv_aload_n hx hb dA_doCheck_61 rfl (lv_at hl 0 rfl) ?_
      refine x_get C hw 0 0 15 (v := .int (s27.1 0 0 15)) at_0 rfl rfl ⟨by decide, by decide⟩ wA_86 rfl dA_doCheck_62 ?_
      refine x_putiN C hw 9 0 2 at_9 rfl rfl rfl ⟨rfl, rfl⟩ ⟨by decide, by decide⟩ (Nat.le_of_ble_eq_true rfl) wA_264 dA_doCheck_65 (fun H locs hw => ?_)
      obtain ⟨s30, es30, hf⟩ := x_l hf
      rw [← es30] at hw
      refine lv_aload_n hx hb dA_doCheck_68 rfl (lv_at hl 0 rfl) ?_
      refine lv_aload_n hx hb dA_doCheck_69 rfl (lv_at hl 0 rfl) ?_
      refine x_get C hw 0 0 9 (v := .ref (E.2.2.1 9 0)) at_0 rfl rfl ⟨by decide, by decide⟩ wA_59 rfl dA_doCheck_70 ?_
      refine x_getN C hw 9 0 1 (v := .ref (E.2.2.1 11 0)) at_9 rfl rfl ⟨by decide, by decide⟩ wA_265 rfl dA_doCheck_73 ?_
      refine lv_aload_n hx hb dA_doCheck_76 rfl (lv_at hl 0 rfl) ?_
      refine x_get C hw 0 0 15 (v := .int (s30.1 0 0 15)) at_0 rfl rfl ⟨by decide, by decide⟩ wA_86 rfl dA_doCheck_77 ?_
      refine lv_iconst (v := 1) hx hb dA_doCheck_80 (by decide) ?_
      refine lv_isub hx hb dA_doCheck_81 ?_
      obtain ⟨g31, hf⟩ := x_g hf
      refine x_ild C hw 11 0 at_11 rfl g31 dA_doCheck_82 ?_
      refine x_puti C hw 0 0 16 at_0 rfl rfl rfl ⟨rfl, rfl⟩ ⟨by decide, by decide⟩ (Nat.le_of_ble_eq_true rfl) wA_89 dA_doCheck_83 (fun H locs hw => ?_)
      obtain ⟨s32, es32, hf⟩ := x_l hf
      rw [← es32] at hw
      exact wA_doCheck_86 C N s32 res hf H locs ls hw (lv_sub hl [0] rfl)
set_option maxHeartbeats 4000000 in
set_option maxRecDepth 100000 in
theorem cA_doCheck (l : Launch) (E : xE) (N : Nat) (σ : xS) (τ : yS) (res : Int64 × xS) (hf : fA_doCheck N σ = some res) : xM l E yA_doCheck bA_doCheck 1 (some .long) 12 0 0 [.ref (E.2.2.1 0 0)] σ τ (some (.long res.1)) res.2 τ := by
  refine x_met (by decide) (Nat.le_of_ble_eq_true rfl) (fun p e R s m args below meth c A ls H locs C hw hl => ?_)
  have hl : lv_has ls 1 [(0, .ref (E.2.2.1 0 0))] := hl
  have hx := C.1
  have hb := C.2.1
  unfold fA_doCheck at hf
  refine lv_aload_n hx hb dA_doCheck_0 rfl (lv_at hl 0 rfl) ?_
  refine lv_aload_n hx hb dA_doCheck_1 rfl (lv_at hl 0 rfl) ?_
  refine x_get C hw 0 0 14 (v := .int (σ.1 0 0 14)) at_0 rfl rfl ⟨by decide, by decide⟩ wA_83 rfl dA_doCheck_2 ?_
  refine lv_iconst (v := 4) hx hb dA_doCheck_5 (by decide) ?_
  refine lv_icmp_ne (tgt := 16) hx hb dA_doCheck_6 (by decide) (fun c33 => ?_) (fun c33 => ?_)
  · replace hf := x_in c33 hf
    refine lv_iconst (v := (-1)) hx hb dA_doCheck_16 (by decide) ?_
    exact wA_doCheck_17 C N σ (-1) res hf H locs ls hw (lv_sub hl [0] rfl)
  · replace hf := x_ip c33 hf
    refine lv_aload_n hx hb dA_doCheck_9 rfl (lv_at hl 0 rfl) ?_
    refine x_get C hw 0 0 16 (v := .int (σ.1 0 0 16)) at_0 rfl rfl ⟨by decide, by decide⟩ wA_89 rfl dA_doCheck_10 ?_
    refine lv_goto (tgt := 17) hx hb dA_doCheck_13 (by decide) ?_
    exact wA_doCheck_17 C N σ (σ.1 0 0 16) res hf H locs ls hw (lv_sub hl [0] rfl)
-- StandIns$Notebook add (LStandIns$Pattern;II)LStandIns$Note;
set_option maxRecDepth 100000 in
theorem dB_add_0 : decode bB_add 0 = .ok (.aload_n 0, 1) := by decide +kernel
set_option maxRecDepth 100000 in
theorem dB_add_1 : decode bB_add 1 = .ok (.getfield 11, 3) := by decide +kernel
set_option maxRecDepth 100000 in
theorem dB_add_4 : decode bB_add 4 = .ok (.aload_n 0, 1) := by decide +kernel
set_option maxRecDepth 100000 in
theorem dB_add_5 : decode bB_add 5 = .ok (.getfield 17, 3) := by decide +kernel
set_option maxRecDepth 100000 in
theorem dB_add_8 : decode bB_add 8 = .ok (.aaload, 1) := by decide +kernel
set_option maxRecDepth 100000 in
theorem dB_add_9 : decode bB_add 9 = .ok (.astore 4, 2) := by decide +kernel
set_option maxRecDepth 100000 in
theorem dB_add_11 : decode bB_add 11 = .ok (.aload 4, 2) := by decide +kernel
set_option maxRecDepth 100000 in
theorem dB_add_13 : decode bB_add 13 = .ok (.aload_n 0, 1) := by decide +kernel
set_option maxRecDepth 100000 in
theorem dB_add_14 : decode bB_add 14 = .ok (.getfield 21, 3) := by decide +kernel
set_option maxRecDepth 100000 in
theorem dB_add_17 : decode bB_add 17 = .ok (.putfield 25, 3) := by decide +kernel
set_option maxRecDepth 100000 in
theorem dB_add_20 : decode bB_add 20 = .ok (.aload 4, 2) := by decide +kernel
set_option maxRecDepth 100000 in
theorem dB_add_22 : decode bB_add 22 = .ok (.aload_n 1, 1) := by decide +kernel
set_option maxRecDepth 100000 in
theorem dB_add_23 : decode bB_add 23 = .ok (.getfield 28, 3) := by decide +kernel
set_option maxRecDepth 100000 in
theorem dB_add_26 : decode bB_add 26 = .ok (.putfield 33, 3) := by decide +kernel
set_option maxRecDepth 100000 in
theorem dB_add_29 : decode bB_add 29 = .ok (.aload 4, 2) := by decide +kernel
set_option maxRecDepth 100000 in
theorem dB_add_31 : decode bB_add 31 = .ok (.aload_n 1, 1) := by decide +kernel
set_option maxRecDepth 100000 in
theorem dB_add_32 : decode bB_add 32 = .ok (.getfield 34, 3) := by decide +kernel
set_option maxRecDepth 100000 in
theorem dB_add_35 : decode bB_add 35 = .ok (.putfield 37, 3) := by decide +kernel
set_option maxRecDepth 100000 in
theorem dB_add_38 : decode bB_add 38 = .ok (.aload 4, 2) := by decide +kernel
set_option maxRecDepth 100000 in
theorem dB_add_40 : decode bB_add 40 = .ok (.iload_n 2, 1) := by decide +kernel
set_option maxRecDepth 100000 in
theorem dB_add_41 : decode bB_add 41 = .ok (.putfield 38, 3) := by decide +kernel
set_option maxRecDepth 100000 in
theorem dB_add_44 : decode bB_add 44 = .ok (.aload 4, 2) := by decide +kernel
set_option maxRecDepth 100000 in
theorem dB_add_46 : decode bB_add 46 = .ok (.iload_n 3, 1) := by decide +kernel
set_option maxRecDepth 100000 in
theorem dB_add_47 : decode bB_add 47 = .ok (.putfield 41, 3) := by decide +kernel
set_option maxRecDepth 100000 in
theorem dB_add_50 : decode bB_add 50 = .ok (.aload 4, 2) := by decide +kernel
set_option maxRecDepth 100000 in
theorem dB_add_52 : decode bB_add 52 = .ok (.iconst 0, 1) := by decide +kernel
set_option maxRecDepth 100000 in
theorem dB_add_53 : decode bB_add 53 = .ok (.putfield 44, 3) := by decide +kernel
set_option maxRecDepth 100000 in
theorem dB_add_56 : decode bB_add 56 = .ok (.aload_n 0, 1) := by decide +kernel
set_option maxRecDepth 100000 in
theorem dB_add_57 : decode bB_add 57 = .ok (.dup, 1) := by decide +kernel
set_option maxRecDepth 100000 in
theorem dB_add_58 : decode bB_add 58 = .ok (.getfield 17, 3) := by decide +kernel
set_option maxRecDepth 100000 in
theorem dB_add_61 : decode bB_add 61 = .ok (.iconst 1, 1) := by decide +kernel
set_option maxRecDepth 100000 in
theorem dB_add_62 : decode bB_add 62 = .ok (.iadd, 1) := by decide +kernel
set_option maxRecDepth 100000 in
theorem dB_add_63 : decode bB_add 63 = .ok (.putfield 17, 3) := by decide +kernel
set_option maxRecDepth 100000 in
theorem dB_add_66 : decode bB_add 66 = .ok (.aload_n 0, 1) := by decide +kernel
set_option maxRecDepth 100000 in
theorem dB_add_67 : decode bB_add 67 = .ok (.dup, 1) := by decide +kernel
set_option maxRecDepth 100000 in
theorem dB_add_68 : decode bB_add 68 = .ok (.getfield 21, 3) := by decide +kernel
set_option maxRecDepth 100000 in
theorem dB_add_71 : decode bB_add 71 = .ok (.iconst 1, 1) := by decide +kernel
set_option maxRecDepth 100000 in
theorem dB_add_72 : decode bB_add 72 = .ok (.iadd, 1) := by decide +kernel
set_option maxRecDepth 100000 in
theorem dB_add_73 : decode bB_add 73 = .ok (.putfield 21, 3) := by decide +kernel
set_option maxRecDepth 100000 in
theorem dB_add_76 : decode bB_add 76 = .ok (.aload 4, 2) := by decide +kernel
set_option maxRecDepth 100000 in
theorem dB_add_78 : decode bB_add 78 = .ok (.areturn, 1) := by decide +kernel
def fB_add (σ : xS) (k1 : Nat) (a2 : Int32) (a3 : Int32) : Option (Nat × xS) :=
  if ¬ ((σ.1 6 0 1) < 0 ∨ 40 ≤ (σ.1 6 0 1).toNatClampNeg) then
  xl (x_si σ 15 ((σ.1 6 0 1).toNatClampNeg) 0 (σ.1 6 0 2)) fun s3 =>
  if k1 < 17 then
  xl (x_si s3 15 ((σ.1 6 0 1).toNatClampNeg) 1 (s3.1 17 k1 0)) fun s5 =>
  xl (x_si s5 15 ((σ.1 6 0 1).toNatClampNeg) 2 (s5.1 17 k1 1)) fun s6 =>
  xl (x_si s6 15 ((σ.1 6 0 1).toNatClampNeg) 3 a2) fun s7 =>
  xl (x_si s7 15 ((σ.1 6 0 1).toNatClampNeg) 4 a3) fun s8 =>
  xl (x_si s8 15 ((σ.1 6 0 1).toNatClampNeg) 5 0) fun s9 =>
  xl (x_si s9 6 0 1 ((s9.1 6 0 1) + 1)) fun s10 =>
  xl (x_si s10 6 0 2 ((s10.1 6 0 2) + 1)) fun s11 =>
  some ((σ.1 6 0 1).toNatClampNeg, s11)
  else none
  else none
set_option maxHeartbeats 4000000 in
set_option maxRecDepth 100000 in
theorem cB_add (l : Launch) (E : xE) (σ : xS) (τ : yS) (k1 : Nat) (a2 : Int32) (a3 : Int32) (res : Nat × xS) (hf : fB_add σ k1 a2 a3 = some res) : xM l E yB_add bB_add 5 (some (.object "StandIns$Note")) 0 0 0 [.ref (E.2.2.1 6 0), .ref (E.2.2.1 17 k1), .int a2, .int a3] σ τ (some (.ref (E.2.2.1 15 res.1))) res.2 τ := by
  refine x_met (by decide) (Nat.le_of_ble_eq_true rfl) (fun p e R s m args below meth c A ls H locs C hw hl => ?_)
  have hl : lv_has ls 5 [(0, .ref (E.2.2.1 6 0)), (1, .ref (E.2.2.1 17 k1)), (2, .int a2), (3, .int a3)] := hl
  have hx := C.1
  have hb := C.2.1
  unfold fB_add at hf
  refine lv_aload_n hx hb dB_add_0 rfl (lv_at hl 0 rfl) ?_
  refine x_get C hw 6 0 0 (v := .ref (E.2.2.1 7 0)) at_6 rfl rfl ⟨by decide, by decide⟩ wB_11 rfl dB_add_1 ?_
  refine lv_aload_n hx hb dB_add_4 rfl (lv_at hl 0 rfl) ?_
  refine x_get C hw 6 0 1 (v := .int (σ.1 6 0 1)) at_6 rfl rfl ⟨by decide, by decide⟩ wB_17 rfl dB_add_5 ?_
  obtain ⟨g1, hf⟩ := x_g hf
  refine x_ald7 C hw g1 dB_add_8 ?_
  have g2 := x_lt g1
  refine lv_astore (lv' := [(4, .ref (E.2.2.1 15 ((σ.1 6 0 1).toNatClampNeg))), (0, .ref (E.2.2.1 6 0)), (1, .ref (E.2.2.1 17 k1)), (2, .int a2), (3, .int a3)]) hx hb dB_add_9 hl (by decide) rfl (fun ls hl => ?_)
  refine lv_aload hx hb dB_add_11 (lv_at hl 0 rfl) ?_
  refine lv_aload_n hx hb dB_add_13 rfl (lv_at hl 1 rfl) ?_
  refine x_get C hw 6 0 2 (v := .int (σ.1 6 0 2)) at_6 rfl rfl ⟨by decide, by decide⟩ wB_21 rfl dB_add_14 ?_
  refine x_putiN C hw 15 ((σ.1 6 0 1).toNatClampNeg) 0 (at_15 g2) rfl rfl rfl ⟨rfl, rfl⟩ ⟨by decide, by decide⟩ (Nat.le_of_ble_eq_true rfl) wB_25 dB_add_17 (fun H locs hw => ?_)
  obtain ⟨s3, es3, hf⟩ := x_l hf
  rw [← es3] at hw
  refine lv_aload hx hb dB_add_20 (lv_at hl 0 rfl) ?_
  refine lv_aload_n hx hb dB_add_22 rfl (lv_at hl 2 rfl) ?_
  obtain ⟨g4, hf⟩ := x_g hf
  refine x_getN C hw 17 k1 0 (v := .int (s3.1 17 k1 0)) (at_17 g4) rfl rfl ⟨by decide, by decide⟩ wB_28 rfl dB_add_23 ?_
  refine x_putiN C hw 15 ((σ.1 6 0 1).toNatClampNeg) 1 (at_15 g2) rfl rfl rfl ⟨rfl, rfl⟩ ⟨by decide, by decide⟩ (Nat.le_of_ble_eq_true rfl) wB_33 dB_add_26 (fun H locs hw => ?_)
  obtain ⟨s5, es5, hf⟩ := x_l hf
  rw [← es5] at hw
  refine lv_aload hx hb dB_add_29 (lv_at hl 0 rfl) ?_
  refine lv_aload_n hx hb dB_add_31 rfl (lv_at hl 2 rfl) ?_
  refine x_getN C hw 17 k1 1 (v := .int (s5.1 17 k1 1)) (at_17 g4) rfl rfl ⟨by decide, by decide⟩ wB_34 rfl dB_add_32 ?_
  refine x_putiN C hw 15 ((σ.1 6 0 1).toNatClampNeg) 2 (at_15 g2) rfl rfl rfl ⟨rfl, rfl⟩ ⟨by decide, by decide⟩ (Nat.le_of_ble_eq_true rfl) wB_37 dB_add_35 (fun H locs hw => ?_)
  obtain ⟨s6, es6, hf⟩ := x_l hf
  rw [← es6] at hw
  refine lv_aload hx hb dB_add_38 (lv_at hl 0 rfl) ?_
  refine lv_iload_n hx hb dB_add_40 rfl (lv_at hl 3 rfl) ?_
  refine x_putiN C hw 15 ((σ.1 6 0 1).toNatClampNeg) 3 (at_15 g2) rfl rfl rfl ⟨rfl, rfl⟩ ⟨by decide, by decide⟩ (Nat.le_of_ble_eq_true rfl) wB_38 dB_add_41 (fun H locs hw => ?_)
  obtain ⟨s7, es7, hf⟩ := x_l hf
  rw [← es7] at hw
  refine lv_aload hx hb dB_add_44 (lv_at hl 0 rfl) ?_
  refine lv_iload_n hx hb dB_add_46 rfl (lv_at hl 4 rfl) ?_
  refine x_putiN C hw 15 ((σ.1 6 0 1).toNatClampNeg) 4 (at_15 g2) rfl rfl rfl ⟨rfl, rfl⟩ ⟨by decide, by decide⟩ (Nat.le_of_ble_eq_true rfl) wB_41 dB_add_47 (fun H locs hw => ?_)
  obtain ⟨s8, es8, hf⟩ := x_l hf
  rw [← es8] at hw
  refine lv_aload hx hb dB_add_50 (lv_at hl 0 rfl) ?_
  refine lv_iconst (v := 0) hx hb dB_add_52 (by decide) ?_
  refine x_putzN C hw 15 ((σ.1 6 0 1).toNatClampNeg) 5 (at_15 g2) (by decide) rfl rfl rfl ⟨rfl, rfl⟩ ⟨by decide, by decide⟩ (Nat.le_of_ble_eq_true rfl) wB_44 dB_add_53 (fun H locs hw => ?_)
  obtain ⟨s9, es9, hf⟩ := x_l hf
  rw [← es9] at hw
  refine lv_aload_n hx hb dB_add_56 rfl (lv_at hl 1 rfl) ?_
  refine lv_dup hx hb dB_add_57 rfl ?_
  refine x_get C hw 6 0 1 (v := .int (s9.1 6 0 1)) at_6 rfl rfl ⟨by decide, by decide⟩ wB_17 rfl dB_add_58 ?_
  refine lv_iconst (v := 1) hx hb dB_add_61 (by decide) ?_
  refine lv_iadd hx hb dB_add_62 ?_
  refine x_puti C hw 6 0 1 at_6 rfl rfl rfl ⟨rfl, rfl⟩ ⟨by decide, by decide⟩ (Nat.le_of_ble_eq_true rfl) wB_17 dB_add_63 (fun H locs hw => ?_)
  obtain ⟨s10, es10, hf⟩ := x_l hf
  rw [← es10] at hw
  refine lv_aload_n hx hb dB_add_66 rfl (lv_at hl 1 rfl) ?_
  refine lv_dup hx hb dB_add_67 rfl ?_
  refine x_get C hw 6 0 2 (v := .int (s10.1 6 0 2)) at_6 rfl rfl ⟨by decide, by decide⟩ wB_21 rfl dB_add_68 ?_
  refine lv_iconst (v := 1) hx hb dB_add_71 (by decide) ?_
  refine lv_iadd hx hb dB_add_72 ?_
  refine x_puti C hw 6 0 2 at_6 rfl rfl rfl ⟨rfl, rfl⟩ ⟨by decide, by decide⟩ (Nat.le_of_ble_eq_true rfl) wB_21 dB_add_73 (fun H locs hw => ?_)
  obtain ⟨s11, es11, hf⟩ := x_l hf
  rw [← es11] at hw
  refine lv_aload hx hb dB_add_76 (lv_at hl 0 rfl) ?_
  obtain rfl := Option.some.inj hf
  exact x_aret C hw (Or.inr ⟨_, rfl⟩) dB_add_78
-- StandIns tellingFor (LStandIns$Note;)I
set_option maxRecDepth 100000 in
theorem dA_tellingFor_0 : decode bA_tellingFor 0 = .ok (.aload_n 0, 1) := by decide +kernel
set_option maxRecDepth 100000 in
theorem dA_tellingFor_1 : decode bA_tellingFor 1 = .ok (.getfield 53, 3) := by decide +kernel
set_option maxRecDepth 100000 in
theorem dA_tellingFor_4 : decode bA_tellingFor 4 = .ok (.iconst 1, 1) := by decide +kernel
set_option maxRecDepth 100000 in
theorem dA_tellingFor_5 : decode bA_tellingFor 5 = .ok (.isub, 1) := by decide +kernel
set_option maxRecDepth 100000 in
theorem dA_tellingFor_6 : decode bA_tellingFor 6 = .ok (.istore_n 2, 1) := by decide +kernel
set_option maxRecDepth 100000 in
theorem dA_tellingFor_7 : decode bA_tellingFor 7 = .ok (.iload_n 2, 1) := by decide +kernel
set_option maxRecDepth 100000 in
theorem dA_tellingFor_8 : decode bA_tellingFor 8 = .ok (.ifCond .lt 42, 3) := by decide +kernel
set_option maxRecDepth 100000 in
theorem dA_tellingFor_11 : decode bA_tellingFor 11 = .ok (.aload_n 0, 1) := by decide +kernel
set_option maxRecDepth 100000 in
theorem dA_tellingFor_12 : decode bA_tellingFor 12 = .ok (.getfield 49, 3) := by decide +kernel
set_option maxRecDepth 100000 in
theorem dA_tellingFor_15 : decode bA_tellingFor 15 = .ok (.iload_n 2, 1) := by decide +kernel
set_option maxRecDepth 100000 in
theorem dA_tellingFor_16 : decode bA_tellingFor 16 = .ok (.aaload, 1) := by decide +kernel
set_option maxRecDepth 100000 in
theorem dA_tellingFor_17 : decode bA_tellingFor 17 = .ok (.getfield 211, 3) := by decide +kernel
set_option maxRecDepth 100000 in
theorem dA_tellingFor_20 : decode bA_tellingFor 20 = .ok (.getfield 214, 3) := by decide +kernel
set_option maxRecDepth 100000 in
theorem dA_tellingFor_23 : decode bA_tellingFor 23 = .ok (.ifCond .le 21, 3) := by decide +kernel
set_option maxRecDepth 100000 in
theorem dA_tellingFor_26 : decode bA_tellingFor 26 = .ok (.aload_n 0, 1) := by decide +kernel
set_option maxRecDepth 100000 in
theorem dA_tellingFor_27 : decode bA_tellingFor 27 = .ok (.getfield 49, 3) := by decide +kernel
set_option maxRecDepth 100000 in
theorem dA_tellingFor_30 : decode bA_tellingFor 30 = .ok (.iload_n 2, 1) := by decide +kernel
set_option maxRecDepth 100000 in
theorem dA_tellingFor_31 : decode bA_tellingFor 31 = .ok (.aaload, 1) := by decide +kernel
set_option maxRecDepth 100000 in
theorem dA_tellingFor_32 : decode bA_tellingFor 32 = .ok (.getfield 249, 3) := by decide +kernel
set_option maxRecDepth 100000 in
theorem dA_tellingFor_35 : decode bA_tellingFor 35 = .ok (.aload_n 1, 1) := by decide +kernel
set_option maxRecDepth 100000 in
theorem dA_tellingFor_36 : decode bA_tellingFor 36 = .ok (.invokevirtual 299, 3) := by decide +kernel
set_option maxRecDepth 100000 in
theorem dA_tellingFor_39 : decode bA_tellingFor 39 = .ok (.ifCond .eq 5, 3) := by decide +kernel
set_option maxRecDepth 100000 in
theorem dA_tellingFor_42 : decode bA_tellingFor 42 = .ok (.iload_n 2, 1) := by decide +kernel
set_option maxRecDepth 100000 in
theorem dA_tellingFor_43 : decode bA_tellingFor 43 = .ok (.ireturn, 1) := by decide +kernel
set_option maxRecDepth 100000 in
theorem dA_tellingFor_44 : decode bA_tellingFor 44 = .ok (.iinc 2 (-1), 3) := by decide +kernel
set_option maxRecDepth 100000 in
theorem dA_tellingFor_47 : decode bA_tellingFor 47 = .ok (.goto (-40), 3) := by decide +kernel
set_option maxRecDepth 100000 in
theorem dA_tellingFor_50 : decode bA_tellingFor 50 = .ok (.iconst (-1), 1) := by decide +kernel
set_option maxRecDepth 100000 in
theorem dA_tellingFor_51 : decode bA_tellingFor 51 = .ok (.ireturn, 1) := by decide +kernel
def fA_tellingFor_44 (N : Nat) (rec7 : Nat → Int32 → Option (Int32)) (σ : xS) (k1 : Nat) (a2 : Int32) : Option (Int32) :=
  rec7 k1 (a2 + (-1))
def fA_tellingFor_7b (N : Nat) (rec7 : Nat → Int32 → Option (Int32)) (σ : xS) (k1 : Nat) (a2 : Int32) : Option (Int32) :=
  if a2 < 0 then
  (some (-1))
  else
  (if ¬ (a2 < 0 ∨ 16 ≤ a2.toNatClampNeg) then
  if a2.toNatClampNeg < 17 then
  if (σ.1 18 a2.toNatClampNeg 2) ≤ 0 then
  (fA_tellingFor_44 N rec7 σ k1 a2)
  else
  (xp (fP_matches σ a2.toNatClampNeg k1) fun r15 =>
  if r15 = 0 then
  (fA_tellingFor_44 N rec7 σ k1 a2)
  else
  (some a2))
  else none
  else none)
def fA_tellingFor_7 (N : Nat) (σ : xS) : Nat → Nat → Int32 → Option (Int32)
  | 0, _, _ => none
  | n + 1, k1, a2 => fA_tellingFor_7b N (fA_tellingFor_7 N σ n) σ k1 a2
def fA_tellingFor (N : Nat) (σ : xS) (k1 : Nat) : Option (Int32) :=
  fA_tellingFor_7 N σ N k1 ((σ.1 0 0 8) - 1)
set_option maxHeartbeats 4000000 in
set_option maxRecDepth 100000 in
theorem wA_tellingFor_44 {p : Program} {l : Launch} {e : Env} {R : Room} {s : State} {m : MethodId} {args : Array Value} {below : List Frame} {meth : Method} {c : Code} {E : xE} {A : Nat → Prop} {τ : yS} (C : xC p s m args meth c R E A bA_tellingFor 3 yA_tellingFor (some .int) 11 0 0) (N : Nat) (σ : xS) (rec7 : Nat → Int32 → Option (Int32)) (hrec7 : ∀ (k1 : Nat) (a2 : Int32) (res : Int32), rec7 k1 a2 = some res → ∀ (H : Heap) (locs : List Loc) (ls : Array Slot), xW E A s σ τ H locs → lv_has ls 3 [(0, .ref (E.2.2.1 0 0)), (1, .ref (E.2.2.1 15 k1)), (2, .int a2)] → W p l e R s m args below meth c H locs 0 0 (MQ below (xQ E A (some (.int res)) σ τ) args s 0 0 A) (F0 m 7 ls [])) (k1 : Nat) (a2 : Int32) (res : Int32) (hf : fA_tellingFor_44 N rec7 σ k1 a2 = some res) (H : Heap) (locs : List Loc) (ls : Array Slot) (hw : xW E A s σ τ H locs) (hl : lv_has ls 3 [(0, .ref (E.2.2.1 0 0)), (1, .ref (E.2.2.1 15 k1)), (2, .int a2)]) : W p l e R s m args below meth c H locs 0 0 (MQ below (xQ E A (some (.int res)) σ τ) args s 0 0 A) (F0 m 44 ls []) := by
  have hx := C.1
  have hb := C.2.1
  unfold fA_tellingFor_44 at hf
  refine lv_iinc (v := a2 + (-1)) (lv' := [(2, .int (a2 + (-1))), (0, .ref (E.2.2.1 0 0)), (1, .ref (E.2.2.1 15 k1))]) hx hb dA_tellingFor_44 hl (k := 2) rfl rfl (by decide) rfl (fun ls hl => ?_)
  refine lv_goto (tgt := 7) hx hb dA_tellingFor_47 (by decide) ?_
  exact hrec7 k1 (a2 + (-1)) res hf H locs ls hw (lv_sub hl [1, 2, 0] rfl)
set_option maxHeartbeats 4000000 in
set_option maxRecDepth 100000 in
theorem wA_tellingFor_7b {p : Program} {l : Launch} {e : Env} {R : Room} {s : State} {m : MethodId} {args : Array Value} {below : List Frame} {meth : Method} {c : Code} {E : xE} {A : Nat → Prop} {τ : yS} (C : xC p s m args meth c R E A bA_tellingFor 3 yA_tellingFor (some .int) 11 0 0) (N : Nat) (σ : xS) (rec7 : Nat → Int32 → Option (Int32)) (hrec7 : ∀ (k1 : Nat) (a2 : Int32) (res : Int32), rec7 k1 a2 = some res → ∀ (H : Heap) (locs : List Loc) (ls : Array Slot), xW E A s σ τ H locs → lv_has ls 3 [(0, .ref (E.2.2.1 0 0)), (1, .ref (E.2.2.1 15 k1)), (2, .int a2)] → W p l e R s m args below meth c H locs 0 0 (MQ below (xQ E A (some (.int res)) σ τ) args s 0 0 A) (F0 m 7 ls [])) (k1 : Nat) (a2 : Int32) (res : Int32) (hf : fA_tellingFor_7b N rec7 σ k1 a2 = some res) (H : Heap) (locs : List Loc) (ls : Array Slot) (hw : xW E A s σ τ H locs) (hl : lv_has ls 3 [(0, .ref (E.2.2.1 0 0)), (1, .ref (E.2.2.1 15 k1)), (2, .int a2)]) : W p l e R s m args below meth c H locs 0 0 (MQ below (xQ E A (some (.int res)) σ τ) args s 0 0 A) (F0 m 7 ls []) := by
  have hx := C.1
  have hb := C.2.1
  unfold fA_tellingFor_7b at hf
  refine lv_iload_n hx hb dA_tellingFor_7 rfl (lv_at hl 2 rfl) ?_
  refine lv_if_lt (tgt := 50) hx hb dA_tellingFor_8 (by decide) (fun c9 => ?_) (fun c9 => ?_)
  · replace hf := x_ip c9 hf
    refine lv_iconst (v := (-1)) hx hb dA_tellingFor_50 (by decide) ?_
    obtain rfl := Option.some.inj hf
    exact x_iret C hw dA_tellingFor_51
  · replace hf := x_in c9 hf
    refine lv_aload_n hx hb dA_tellingFor_11 rfl (lv_at hl 0 rfl) ?_
    refine x_get C hw 0 0 7 (v := .ref (E.2.2.1 8 0)) at_0 rfl rfl ⟨by decide, by decide⟩ wA_49 rfl dA_tellingFor_12 ?_
    refine lv_iload_n hx hb dA_tellingFor_15 rfl (lv_at hl 2 rfl) ?_
    obtain ⟨g10, hf⟩ := x_g hf
    refine x_ald8 C hw g10 dA_tellingFor_16 ?_
    have g11 := x_lt g10
    refine x_getN C hw 16 a2.toNatClampNeg 1 (v := .ref (E.2.2.1 18 a2.toNatClampNeg)) (at_16 g11) rfl rfl ⟨by decide, by decide⟩ wA_211 rfl dA_tellingFor_17 ?_
    obtain ⟨g12, hf⟩ := x_g hf
    refine x_getN C hw 18 a2.toNatClampNeg 2 (v := .int (σ.1 18 a2.toNatClampNeg 2)) (at_18 g12) rfl rfl ⟨by decide, by decide⟩ wA_214 rfl dA_tellingFor_20 ?_
    refine lv_if_le (tgt := 44) hx hb dA_tellingFor_23 (by decide) (fun c13 => ?_) (fun c13 => ?_)
    · replace hf := x_ip c13 hf
      exact wA_tellingFor_44 C N σ rec7 hrec7 k1 a2 res hf H locs ls hw (lv_sub hl [0, 1, 2] rfl)
    · replace hf := x_in c13 hf
      refine lv_aload_n hx hb dA_tellingFor_26 rfl (lv_at hl 0 rfl) ?_
      refine x_get C hw 0 0 7 (v := .ref (E.2.2.1 8 0)) at_0 rfl rfl ⟨by decide, by decide⟩ wA_49 rfl dA_tellingFor_27 ?_
      refine lv_iload_n hx hb dA_tellingFor_30 rfl (lv_at hl 2 rfl) ?_
      refine x_ald8 C hw g10 dA_tellingFor_31 ?_
      refine x_getN C hw 16 a2.toNatClampNeg 0 (v := .ref (E.2.2.1 17 a2.toNatClampNeg)) (at_16 g11) rfl rfl ⟨by decide, by decide⟩ wA_249 rfl dA_tellingFor_32 ?_
      refine lv_aload_n hx hb dA_tellingFor_35 rfl (lv_at hl 1 rfl) ?_
      obtain ⟨r15, h14, hf⟩ := x_p hf
      refine x_callVN (As := [.ref (E.2.2.1 15 k1)]) (rest := []) (st1 := [.int r15]) C hw (cP_matches l E σ τ a2.toNatClampNeg k1 r15 h14) kA_299 (x_recv C hw 17 a2.toNatClampNeg (at_17 g12) rfl rfl) (by decide) rfl rfl hl.1 (lv_room (Nat.le_of_ble_eq_true rfl)) dA_tellingFor_36 ⟨by decide, by decide⟩ rfl (fun H locs hw => ?_)
      refine lv_if_eq (tgt := 44) hx hb dA_tellingFor_39 (by decide) (fun c16 => ?_) (fun c16 => ?_)
      · replace hf := x_ip c16 hf
        exact wA_tellingFor_44 C N σ rec7 hrec7 k1 a2 res hf H locs ls hw (lv_sub hl [0, 1, 2] rfl)
      · replace hf := x_in c16 hf
        refine lv_iload_n hx hb dA_tellingFor_42 rfl (lv_at hl 2 rfl) ?_
        obtain rfl := Option.some.inj hf
        exact x_iret C hw dA_tellingFor_43
set_option maxHeartbeats 4000000 in
set_option maxRecDepth 100000 in
theorem wA_tellingFor_7 {p : Program} {l : Launch} {e : Env} {R : Room} {s : State} {m : MethodId} {args : Array Value} {below : List Frame} {meth : Method} {c : Code} {E : xE} {A : Nat → Prop} {τ : yS} (C : xC p s m args meth c R E A bA_tellingFor 3 yA_tellingFor (some .int) 11 0 0) (N : Nat) (σ : xS) (n : Nat) : ∀ (k1 : Nat) (a2 : Int32) (res : Int32), fA_tellingFor_7 N σ n k1 a2 = some res → ∀ (H : Heap) (locs : List Loc) (ls : Array Slot), xW E A s σ τ H locs → lv_has ls 3 [(0, .ref (E.2.2.1 0 0)), (1, .ref (E.2.2.1 15 k1)), (2, .int a2)] → W p l e R s m args below meth c H locs 0 0 (MQ below (xQ E A (some (.int res)) σ τ) args s 0 0 A) (F0 m 7 ls []) := by
  induction n with
  | zero => intro k1 a2 res hf; cases hf
  | succ n ih =>
    intro k1 a2 res hf H locs ls hw hl
    exact wA_tellingFor_7b C N σ (fA_tellingFor_7 N σ n) ih k1 a2 res hf H locs ls hw hl
set_option maxHeartbeats 4000000 in
set_option maxRecDepth 100000 in
theorem cA_tellingFor (l : Launch) (E : xE) (N : Nat) (σ : xS) (τ : yS) (k1 : Nat) (res : Int32) (hf : fA_tellingFor N σ k1 = some res) : xM l E yA_tellingFor bA_tellingFor 3 (some .int) 11 0 0 [.ref (E.2.2.1 0 0), .ref (E.2.2.1 15 k1)] σ τ (some (.int res)) σ τ := by
  refine x_met (by decide) (Nat.le_of_ble_eq_true rfl) (fun p e R s m args below meth c A ls H locs C hw hl => ?_)
  have hl : lv_has ls 3 [(0, .ref (E.2.2.1 0 0)), (1, .ref (E.2.2.1 15 k1))] := hl
  have hx := C.1
  have hb := C.2.1
  unfold fA_tellingFor at hf
  refine lv_aload_n hx hb dA_tellingFor_0 rfl (lv_at hl 0 rfl) ?_
  refine x_get C hw 0 0 8 (v := .int (σ.1 0 0 8)) at_0 rfl rfl ⟨by decide, by decide⟩ wA_53 rfl dA_tellingFor_1 ?_
  refine lv_iconst (v := 1) hx hb dA_tellingFor_4 (by decide) ?_
  refine lv_isub hx hb dA_tellingFor_5 ?_
  refine lv_istore_n (lv' := [(2, .int ((σ.1 0 0 8) - 1)), (0, .ref (E.2.2.1 0 0)), (1, .ref (E.2.2.1 15 k1))]) hx hb dA_tellingFor_6 rfl hl (by decide) rfl (fun ls hl => ?_)
  exact wA_tellingFor_7 C N σ N k1 ((σ.1 0 0 8) - 1) res hf H locs ls hw (lv_sub hl [1, 2, 0] rfl)
-- StandIns$Method realResult (LStandIns$Note;)I
set_option maxRecDepth 100000 in
theorem dD_realResult_0 : decode bD_realResult 0 = .ok (.aload_n 0, 1) := by decide +kernel
set_option maxRecDepth 100000 in
theorem dD_realResult_1 : decode bD_realResult 1 = .ok (.getfield 15, 3) := by decide +kernel
set_option maxRecDepth 100000 in
theorem dD_realResult_4 : decode bD_realResult 4 = .ok (.ifCond .eq 25, 3) := by decide +kernel
set_option maxRecDepth 100000 in
theorem dD_realResult_7 : decode bD_realResult 7 = .ok (.bipush 7, 2) := by decide +kernel
set_option maxRecDepth 100000 in
theorem dD_realResult_9 : decode bD_realResult 9 = .ok (.aload_n 1, 1) := by decide +kernel
set_option maxRecDepth 100000 in
theorem dD_realResult_10 : decode bD_realResult 10 = .ok (.getfield 19, 3) := by decide +kernel
set_option maxRecDepth 100000 in
theorem dD_realResult_13 : decode bD_realResult 13 = .ok (.imul, 1) := by decide +kernel
set_option maxRecDepth 100000 in
theorem dD_realResult_14 : decode bD_realResult 14 = .ok (.iconst 3, 1) := by decide +kernel
set_option maxRecDepth 100000 in
theorem dD_realResult_15 : decode bD_realResult 15 = .ok (.aload_n 1, 1) := by decide +kernel
set_option maxRecDepth 100000 in
theorem dD_realResult_16 : decode bD_realResult 16 = .ok (.getfield 24, 3) := by decide +kernel
set_option maxRecDepth 100000 in
theorem dD_realResult_19 : decode bD_realResult 19 = .ok (.imul, 1) := by decide +kernel
set_option maxRecDepth 100000 in
theorem dD_realResult_20 : decode bD_realResult 20 = .ok (.iadd, 1) := by decide +kernel
set_option maxRecDepth 100000 in
theorem dD_realResult_21 : decode bD_realResult 21 = .ok (.aload_n 1, 1) := by decide +kernel
set_option maxRecDepth 100000 in
theorem dD_realResult_22 : decode bD_realResult 22 = .ok (.getfield 27, 3) := by decide +kernel
set_option maxRecDepth 100000 in
theorem dD_realResult_25 : decode bD_realResult 25 = .ok (.isub, 1) := by decide +kernel
set_option maxRecDepth 100000 in
theorem dD_realResult_26 : decode bD_realResult 26 = .ok (.goto 4, 3) := by decide +kernel
set_option maxRecDepth 100000 in
theorem dD_realResult_29 : decode bD_realResult 29 = .ok (.iconst 0, 1) := by decide +kernel
set_option maxRecDepth 100000 in
theorem dD_realResult_30 : decode bD_realResult 30 = .ok (.ireturn, 1) := by decide +kernel
def fD_realResult (σ : xS) (k0 : Nat) (k1 : Nat) : Option (Int32) :=
  if k0 < 12 then
  if (σ.1 14 k0 1) = 0 then
  (some 0)
  else
  (if k1 < 40 then
  some (((7 * (σ.1 15 k1 2)) + (3 * (σ.1 15 k1 3))) - (σ.1 15 k1 4))
  else none)
  else none
set_option maxHeartbeats 4000000 in
set_option maxRecDepth 100000 in
theorem cD_realResult (l : Launch) (E : xE) (σ : xS) (τ : yS) (k0 : Nat) (k1 : Nat) (res : Int32) (hf : fD_realResult σ k0 k1 = some res) : xM l E yD_realResult bD_realResult 2 (some .int) 0 0 0 [.ref (E.2.2.1 14 k0), .ref (E.2.2.1 15 k1)] σ τ (some (.int res)) σ τ := by
  refine x_met (by decide) (Nat.le_of_ble_eq_true rfl) (fun p e R s m args below meth c A ls H locs C hw hl => ?_)
  have hl : lv_has ls 2 [(0, .ref (E.2.2.1 14 k0)), (1, .ref (E.2.2.1 15 k1))] := hl
  have hx := C.1
  have hb := C.2.1
  unfold fD_realResult at hf
  refine lv_aload_n hx hb dD_realResult_0 rfl (lv_at hl 0 rfl) ?_
  obtain ⟨g1, hf⟩ := x_g hf
  refine x_get C hw 14 k0 1 (v := .int (σ.1 14 k0 1)) (at_14 g1) rfl rfl ⟨by decide, by decide⟩ wD_15 rfl dD_realResult_1 ?_
  refine lv_if_eq (tgt := 29) hx hb dD_realResult_4 (by decide) (fun c2 => ?_) (fun c2 => ?_)
  · replace hf := x_ip c2 hf
    refine lv_iconst (v := 0) hx hb dD_realResult_29 (by decide) ?_
    obtain rfl := Option.some.inj hf
    exact x_iret C hw dD_realResult_30
  · replace hf := x_in c2 hf
    refine lv_bipush (v := 7) hx hb dD_realResult_7 (by decide) ?_
    refine lv_aload_n hx hb dD_realResult_9 rfl (lv_at hl 1 rfl) ?_
    obtain ⟨g3, hf⟩ := x_g hf
    refine x_getN C hw 15 k1 2 (v := .int (σ.1 15 k1 2)) (at_15 g3) rfl rfl ⟨by decide, by decide⟩ wD_19 rfl dD_realResult_10 ?_
    refine lv_imul hx hb dD_realResult_13 ?_
    refine lv_iconst (v := 3) hx hb dD_realResult_14 (by decide) ?_
    refine lv_aload_n hx hb dD_realResult_15 rfl (lv_at hl 1 rfl) ?_
    refine x_getN C hw 15 k1 3 (v := .int (σ.1 15 k1 3)) (at_15 g3) rfl rfl ⟨by decide, by decide⟩ wD_24 rfl dD_realResult_16 ?_
    refine lv_imul hx hb dD_realResult_19 ?_
    refine lv_iadd hx hb dD_realResult_20 ?_
    refine lv_aload_n hx hb dD_realResult_21 rfl (lv_at hl 1 rfl) ?_
    refine x_getN C hw 15 k1 4 (v := .int (σ.1 15 k1 4)) (at_15 g3) rfl rfl ⟨by decide, by decide⟩ wD_27 rfl dD_realResult_22 ?_
    refine lv_isub hx hb dD_realResult_25 ?_
    refine lv_goto (tgt := 30) hx hb dD_realResult_26 (by decide) ?_
    obtain rfl := Option.some.inj hf
    exact x_iret C hw dD_realResult_30
-- StandIns$Answers spokenTo (ILStandIns$Note;LStandIns$Method;)J
set_option maxRecDepth 100000 in
theorem dQ_spokenTo_0 : decode bQ_spokenTo 0 = .ok (.aload_n 0, 1) := by decide +kernel
set_option maxRecDepth 100000 in
theorem dQ_spokenTo_1 : decode bQ_spokenTo 1 = .ok (.getfield 9, 3) := by decide +kernel
set_option maxRecDepth 100000 in
theorem dQ_spokenTo_4 : decode bQ_spokenTo 4 = .ok (.iload_n 1, 1) := by decide +kernel
set_option maxRecDepth 100000 in
theorem dQ_spokenTo_5 : decode bQ_spokenTo 5 = .ok (.iaload, 1) := by decide +kernel
set_option maxRecDepth 100000 in
theorem dQ_spokenTo_6 : decode bQ_spokenTo 6 = .ok (.tableswitch 80 0 2 #[26, 45, 57], 26) := by decide +kernel
set_option maxRecDepth 100000 in
theorem dQ_spokenTo_32 : decode bQ_spokenTo 32 = .ok (.aload_n 3, 1) := by decide +kernel
set_option maxRecDepth 100000 in
theorem dQ_spokenTo_33 : decode bQ_spokenTo 33 = .ok (.getfield 32, 3) := by decide +kernel
set_option maxRecDepth 100000 in
theorem dQ_spokenTo_36 : decode bQ_spokenTo 36 = .ok (.ifCond .eq 13, 3) := by decide +kernel
set_option maxRecDepth 100000 in
theorem dQ_spokenTo_39 : decode bQ_spokenTo 39 = .ok (.aload_n 0, 1) := by decide +kernel
set_option maxRecDepth 100000 in
theorem dQ_spokenTo_40 : decode bQ_spokenTo 40 = .ok (.getfield 15, 3) := by decide +kernel
set_option maxRecDepth 100000 in
theorem dQ_spokenTo_43 : decode bQ_spokenTo 43 = .ok (.iload_n 1, 1) := by decide +kernel
set_option maxRecDepth 100000 in
theorem dQ_spokenTo_44 : decode bQ_spokenTo 44 = .ok (.iaload, 1) := by decide +kernel
set_option maxRecDepth 100000 in
theorem dQ_spokenTo_45 : decode bQ_spokenTo 45 = .ok (.i2l, 1) := by decide +kernel
set_option maxRecDepth 100000 in
theorem dQ_spokenTo_46 : decode bQ_spokenTo 46 = .ok (.goto 4, 3) := by decide +kernel
set_option maxRecDepth 100000 in
theorem dQ_spokenTo_49 : decode bQ_spokenTo 49 = .ok (.lconst 0, 1) := by decide +kernel
set_option maxRecDepth 100000 in
theorem dQ_spokenTo_50 : decode bQ_spokenTo 50 = .ok (.lreturn, 1) := by decide +kernel
set_option maxRecDepth 100000 in
theorem dQ_spokenTo_51 : decode bQ_spokenTo 51 = .ok (.ldc2_w 36, 3) := by decide +kernel
set_option maxRecDepth 100000 in
theorem dQ_spokenTo_54 : decode bQ_spokenTo 54 = .ok (.aload_n 0, 1) := by decide +kernel
set_option maxRecDepth 100000 in
theorem dQ_spokenTo_55 : decode bQ_spokenTo 55 = .ok (.getfield 15, 3) := by decide +kernel
set_option maxRecDepth 100000 in
theorem dQ_spokenTo_58 : decode bQ_spokenTo 58 = .ok (.iload_n 1, 1) := by decide +kernel
set_option maxRecDepth 100000 in
theorem dQ_spokenTo_59 : decode bQ_spokenTo 59 = .ok (.iaload, 1) := by decide +kernel
set_option maxRecDepth 100000 in
theorem dQ_spokenTo_60 : decode bQ_spokenTo 60 = .ok (.i2l, 1) := by decide +kernel
set_option maxRecDepth 100000 in
theorem dQ_spokenTo_61 : decode bQ_spokenTo 61 = .ok (.ladd, 1) := by decide +kernel
set_option maxRecDepth 100000 in
theorem dQ_spokenTo_62 : decode bQ_spokenTo 62 = .ok (.lreturn, 1) := by decide +kernel
set_option maxRecDepth 100000 in
theorem dQ_spokenTo_63 : decode bQ_spokenTo 63 = .ok (.aload_n 0, 1) := by decide +kernel
set_option maxRecDepth 100000 in
theorem dQ_spokenTo_64 : decode bQ_spokenTo 64 = .ok (.getfield 15, 3) := by decide +kernel
set_option maxRecDepth 100000 in
theorem dQ_spokenTo_67 : decode bQ_spokenTo 67 = .ok (.iload_n 1, 1) := by decide +kernel
set_option maxRecDepth 100000 in
theorem dQ_spokenTo_68 : decode bQ_spokenTo 68 = .ok (.iaload, 1) := by decide +kernel
set_option maxRecDepth 100000 in
theorem dQ_spokenTo_69 : decode bQ_spokenTo 69 = .ok (.ifCond .ne 11, 3) := by decide +kernel
set_option maxRecDepth 100000 in
theorem dQ_spokenTo_72 : decode bQ_spokenTo 72 = .ok (.aload_n 2, 1) := by decide +kernel
set_option maxRecDepth 100000 in
theorem dQ_spokenTo_73 : decode bQ_spokenTo 73 = .ok (.getfield 38, 3) := by decide +kernel
set_option maxRecDepth 100000 in
theorem dQ_spokenTo_76 : decode bQ_spokenTo 76 = .ok (.i2l, 1) := by decide +kernel
set_option maxRecDepth 100000 in
theorem dQ_spokenTo_77 : decode bQ_spokenTo 77 = .ok (.goto 8, 3) := by decide +kernel
set_option maxRecDepth 100000 in
theorem dQ_spokenTo_80 : decode bQ_spokenTo 80 = .ok (.aload_n 2, 1) := by decide +kernel
set_option maxRecDepth 100000 in
theorem dQ_spokenTo_81 : decode bQ_spokenTo 81 = .ok (.getfield 43, 3) := by decide +kernel
set_option maxRecDepth 100000 in
theorem dQ_spokenTo_84 : decode bQ_spokenTo 84 = .ok (.i2l, 1) := by decide +kernel
set_option maxRecDepth 100000 in
theorem dQ_spokenTo_85 : decode bQ_spokenTo 85 = .ok (.lreturn, 1) := by decide +kernel
set_option maxRecDepth 100000 in
theorem dQ_spokenTo_86 : decode bQ_spokenTo 86 = .ok (.aload_n 3, 1) := by decide +kernel
set_option maxRecDepth 100000 in
theorem dQ_spokenTo_87 : decode bQ_spokenTo 87 = .ok (.aload_n 2, 1) := by decide +kernel
set_option maxRecDepth 100000 in
theorem dQ_spokenTo_88 : decode bQ_spokenTo 88 = .ok (.invokevirtual 46, 3) := by decide +kernel
set_option maxRecDepth 100000 in
theorem dQ_spokenTo_91 : decode bQ_spokenTo 91 = .ok (.i2l, 1) := by decide +kernel
set_option maxRecDepth 100000 in
theorem dQ_spokenTo_92 : decode bQ_spokenTo 92 = .ok (.lreturn, 1) := by decide +kernel
def fQ_spokenTo (σ : xS) (k0 : Nat) (a1 : Int32) (k2 : Nat) (k3 : Nat) : Option (Int64) :=
  if k0 < 17 then
  if ¬ (a1 < 0 ∨ 4 ≤ a1.toNatClampNeg) then
  if (σ.1 19 k0 a1.toNatClampNeg) = 0 then
  (if k3 < 12 then
  if (σ.1 14 k3 1) = 0 then
  (some 0)
  else
  (some ((σ.1 20 k0 a1.toNatClampNeg).toInt64))
  else none)
  else
  (if (σ.1 19 k0 a1.toNatClampNeg) = 1 then
  (some (1099511627776 + ((σ.1 20 k0 a1.toNatClampNeg).toInt64)))
  else
  (if (σ.1 19 k0 a1.toNatClampNeg) = 2 then
  (if (σ.1 20 k0 a1.toNatClampNeg) = 0 then
  (if k2 < 40 then
  some ((σ.1 15 k2 3).toInt64)
  else none)
  else
  (if k2 < 40 then
  some ((σ.1 15 k2 4).toInt64)
  else none))
  else
  (xp (fD_realResult σ k3 k2) fun r12 =>
  if k3 < 12 then
  some r12.toInt64
  else none)))
  else none
  else none
set_option maxHeartbeats 4000000 in
set_option maxRecDepth 100000 in
theorem cQ_spokenTo (l : Launch) (E : xE) (σ : xS) (τ : yS) (k0 : Nat) (a1 : Int32) (k2 : Nat) (k3 : Nat) (res : Int64) (hf : fQ_spokenTo σ k0 a1 k2 k3 = some res) : xM l E yQ_spokenTo bQ_spokenTo 4 (some .long) 1 0 0 [.ref (E.2.2.1 18 k0), .int a1, .ref (E.2.2.1 15 k2), .ref (E.2.2.1 14 k3)] σ τ (some (.long res)) σ τ := by
  refine x_met (by decide) (Nat.le_of_ble_eq_true rfl) (fun p e R s m args below meth c A ls H locs C hw hl => ?_)
  have hl : lv_has ls 4 [(0, .ref (E.2.2.1 18 k0)), (1, .int a1), (2, .ref (E.2.2.1 15 k2)), (3, .ref (E.2.2.1 14 k3))] := hl
  have hx := C.1
  have hb := C.2.1
  unfold fQ_spokenTo at hf
  refine lv_aload_n hx hb dQ_spokenTo_0 rfl (lv_at hl 0 rfl) ?_
  obtain ⟨g1, hf⟩ := x_g hf
  refine x_get C hw 18 k0 0 (v := .ref (E.2.2.1 19 k0)) (at_18 g1) rfl rfl ⟨by decide, by decide⟩ wQ_9 rfl dQ_spokenTo_1 ?_
  refine lv_iload_n hx hb dQ_spokenTo_4 rfl (lv_at hl 1 rfl) ?_
  obtain ⟨g2, hf⟩ := x_g hf
  refine x_ild C hw 19 k0 (at_19 g1) rfl g2 dQ_spokenTo_5 ?_
  by_cases c3 : (σ.1 19 k0 a1.toNatClampNeg) = 0
  · replace hf := x_ip c3 hf
    refine lv_tableIn (tgt := 32) hx hb dQ_spokenTo_6 (by rw [c3]; decide) (by rw [c3]; decide) (by rw [c3]; rfl) (by decide) ?_
    refine lv_aload_n hx hb dQ_spokenTo_32 rfl (lv_at hl 3 rfl) ?_
    obtain ⟨g4, hf⟩ := x_g hf
    refine x_getN C hw 14 k3 1 (v := .int (σ.1 14 k3 1)) (at_14 g4) rfl rfl ⟨by decide, by decide⟩ wQ_32 rfl dQ_spokenTo_33 ?_
    refine lv_if_eq (tgt := 49) hx hb dQ_spokenTo_36 (by decide) (fun c5 => ?_) (fun c5 => ?_)
    · replace hf := x_ip c5 hf
      refine lv_lconst (v := 0) hx hb dQ_spokenTo_49 (by decide) ?_
      obtain rfl := Option.some.inj hf
      exact x_lret C hw dQ_spokenTo_50
    · replace hf := x_in c5 hf
      refine lv_aload_n hx hb dQ_spokenTo_39 rfl (lv_at hl 0 rfl) ?_
      refine x_get C hw 18 k0 1 (v := .ref (E.2.2.1 20 k0)) (at_18 g1) rfl rfl ⟨by decide, by decide⟩ wQ_15 rfl dQ_spokenTo_40 ?_
      refine lv_iload_n hx hb dQ_spokenTo_43 rfl (lv_at hl 1 rfl) ?_
      refine x_ild C hw 20 k0 (at_20 g1) rfl g2 dQ_spokenTo_44 ?_
      refine lv_i2l hx hb dQ_spokenTo_45 rfl ?_
      refine lv_goto (tgt := 50) hx hb dQ_spokenTo_46 (by decide) ?_
      obtain rfl := Option.some.inj hf
      exact x_lret C hw dQ_spokenTo_50
  · replace hf := x_in c3 hf
    by_cases c6 : (σ.1 19 k0 a1.toNatClampNeg) = 1
    · replace hf := x_ip c6 hf
      refine lv_tableIn (tgt := 51) hx hb dQ_spokenTo_6 (by rw [c6]; decide) (by rw [c6]; decide) (by rw [c6]; rfl) (by decide) ?_
      refine lv_ldc2 (v := 1099511627776) hx hb C.own (C.tb wQ_36) dQ_spokenTo_51 ?_
      refine lv_aload_n hx hb dQ_spokenTo_54 rfl (lv_at hl 0 rfl) ?_
      refine x_get C hw 18 k0 1 (v := .ref (E.2.2.1 20 k0)) (at_18 g1) rfl rfl ⟨by decide, by decide⟩ wQ_15 rfl dQ_spokenTo_55 ?_
      refine lv_iload_n hx hb dQ_spokenTo_58 rfl (lv_at hl 1 rfl) ?_
      refine x_ild C hw 20 k0 (at_20 g1) rfl g2 dQ_spokenTo_59 ?_
      refine lv_i2l hx hb dQ_spokenTo_60 rfl ?_
      refine lv_ladd hx hb dQ_spokenTo_61 ?_
      obtain rfl := Option.some.inj hf
      exact x_lret C hw dQ_spokenTo_62
    · replace hf := x_in c6 hf
      by_cases c7 : (σ.1 19 k0 a1.toNatClampNeg) = 2
      · replace hf := x_ip c7 hf
        refine lv_tableIn (tgt := 63) hx hb dQ_spokenTo_6 (by rw [c7]; decide) (by rw [c7]; decide) (by rw [c7]; rfl) (by decide) ?_
        refine lv_aload_n hx hb dQ_spokenTo_63 rfl (lv_at hl 0 rfl) ?_
        refine x_get C hw 18 k0 1 (v := .ref (E.2.2.1 20 k0)) (at_18 g1) rfl rfl ⟨by decide, by decide⟩ wQ_15 rfl dQ_spokenTo_64 ?_
        refine lv_iload_n hx hb dQ_spokenTo_67 rfl (lv_at hl 1 rfl) ?_
        refine x_ild C hw 20 k0 (at_20 g1) rfl g2 dQ_spokenTo_68 ?_
        refine lv_if_ne (tgt := 80) hx hb dQ_spokenTo_69 (by decide) (fun c8 => ?_) (fun c8 => ?_)
        · replace hf := x_in c8 hf
          refine lv_aload_n hx hb dQ_spokenTo_80 rfl (lv_at hl 2 rfl) ?_
          obtain ⟨g9, hf⟩ := x_g hf
          refine x_getN C hw 15 k2 4 (v := .int (σ.1 15 k2 4)) (at_15 g9) rfl rfl ⟨by decide, by decide⟩ wQ_43 rfl dQ_spokenTo_81 ?_
          refine lv_i2l hx hb dQ_spokenTo_84 rfl ?_
          obtain rfl := Option.some.inj hf
          exact x_lret C hw dQ_spokenTo_85
        · replace hf := x_ip c8 hf
          refine lv_aload_n hx hb dQ_spokenTo_72 rfl (lv_at hl 2 rfl) ?_
          obtain ⟨g10, hf⟩ := x_g hf
          refine x_getN C hw 15 k2 3 (v := .int (σ.1 15 k2 3)) (at_15 g10) rfl rfl ⟨by decide, by decide⟩ wQ_38 rfl dQ_spokenTo_73 ?_
          refine lv_i2l hx hb dQ_spokenTo_76 rfl ?_
          refine lv_goto (tgt := 85) hx hb dQ_spokenTo_77 (by decide) ?_
          obtain rfl := Option.some.inj hf
          exact x_lret C hw dQ_spokenTo_85
      · replace hf := x_in c7 hf
        refine lv_tableOut (tgt := 86) hx hb dQ_spokenTo_6 (by have nc3 := lv_neT c3 (a := 0) (by decide); have nc6 := lv_neT c6 (a := 1) (by decide); have nc7 := lv_neT c7 (a := 2) (by decide); omega) (by decide) ?_
        refine lv_aload_n hx hb dQ_spokenTo_86 rfl (lv_at hl 3 rfl) ?_
        refine lv_aload_n hx hb dQ_spokenTo_87 rfl (lv_at hl 2 rfl) ?_
        obtain ⟨r12, h11, hf⟩ := x_p hf
        obtain ⟨g13, hf⟩ := x_g hf
        refine x_callVN (As := [.ref (E.2.2.1 15 k2)]) (rest := []) (st1 := [.int r12]) C hw (cD_realResult l E σ τ k3 k2 r12 h11) kQ_46 (x_recv C hw 14 k3 (at_14 g13) rfl rfl) (by decide) rfl rfl hl.1 (lv_room (Nat.le_of_ble_eq_true rfl)) dQ_spokenTo_88 ⟨by decide, by decide⟩ rfl (fun H locs hw => ?_)
        refine lv_i2l hx hb dQ_spokenTo_91 rfl ?_
        obtain rfl := Option.some.inj hf
        exact x_lret C hw dQ_spokenTo_92
-- StandIns$Telling answerTo (LStandIns$Note;LStandIns$Method;)J
set_option maxRecDepth 100000 in
theorem dT_answerTo_0 : decode bT_answerTo 0 = .ok (.aload_n 0, 1) := by decide +kernel
set_option maxRecDepth 100000 in
theorem dT_answerTo_1 : decode bT_answerTo 1 = .ok (.getfield 23, 3) := by decide +kernel
set_option maxRecDepth 100000 in
theorem dT_answerTo_4 : decode bT_answerTo 4 = .ok (.istore_n 3, 1) := by decide +kernel
set_option maxRecDepth 100000 in
theorem dT_answerTo_5 : decode bT_answerTo 5 = .ok (.aload_n 0, 1) := by decide +kernel
set_option maxRecDepth 100000 in
theorem dT_answerTo_6 : decode bT_answerTo 6 = .ok (.getfield 23, 3) := by decide +kernel
set_option maxRecDepth 100000 in
theorem dT_answerTo_9 : decode bT_answerTo 9 = .ok (.aload_n 0, 1) := by decide +kernel
set_option maxRecDepth 100000 in
theorem dT_answerTo_10 : decode bT_answerTo 10 = .ok (.getfield 19, 3) := by decide +kernel
set_option maxRecDepth 100000 in
theorem dT_answerTo_13 : decode bT_answerTo 13 = .ok (.getfield 34, 3) := by decide +kernel
set_option maxRecDepth 100000 in
theorem dT_answerTo_16 : decode bT_answerTo 16 = .ok (.iconst 1, 1) := by decide +kernel
set_option maxRecDepth 100000 in
theorem dT_answerTo_17 : decode bT_answerTo 17 = .ok (.isub, 1) := by decide +kernel
set_option maxRecDepth 100000 in
theorem dT_answerTo_18 : decode bT_answerTo 18 = .ok (.if_icmp .ge 13, 3) := by decide +kernel
set_option maxRecDepth 100000 in
theorem dT_answerTo_21 : decode bT_answerTo 21 = .ok (.aload_n 0, 1) := by decide +kernel
set_option maxRecDepth 100000 in
theorem dT_answerTo_22 : decode bT_answerTo 22 = .ok (.dup, 1) := by decide +kernel
set_option maxRecDepth 100000 in
theorem dT_answerTo_23 : decode bT_answerTo 23 = .ok (.getfield 23, 3) := by decide +kernel
set_option maxRecDepth 100000 in
theorem dT_answerTo_26 : decode bT_answerTo 26 = .ok (.iconst 1, 1) := by decide +kernel
set_option maxRecDepth 100000 in
theorem dT_answerTo_27 : decode bT_answerTo 27 = .ok (.iadd, 1) := by decide +kernel
set_option maxRecDepth 100000 in
theorem dT_answerTo_28 : decode bT_answerTo 28 = .ok (.putfield 23, 3) := by decide +kernel
set_option maxRecDepth 100000 in
theorem dT_answerTo_31 : decode bT_answerTo 31 = .ok (.aload_n 0, 1) := by decide +kernel
set_option maxRecDepth 100000 in
theorem dT_answerTo_32 : decode bT_answerTo 32 = .ok (.dup, 1) := by decide +kernel
set_option maxRecDepth 100000 in
theorem dT_answerTo_33 : decode bT_answerTo 33 = .ok (.getfield 27, 3) := by decide +kernel
set_option maxRecDepth 100000 in
theorem dT_answerTo_36 : decode bT_answerTo 36 = .ok (.iconst 1, 1) := by decide +kernel
set_option maxRecDepth 100000 in
theorem dT_answerTo_37 : decode bT_answerTo 37 = .ok (.iadd, 1) := by decide +kernel
set_option maxRecDepth 100000 in
theorem dT_answerTo_38 : decode bT_answerTo 38 = .ok (.putfield 27, 3) := by decide +kernel
set_option maxRecDepth 100000 in
theorem dT_answerTo_41 : decode bT_answerTo 41 = .ok (.aload_n 0, 1) := by decide +kernel
set_option maxRecDepth 100000 in
theorem dT_answerTo_42 : decode bT_answerTo 42 = .ok (.getfield 19, 3) := by decide +kernel
set_option maxRecDepth 100000 in
theorem dT_answerTo_45 : decode bT_answerTo 45 = .ok (.iload_n 3, 1) := by decide +kernel
set_option maxRecDepth 100000 in
theorem dT_answerTo_46 : decode bT_answerTo 46 = .ok (.aload_n 1, 1) := by decide +kernel
set_option maxRecDepth 100000 in
theorem dT_answerTo_47 : decode bT_answerTo 47 = .ok (.aload_n 2, 1) := by decide +kernel
set_option maxRecDepth 100000 in
theorem dT_answerTo_48 : decode bT_answerTo 48 = .ok (.invokevirtual 37, 3) := by decide +kernel
set_option maxRecDepth 100000 in
theorem dT_answerTo_51 : decode bT_answerTo 51 = .ok (.lreturn, 1) := by decide +kernel
def fT_answerTo_31 (σ : xS) (k0 : Nat) (k1 : Nat) (k2 : Nat) (a3 : Int32) : Option (Int64 × xS) :=
  if k0 < 16 then
  xl (x_si σ 16 k0 3 ((σ.1 16 k0 3) + 1)) fun s7 =>
  xp (fQ_spokenTo s7 k0 a3 k1 k2) fun r9 =>
  if k0 < 17 then
  some (r9, s7)
  else none
  else none
def fT_answerTo (σ : xS) (k0 : Nat) (k1 : Nat) (k2 : Nat) : Option (Int64 × xS) :=
  if k0 < 16 then
  if k0 < 17 then
  if ((σ.1 18 k0 2) - 1) ≤ (σ.1 16 k0 2) then
  (fT_answerTo_31 σ k0 k1 k2 (σ.1 16 k0 2))
  else
  (xl (x_si σ 16 k0 2 ((σ.1 16 k0 2) + 1)) fun s14 =>
  fT_answerTo_31 s14 k0 k1 k2 (σ.1 16 k0 2))
  else none
  else none
set_option maxHeartbeats 4000000 in
set_option maxRecDepth 100000 in
theorem wT_answerTo_31 {p : Program} {l : Launch} {e : Env} {R : Room} {s : State} {m : MethodId} {args : Array Value} {below : List Frame} {meth : Method} {c : Code} {E : xE} {A : Nat → Prop} {τ : yS} (C : xC p s m args meth c R E A bT_answerTo 4 yT_answerTo (some .long) 2 0 0) (σ : xS) (k0 : Nat) (k1 : Nat) (k2 : Nat) (a3 : Int32) (res : Int64 × xS) (hf : fT_answerTo_31 σ k0 k1 k2 a3 = some res) (H : Heap) (locs : List Loc) (ls : Array Slot) (hw : xW E A s σ τ H locs) (hl : lv_has ls 4 [(0, .ref (E.2.2.1 16 k0)), (1, .ref (E.2.2.1 15 k1)), (2, .ref (E.2.2.1 14 k2)), (3, .int a3)]) : W p l e R s m args below meth c H locs 0 0 (MQ below (xQ E A (some (.long res.1)) res.2 τ) args s 0 0 A) (F0 m 31 ls []) := by
  have hx := C.1
  have hb := C.2.1
  unfold fT_answerTo_31 at hf
  refine lv_aload_n hx hb dT_answerTo_31 rfl (lv_at hl 0 rfl) ?_
  refine lv_dup hx hb dT_answerTo_32 rfl ?_
  obtain ⟨g6, hf⟩ := x_g hf
  refine x_get C hw 16 k0 3 (v := .int (σ.1 16 k0 3)) (at_16 g6) rfl rfl ⟨by decide, by decide⟩ wT_27 rfl dT_answerTo_33 ?_
  refine lv_iconst (v := 1) hx hb dT_answerTo_36 (by decide) ?_
  refine lv_iadd hx hb dT_answerTo_37 ?_
  refine x_puti C hw 16 k0 3 (at_16 g6) rfl rfl rfl ⟨rfl, rfl⟩ ⟨by decide, by decide⟩ (Nat.le_of_ble_eq_true rfl) wT_27 dT_answerTo_38 (fun H locs hw => ?_)
  obtain ⟨s7, es7, hf⟩ := x_l hf
  rw [← es7] at hw
  refine lv_aload_n hx hb dT_answerTo_41 rfl (lv_at hl 0 rfl) ?_
  refine x_get C hw 16 k0 1 (v := .ref (E.2.2.1 18 k0)) (at_16 g6) rfl rfl ⟨by decide, by decide⟩ wT_19 rfl dT_answerTo_42 ?_
  refine lv_iload_n hx hb dT_answerTo_45 rfl (lv_at hl 3 rfl) ?_
  refine lv_aload_n hx hb dT_answerTo_46 rfl (lv_at hl 1 rfl) ?_
  refine lv_aload_n hx hb dT_answerTo_47 rfl (lv_at hl 2 rfl) ?_
  obtain ⟨r9, h8, hf⟩ := x_p hf
  obtain ⟨g10, hf⟩ := x_g hf
  refine x_callVN (As := [.int a3, .ref (E.2.2.1 15 k1), .ref (E.2.2.1 14 k2)]) (rest := []) (st1 := [.long r9]) C hw (cQ_spokenTo l E s7 τ k0 a3 k1 k2 r9 h8) kT_37 (x_recv C hw 18 k0 (at_18 g10) rfl rfl) (by decide) rfl rfl hl.1 (lv_room (Nat.le_of_ble_eq_true rfl)) dT_answerTo_48 ⟨by decide, by decide⟩ rfl (fun H locs hw => ?_)
  obtain rfl := Option.some.inj hf
  exact x_lret C hw dT_answerTo_51
set_option maxHeartbeats 4000000 in
set_option maxRecDepth 100000 in
theorem cT_answerTo (l : Launch) (E : xE) (σ : xS) (τ : yS) (k0 : Nat) (k1 : Nat) (k2 : Nat) (res : Int64 × xS) (hf : fT_answerTo σ k0 k1 k2 = some res) : xM l E yT_answerTo bT_answerTo 4 (some .long) 2 0 0 [.ref (E.2.2.1 16 k0), .ref (E.2.2.1 15 k1), .ref (E.2.2.1 14 k2)] σ τ (some (.long res.1)) res.2 τ := by
  refine x_met (by decide) (Nat.le_of_ble_eq_true rfl) (fun p e R s m args below meth c A ls H locs C hw hl => ?_)
  have hl : lv_has ls 4 [(0, .ref (E.2.2.1 16 k0)), (1, .ref (E.2.2.1 15 k1)), (2, .ref (E.2.2.1 14 k2))] := hl
  have hx := C.1
  have hb := C.2.1
  unfold fT_answerTo at hf
  refine lv_aload_n hx hb dT_answerTo_0 rfl (lv_at hl 0 rfl) ?_
  obtain ⟨g11, hf⟩ := x_g hf
  refine x_get C hw 16 k0 2 (v := .int (σ.1 16 k0 2)) (at_16 g11) rfl rfl ⟨by decide, by decide⟩ wT_23 rfl dT_answerTo_1 ?_
  refine lv_istore_n (lv' := [(3, .int (σ.1 16 k0 2)), (0, .ref (E.2.2.1 16 k0)), (1, .ref (E.2.2.1 15 k1)), (2, .ref (E.2.2.1 14 k2))]) hx hb dT_answerTo_4 rfl hl (by decide) rfl (fun ls hl => ?_)
  refine lv_aload_n hx hb dT_answerTo_5 rfl (lv_at hl 1 rfl) ?_
  refine x_get C hw 16 k0 2 (v := .int (σ.1 16 k0 2)) (at_16 g11) rfl rfl ⟨by decide, by decide⟩ wT_23 rfl dT_answerTo_6 ?_
  refine lv_aload_n hx hb dT_answerTo_9 rfl (lv_at hl 1 rfl) ?_
  refine x_get C hw 16 k0 1 (v := .ref (E.2.2.1 18 k0)) (at_16 g11) rfl rfl ⟨by decide, by decide⟩ wT_19 rfl dT_answerTo_10 ?_
  obtain ⟨g12, hf⟩ := x_g hf
  refine x_getN C hw 18 k0 2 (v := .int (σ.1 18 k0 2)) (at_18 g12) rfl rfl ⟨by decide, by decide⟩ wT_34 rfl dT_answerTo_13 ?_
  refine lv_iconst (v := 1) hx hb dT_answerTo_16 (by decide) ?_
  refine lv_isub hx hb dT_answerTo_17 ?_
  refine lv_icmp_ge (tgt := 31) hx hb dT_answerTo_18 (by decide) (fun c13 => ?_) (fun c13 => ?_)
  · replace hf := x_ip c13 hf
    exact wT_answerTo_31 C σ k0 k1 k2 (σ.1 16 k0 2) res hf H locs ls hw (lv_sub hl [1, 2, 3, 0] rfl)
  · replace hf := x_in c13 hf
    refine lv_aload_n hx hb dT_answerTo_21 rfl (lv_at hl 1 rfl) ?_
    refine lv_dup hx hb dT_answerTo_22 rfl ?_
    refine x_get C hw 16 k0 2 (v := .int (σ.1 16 k0 2)) (at_16 g11) rfl rfl ⟨by decide, by decide⟩ wT_23 rfl dT_answerTo_23 ?_
    refine lv_iconst (v := 1) hx hb dT_answerTo_26 (by decide) ?_
    refine lv_iadd hx hb dT_answerTo_27 ?_
    refine x_puti C hw 16 k0 2 (at_16 g11) rfl rfl rfl ⟨rfl, rfl⟩ ⟨by decide, by decide⟩ (Nat.le_of_ble_eq_true rfl) wT_23 dT_answerTo_28 (fun H locs hw => ?_)
    obtain ⟨s14, es14, hf⟩ := x_l hf
    rw [← es14] at hw
    exact wT_answerTo_31 C s14 k0 k1 k2 (σ.1 16 k0 2) res hf H locs ls hw (lv_sub hl [1, 2, 3, 0] rfl)
-- StandIns noteAndAnswer (LStandIns$Method;II)J
set_option maxRecDepth 100000 in
theorem dA_noteAndAnswer_0 : decode bA_noteAndAnswer 0 = .ok (.aload_n 0, 1) := by decide +kernel
set_option maxRecDepth 100000 in
theorem dA_noteAndAnswer_1 : decode bA_noteAndAnswer 1 = .ok (.getfield 43, 3) := by decide +kernel
set_option maxRecDepth 100000 in
theorem dA_noteAndAnswer_4 : decode bA_noteAndAnswer 4 = .ok (.aload_n 0, 1) := by decide +kernel
set_option maxRecDepth 100000 in
theorem dA_noteAndAnswer_5 : decode bA_noteAndAnswer 5 = .ok (.getfield 73, 3) := by decide +kernel
set_option maxRecDepth 100000 in
theorem dA_noteAndAnswer_8 : decode bA_noteAndAnswer 8 = .ok (.iload_n 2, 1) := by decide +kernel
set_option maxRecDepth 100000 in
theorem dA_noteAndAnswer_9 : decode bA_noteAndAnswer 9 = .ok (.iload_n 3, 1) := by decide +kernel
set_option maxRecDepth 100000 in
theorem dA_noteAndAnswer_10 : decode bA_noteAndAnswer 10 = .ok (.invokevirtual 307, 3) := by decide +kernel
set_option maxRecDepth 100000 in
theorem dA_noteAndAnswer_13 : decode bA_noteAndAnswer 13 = .ok (.astore 4, 2) := by decide +kernel
set_option maxRecDepth 100000 in
theorem dA_noteAndAnswer_15 : decode bA_noteAndAnswer 15 = .ok (.aload 4, 2) := by decide +kernel
set_option maxRecDepth 100000 in
theorem dA_noteAndAnswer_17 : decode bA_noteAndAnswer 17 = .ok (.aload_n 0, 1) := by decide +kernel
set_option maxRecDepth 100000 in
theorem dA_noteAndAnswer_18 : decode bA_noteAndAnswer 18 = .ok (.aload 4, 2) := by decide +kernel
set_option maxRecDepth 100000 in
theorem dA_noteAndAnswer_20 : decode bA_noteAndAnswer 20 = .ok (.invokevirtual 310, 3) := by decide +kernel
set_option maxRecDepth 100000 in
theorem dA_noteAndAnswer_23 : decode bA_noteAndAnswer 23 = .ok (.putfield 246, 3) := by decide +kernel
set_option maxRecDepth 100000 in
theorem dA_noteAndAnswer_26 : decode bA_noteAndAnswer 26 = .ok (.aload_n 0, 1) := by decide +kernel
set_option maxRecDepth 100000 in
theorem dA_noteAndAnswer_27 : decode bA_noteAndAnswer 27 = .ok (.iconst 1, 1) := by decide +kernel
set_option maxRecDepth 100000 in
theorem dA_noteAndAnswer_28 : decode bA_noteAndAnswer 28 = .ok (.putfield 77, 3) := by decide +kernel
set_option maxRecDepth 100000 in
theorem dA_noteAndAnswer_31 : decode bA_noteAndAnswer 31 = .ok (.aload 4, 2) := by decide +kernel
set_option maxRecDepth 100000 in
theorem dA_noteAndAnswer_33 : decode bA_noteAndAnswer 33 = .ok (.getfield 246, 3) := by decide +kernel
set_option maxRecDepth 100000 in
theorem dA_noteAndAnswer_36 : decode bA_noteAndAnswer 36 = .ok (.iconst (-1), 1) := by decide +kernel
set_option maxRecDepth 100000 in
theorem dA_noteAndAnswer_37 : decode bA_noteAndAnswer 37 = .ok (.if_icmp .eq 20, 3) := by decide +kernel
set_option maxRecDepth 100000 in
theorem dA_noteAndAnswer_40 : decode bA_noteAndAnswer 40 = .ok (.aload_n 0, 1) := by decide +kernel
set_option maxRecDepth 100000 in
theorem dA_noteAndAnswer_41 : decode bA_noteAndAnswer 41 = .ok (.getfield 49, 3) := by decide +kernel
set_option maxRecDepth 100000 in
theorem dA_noteAndAnswer_44 : decode bA_noteAndAnswer 44 = .ok (.aload 4, 2) := by decide +kernel
set_option maxRecDepth 100000 in
theorem dA_noteAndAnswer_46 : decode bA_noteAndAnswer 46 = .ok (.getfield 246, 3) := by decide +kernel
set_option maxRecDepth 100000 in
theorem dA_noteAndAnswer_49 : decode bA_noteAndAnswer 49 = .ok (.aaload, 1) := by decide +kernel
set_option maxRecDepth 100000 in
theorem dA_noteAndAnswer_50 : decode bA_noteAndAnswer 50 = .ok (.aload 4, 2) := by decide +kernel
set_option maxRecDepth 100000 in
theorem dA_noteAndAnswer_52 : decode bA_noteAndAnswer 52 = .ok (.aload_n 1, 1) := by decide +kernel
set_option maxRecDepth 100000 in
theorem dA_noteAndAnswer_53 : decode bA_noteAndAnswer 53 = .ok (.invokevirtual 314, 3) := by decide +kernel
set_option maxRecDepth 100000 in
theorem dA_noteAndAnswer_56 : decode bA_noteAndAnswer 56 = .ok (.lreturn, 1) := by decide +kernel
set_option maxRecDepth 100000 in
theorem dA_noteAndAnswer_57 : decode bA_noteAndAnswer 57 = .ok (.aload_n 0, 1) := by decide +kernel
set_option maxRecDepth 100000 in
theorem dA_noteAndAnswer_58 : decode bA_noteAndAnswer 58 = .ok (.getfield 19, 3) := by decide +kernel
set_option maxRecDepth 100000 in
theorem dA_noteAndAnswer_61 : decode bA_noteAndAnswer 61 = .ok (.aload 4, 2) := by decide +kernel
set_option maxRecDepth 100000 in
theorem dA_noteAndAnswer_63 : decode bA_noteAndAnswer 63 = .ok (.getfield 235, 3) := by decide +kernel
set_option maxRecDepth 100000 in
theorem dA_noteAndAnswer_66 : decode bA_noteAndAnswer 66 = .ok (.iaload, 1) := by decide +kernel
set_option maxRecDepth 100000 in
theorem dA_noteAndAnswer_67 : decode bA_noteAndAnswer 67 = .ok (.lookupswitch 35 #[(0, 25), (1, 27)], 25) := by decide +kernel
set_option maxRecDepth 100000 in
theorem dA_noteAndAnswer_92 : decode bA_noteAndAnswer 92 = .ok (.lconst 0, 1) := by decide +kernel
set_option maxRecDepth 100000 in
theorem dA_noteAndAnswer_93 : decode bA_noteAndAnswer 93 = .ok (.lreturn, 1) := by decide +kernel
set_option maxRecDepth 100000 in
theorem dA_noteAndAnswer_94 : decode bA_noteAndAnswer 94 = .ok (.aload_n 1, 1) := by decide +kernel
set_option maxRecDepth 100000 in
theorem dA_noteAndAnswer_95 : decode bA_noteAndAnswer 95 = .ok (.aload 4, 2) := by decide +kernel
set_option maxRecDepth 100000 in
theorem dA_noteAndAnswer_97 : decode bA_noteAndAnswer 97 = .ok (.invokevirtual 318, 3) := by decide +kernel
set_option maxRecDepth 100000 in
theorem dA_noteAndAnswer_100 : decode bA_noteAndAnswer 100 = .ok (.i2l, 1) := by decide +kernel
set_option maxRecDepth 100000 in
theorem dA_noteAndAnswer_101 : decode bA_noteAndAnswer 101 = .ok (.lreturn, 1) := by decide +kernel
set_option maxRecDepth 100000 in
theorem dA_noteAndAnswer_102 : decode bA_noteAndAnswer 102 = .ok (.ldc2_w 321, 3) := by decide +kernel
set_option maxRecDepth 100000 in
theorem dA_noteAndAnswer_105 : decode bA_noteAndAnswer 105 = .ok (.lreturn, 1) := by decide +kernel
def fA_noteAndAnswer (N : Nat) (σ : xS) (k1 : Nat) (a2 : Int32) (a3 : Int32) : Option (Int64 × xS) :=
  xb (fB_add σ 16 a2 a3) fun r2 s3 =>
  xp (fA_tellingFor N s3 r2) fun r5 =>
  if r2 < 40 then
  xl (x_si s3 15 r2 6 r5) fun s7 =>
  xl (x_si s7 0 0 12 1) fun s8 =>
  if (s8.1 15 r2 6) = (-1) then
  (if ¬ ((s8.1 15 r2 1) < 0 ∨ 6 ≤ (s8.1 15 r2 1).toNatClampNeg) then
  if (s8.1 3 0 ((s8.1 15 r2 1).toNatClampNeg)) = 0 then
  (some (0, s8))
  else
  (if (s8.1 3 0 ((s8.1 15 r2 1).toNatClampNeg)) = 1 then
  (xp (fD_realResult s8 k1 r2) fun r14 =>
  if k1 < 12 then
  some (r14.toInt64, s8)
  else none)
  else
  (some (2199023255552, s8)))
  else none)
  else
  (if ¬ ((s8.1 15 r2 6) < 0 ∨ 16 ≤ (s8.1 15 r2 6).toNatClampNeg) then
  xb (fT_answerTo s8 ((s8.1 15 r2 6).toNatClampNeg) r2 k1) fun r19 s20 =>
  some (r19, s20)
  else none)
  else none
set_option maxHeartbeats 4000000 in
set_option maxRecDepth 100000 in
theorem cA_noteAndAnswer (l : Launch) (E : xE) (N : Nat) (σ : xS) (τ : yS) (k1 : Nat) (a2 : Int32) (a3 : Int32) (res : Int64 × xS) (hf : fA_noteAndAnswer N σ k1 a2 a3 = some res) : xM l E yA_noteAndAnswer bA_noteAndAnswer 5 (some .long) 12 0 0 [.ref (E.2.2.1 0 0), .ref (E.2.2.1 14 k1), .int a2, .int a3] σ τ (some (.long res.1)) res.2 τ := by
  refine x_met (by decide) (Nat.le_of_ble_eq_true rfl) (fun p e R s m args below meth c A ls H locs C hw hl => ?_)
  have hl : lv_has ls 5 [(0, .ref (E.2.2.1 0 0)), (1, .ref (E.2.2.1 14 k1)), (2, .int a2), (3, .int a3)] := hl
  have hx := C.1
  have hb := C.2.1
  unfold fA_noteAndAnswer at hf
  refine lv_aload_n hx hb dA_noteAndAnswer_0 rfl (lv_at hl 0 rfl) ?_
  refine x_get C hw 0 0 6 (v := .ref (E.2.2.1 6 0)) at_0 rfl rfl ⟨by decide, by decide⟩ wA_43 rfl dA_noteAndAnswer_1 ?_
  refine lv_aload_n hx hb dA_noteAndAnswer_4 rfl (lv_at hl 0 rfl) ?_
  refine x_get C hw 0 0 11 (v := .ref (E.2.2.1 17 16)) at_0 rfl rfl ⟨by decide, by decide⟩ wA_73 rfl dA_noteAndAnswer_5 ?_
  refine lv_iload_n hx hb dA_noteAndAnswer_8 rfl (lv_at hl 2 rfl) ?_
  refine lv_iload_n hx hb dA_noteAndAnswer_9 rfl (lv_at hl 3 rfl) ?_
  obtain ⟨r2, s3, h1, hf⟩ := x_b hf
  refine x_callVN (As := [.ref (E.2.2.1 17 16), .int a2, .int a3]) (rest := []) (st1 := [.ref (E.2.2.1 15 r2)]) C hw (cB_add l E σ τ 16 a2 a3 (r2, s3) h1) kA_307 (x_recv C hw 6 0 at_6 rfl rfl) (by decide) rfl rfl hl.1 (lv_room (Nat.le_of_ble_eq_true rfl)) dA_noteAndAnswer_10 ⟨by decide, by decide⟩ rfl (fun H locs hw => ?_)
  refine lv_astore (lv' := [(4, .ref (E.2.2.1 15 r2)), (0, .ref (E.2.2.1 0 0)), (1, .ref (E.2.2.1 14 k1)), (2, .int a2), (3, .int a3)]) hx hb dA_noteAndAnswer_13 hl (by decide) rfl (fun ls hl => ?_)
  refine lv_aload hx hb dA_noteAndAnswer_15 (lv_at hl 0 rfl) ?_
  refine lv_aload_n hx hb dA_noteAndAnswer_17 rfl (lv_at hl 1 rfl) ?_
  refine lv_aload hx hb dA_noteAndAnswer_18 (lv_at hl 0 rfl) ?_
  obtain ⟨r5, h4, hf⟩ := x_p hf
  refine x_callV (As := [.ref (E.2.2.1 15 r2)]) (rest := [.ref (E.2.2.1 15 r2)]) (st1 := [.int r5, .ref (E.2.2.1 15 r2)]) C hw (cA_tellingFor l E N s3 τ r2 r5 h4) kA_310 (x_recv C hw 0 0 at_0 rfl rfl) (by decide) rfl rfl hl.1 (lv_room (Nat.le_of_ble_eq_true rfl)) dA_noteAndAnswer_20 ⟨by decide, by decide⟩ rfl (fun H locs hw => ?_)
  obtain ⟨g6, hf⟩ := x_g hf
  refine x_putiN C hw 15 r2 6 (at_15 g6) rfl rfl rfl ⟨rfl, rfl⟩ ⟨by decide, by decide⟩ (Nat.le_of_ble_eq_true rfl) wA_246 dA_noteAndAnswer_23 (fun H locs hw => ?_)
  obtain ⟨s7, es7, hf⟩ := x_l hf
  rw [← es7] at hw
  refine lv_aload_n hx hb dA_noteAndAnswer_26 rfl (lv_at hl 1 rfl) ?_
  refine lv_iconst (v := 1) hx hb dA_noteAndAnswer_27 (by decide) ?_
  refine x_puti C hw 0 0 12 at_0 rfl rfl rfl ⟨rfl, rfl⟩ ⟨by decide, by decide⟩ (Nat.le_of_ble_eq_true rfl) wA_77 dA_noteAndAnswer_28 (fun H locs hw => ?_)
  obtain ⟨s8, es8, hf⟩ := x_l hf
  rw [← es8] at hw
  refine lv_aload hx hb dA_noteAndAnswer_31 (lv_at hl 0 rfl) ?_
  refine x_getN C hw 15 r2 6 (v := .int (s8.1 15 r2 6)) (at_15 g6) rfl rfl ⟨by decide, by decide⟩ wA_246 rfl dA_noteAndAnswer_33 ?_
  refine lv_iconst (v := (-1)) hx hb dA_noteAndAnswer_36 (by decide) ?_
  refine lv_icmp_eq (tgt := 57) hx hb dA_noteAndAnswer_37 (by decide) (fun c9 => ?_) (fun c9 => ?_)
  · replace hf := x_ip c9 hf
    refine lv_aload_n hx hb dA_noteAndAnswer_57 rfl (lv_at hl 1 rfl) ?_
    refine x_get C hw 0 0 2 (v := .ref (E.2.2.1 3 0)) at_0 rfl rfl ⟨by decide, by decide⟩ wA_19 rfl dA_noteAndAnswer_58 ?_
    refine lv_aload hx hb dA_noteAndAnswer_61 (lv_at hl 0 rfl) ?_
    refine x_getN C hw 15 r2 1 (v := .int (s8.1 15 r2 1)) (at_15 g6) rfl rfl ⟨by decide, by decide⟩ wA_235 rfl dA_noteAndAnswer_63 ?_
    obtain ⟨g10, hf⟩ := x_g hf
    refine x_ild C hw 3 0 at_3 rfl g10 dA_noteAndAnswer_66 ?_
    by_cases c11 : (s8.1 3 0 ((s8.1 15 r2 1).toNatClampNeg)) = 0
    · replace hf := x_ip c11 hf
      refine lv_lookup (off := 25) (tgt := 92) hx hb dA_noteAndAnswer_67 rfl (by rw [c11]; first | done | rfl) (by decide) ?_
      refine lv_lconst (v := 0) hx hb dA_noteAndAnswer_92 (by decide) ?_
      obtain rfl := Option.some.inj hf
      exact x_lret C hw dA_noteAndAnswer_93
    · replace hf := x_in c11 hf
      by_cases c12 : (s8.1 3 0 ((s8.1 15 r2 1).toNatClampNeg)) = 1
      · replace hf := x_ip c12 hf
        refine lv_lookup (off := 27) (tgt := 94) hx hb dA_noteAndAnswer_67 rfl (by rw [c12]; first | done | rfl) (by decide) ?_
        refine lv_aload_n hx hb dA_noteAndAnswer_94 rfl (lv_at hl 2 rfl) ?_
        refine lv_aload hx hb dA_noteAndAnswer_95 (lv_at hl 0 rfl) ?_
        obtain ⟨r14, h13, hf⟩ := x_p hf
        obtain ⟨g15, hf⟩ := x_g hf
        refine x_callVN (As := [.ref (E.2.2.1 15 r2)]) (rest := []) (st1 := [.int r14]) C hw (cD_realResult l E s8 τ k1 r2 r14 h13) kA_318 (x_recv C hw 14 k1 (at_14 g15) rfl rfl) (by decide) rfl rfl hl.1 (lv_room (Nat.le_of_ble_eq_true rfl)) dA_noteAndAnswer_97 ⟨by decide, by decide⟩ rfl (fun H locs hw => ?_)
        refine lv_i2l hx hb dA_noteAndAnswer_100 rfl ?_
        obtain rfl := Option.some.inj hf
        exact x_lret C hw dA_noteAndAnswer_101
      · replace hf := x_in c12 hf
        refine lv_lookup (off := 35) (tgt := 102) hx hb dA_noteAndAnswer_67 rfl (by show Op.lookupswitch.offset [(0, 25), (1, 27)] _ _ = _; rw [lv_osw c11 (by decide), lv_osw c12 (by decide)]; first | done | rfl) (by decide) ?_
        refine lv_ldc2 (v := 2199023255552) hx hb C.own (C.tb wA_321) dA_noteAndAnswer_102 ?_
        obtain rfl := Option.some.inj hf
        exact x_lret C hw dA_noteAndAnswer_105
  · replace hf := x_in c9 hf
    refine lv_aload_n hx hb dA_noteAndAnswer_40 rfl (lv_at hl 1 rfl) ?_
    refine x_get C hw 0 0 7 (v := .ref (E.2.2.1 8 0)) at_0 rfl rfl ⟨by decide, by decide⟩ wA_49 rfl dA_noteAndAnswer_41 ?_
    refine lv_aload hx hb dA_noteAndAnswer_44 (lv_at hl 0 rfl) ?_
    refine x_getN C hw 15 r2 6 (v := .int (s8.1 15 r2 6)) (at_15 g6) rfl rfl ⟨by decide, by decide⟩ wA_246 rfl dA_noteAndAnswer_46 ?_
    obtain ⟨g16, hf⟩ := x_g hf
    refine x_ald8 C hw g16 dA_noteAndAnswer_49 ?_
    have g17 := x_lt g16
    refine lv_aload hx hb dA_noteAndAnswer_50 (lv_at hl 0 rfl) ?_
    refine lv_aload_n hx hb dA_noteAndAnswer_52 rfl (lv_at hl 2 rfl) ?_
    obtain ⟨r19, s20, h18, hf⟩ := x_b hf
    refine x_callVN (As := [.ref (E.2.2.1 15 r2), .ref (E.2.2.1 14 k1)]) (rest := []) (st1 := [.long r19]) C hw (cT_answerTo l E s8 τ ((s8.1 15 r2 6).toNatClampNeg) r2 k1 (r19, s20) h18) kA_314 (x_recv C hw 16 ((s8.1 15 r2 6).toNatClampNeg) (at_16 g17) rfl rfl) (by decide) rfl rfl hl.1 (lv_room (Nat.le_of_ble_eq_true rfl)) dA_noteAndAnswer_53 ⟨by decide, by decide⟩ rfl (fun H locs hw => ?_)
    obtain rfl := Option.some.inj hf
    exact x_lret C hw dA_noteAndAnswer_56
