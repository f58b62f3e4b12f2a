-- StandInsModel telling (II)I
set_option maxRecDepth 100000 in
theorem dM_telling_0 : decode bM_telling 0 = .ok (.iload_n 1, 1) := by decide +kernel
set_option maxRecDepth 100000 in
theorem dM_telling_1 : decode bM_telling 1 = .ok (.iconst 0, 1) := by decide +kernel
set_option maxRecDepth 100000 in
theorem dM_telling_2 : decode bM_telling 2 = .ok (.aload_n 0, 1) := by decide +kernel
set_option maxRecDepth 100000 in
theorem dM_telling_3 : decode bM_telling 3 = .ok (.getfield 93, 3) := by decide +kernel
set_option maxRecDepth 100000 in
theorem dM_telling_6 : decode bM_telling 6 = .ok (.iconst 1, 1) := by decide +kernel
set_option maxRecDepth 100000 in
theorem dM_telling_7 : decode bM_telling 7 = .ok (.isub, 1) := by decide +kernel
set_option maxRecDepth 100000 in
theorem dM_telling_8 : decode bM_telling 8 = .ok (.invokestatic 106, 3) := by decide +kernel
set_option maxRecDepth 100000 in
theorem dM_telling_11 : decode bM_telling 11 = .ok (.ifCond .ne 5, 3) := by decide +kernel
set_option maxRecDepth 100000 in
theorem dM_telling_14 : decode bM_telling 14 = .ok (.iconst (-1), 1) := by decide +kernel
set_option maxRecDepth 100000 in
theorem dM_telling_15 : decode bM_telling 15 = .ok (.ireturn, 1) := by decide +kernel
set_option maxRecDepth 100000 in
theorem dM_telling_16 : decode bM_telling 16 = .ok (.iload_n 2, 1) := by decide +kernel
set_option maxRecDepth 100000 in
theorem dM_telling_17 : decode bM_telling 17 = .ok (.tableswitch 78 0 4 #[35, 42, 49, 56, 63], 35) := by decide +kernel
set_option maxRecDepth 100000 in
theorem dM_telling_52 : decode bM_telling 52 = .ok (.aload_n 0, 1) := by decide +kernel
set_option maxRecDepth 100000 in
theorem dM_telling_53 : decode bM_telling 53 = .ok (.getfield 53, 3) := by decide +kernel
set_option maxRecDepth 100000 in
theorem dM_telling_56 : decode bM_telling 56 = .ok (.iload_n 1, 1) := by decide +kernel
set_option maxRecDepth 100000 in
theorem dM_telling_57 : decode bM_telling 57 = .ok (.iaload, 1) := by decide +kernel
set_option maxRecDepth 100000 in
theorem dM_telling_58 : decode bM_telling 58 = .ok (.ireturn, 1) := by decide +kernel
set_option maxRecDepth 100000 in
theorem dM_telling_59 : decode bM_telling 59 = .ok (.aload_n 0, 1) := by decide +kernel
set_option maxRecDepth 100000 in
theorem dM_telling_60 : decode bM_telling 60 = .ok (.getfield 56, 3) := by decide +kernel
set_option maxRecDepth 100000 in
theorem dM_telling_63 : decode bM_telling 63 = .ok (.iload_n 1, 1) := by decide +kernel
set_option maxRecDepth 100000 in
theorem dM_telling_64 : decode bM_telling 64 = .ok (.iaload, 1) := by decide +kernel
set_option maxRecDepth 100000 in
theorem dM_telling_65 : decode bM_telling 65 = .ok (.ireturn, 1) := by decide +kernel
set_option maxRecDepth 100000 in
theorem dM_telling_66 : decode bM_telling 66 = .ok (.aload_n 0, 1) := by decide +kernel
set_option maxRecDepth 100000 in
theorem dM_telling_67 : decode bM_telling 67 = .ok (.getfield 59, 3) := by decide +kernel
set_option maxRecDepth 100000 in
theorem dM_telling_70 : decode bM_telling 70 = .ok (.iload_n 1, 1) := by decide +kernel
set_option maxRecDepth 100000 in
theorem dM_telling_71 : decode bM_telling 71 = .ok (.iaload, 1) := by decide +kernel
set_option maxRecDepth 100000 in
theorem dM_telling_72 : decode bM_telling 72 = .ok (.ireturn, 1) := by decide +kernel
set_option maxRecDepth 100000 in
theorem dM_telling_73 : decode bM_telling 73 = .ok (.aload_n 0, 1) := by decide +kernel
set_option maxRecDepth 100000 in
theorem dM_telling_74 : decode bM_telling 74 = .ok (.getfield 62, 3) := by decide +kernel
set_option maxRecDepth 100000 in
theorem dM_telling_77 : decode bM_telling 77 = .ok (.iload_n 1, 1) := by decide +kernel
set_option maxRecDepth 100000 in
theorem dM_telling_78 : decode bM_telling 78 = .ok (.iaload, 1) := by decide +kernel
set_option maxRecDepth 100000 in
theorem dM_telling_79 : decode bM_telling 79 = .ok (.ireturn, 1) := by decide +kernel
set_option maxRecDepth 100000 in
theorem dM_telling_80 : decode bM_telling 80 = .ok (.aload_n 0, 1) := by decide +kernel
set_option maxRecDepth 100000 in
theorem dM_telling_81 : decode bM_telling 81 = .ok (.getfield 71, 3) := by decide +kernel
set_option maxRecDepth 100000 in
theorem dM_telling_84 : decode bM_telling 84 = .ok (.iload_n 1, 1) := by decide +kernel
set_option maxRecDepth 100000 in
theorem dM_telling_85 : decode bM_telling 85 = .ok (.baload, 1) := by decide +kernel
set_option maxRecDepth 100000 in
theorem dM_telling_86 : decode bM_telling 86 = .ok (.ifCond .eq 7, 3) := by decide +kernel
set_option maxRecDepth 100000 in
theorem dM_telling_89 : decode bM_telling 89 = .ok (.iconst 0, 1) := by decide +kernel
set_option maxRecDepth 100000 in
theorem dM_telling_90 : decode bM_telling 90 = .ok (.goto 4, 3) := by decide +kernel
set_option maxRecDepth 100000 in
theorem dM_telling_93 : decode bM_telling 93 = .ok (.iconst 1, 1) := by decide +kernel
set_option maxRecDepth 100000 in
theorem dM_telling_94 : decode bM_telling 94 = .ok (.ireturn, 1) := by decide +kernel
set_option maxRecDepth 100000 in
theorem dM_telling_95 : decode bM_telling 95 = .ok (.iconst (-1), 1) := by decide +kernel
set_option maxRecDepth 100000 in
theorem dM_telling_96 : decode bM_telling 96 = .ok (.ireturn, 1) := by decide +kernel
def fM_telling (τ : yS) (a1 : Int32) (a2 : Int32) : Option (Int32) :=
  if (fM_in a1 0 ((τ 30 0 29) - 1)) = 0 then
  (some (-1))
  else
  (if a2 = 0 then
  (if ¬ (a1 < 0 ∨ 16 ≤ a1.toNatClampNeg) then
  some (τ 45 0 a1.toNatClampNeg)
  else none)
  else
  (if a2 = 1 then
  (if ¬ (a1 < 0 ∨ 16 ≤ a1.toNatClampNeg) then
  some (τ 46 0 a1.toNatClampNeg)
  else none)
  else
  (if a2 = 2 then
  (if ¬ (a1 < 0 ∨ 17 ≤ a1.toNatClampNeg) then
  some (τ 47 0 a1.toNatClampNeg)
  else none)
  else
  (if a2 = 3 then
  (if ¬ (a1 < 0 ∨ 16 ≤ a1.toNatClampNeg) then
  some (τ 48 0 a1.toNatClampNeg)
  else none)
  else
  (if a2 = 4 then
  (if ¬ (a1 < 0 ∨ 16 ≤ a1.toNatClampNeg) then
  if (τ 51 0 a1.toNatClampNeg) = 0 then
  (some 1)
  else
  (some 0)
  else none)
  else
  (some (-1)))))))
set_option maxHeartbeats 4000000 in
set_option maxRecDepth 100000 in
theorem cM_telling (l : Launch) (E : xE) (τ : yS) (σ : xS) (a1 : Int32) (a2 : Int32) (res : Int32) (hf : fM_telling τ a1 a2 = some res) : xM l E yM_telling bM_telling 3 (some .int) 1 0 0 [.ref (E.2.2.1 30 0), .int a1, .int a2] σ τ (some (.int res)) σ τ := by
  refine x_met (by decide) (Nat.le_of_ble_eq_true rfl) (fun p e R s m args below meth c A ls H locs C hw hl => ?_)
  have hl : lv_has ls 3 [(0, .ref (E.2.2.1 30 0)), (1, .int a1), (2, .int a2)] := hl
  have hx := C.1
  have hb := C.2.1
  unfold fM_telling at hf
  refine lv_iload_n hx hb dM_telling_0 rfl (lv_at hl 1 rfl) ?_
  refine lv_iconst (v := 0) hx hb dM_telling_1 (by decide) ?_
  refine lv_aload_n hx hb dM_telling_2 rfl (lv_at hl 0 rfl) ?_
  refine y_get C hw 30 0 29 (v := .int (τ 30 0 29)) at_30 rfl rfl ⟨by decide, by decide⟩ wM_93 rfl dM_telling_3 ?_
  refine lv_iconst (v := 1) hx hb dM_telling_6 (by decide) ?_
  refine lv_isub hx hb dM_telling_7 ?_
  refine x_callS (As := [.int a1, .int 0, .int ((τ 30 0 29) - 1)]) (rest := []) (st1 := [.int (fM_in a1 0 ((τ 30 0 29) - 1))]) C hw (cM_in l E τ σ a1 0 ((τ 30 0 29) - 1)) kM_106 (by decide) rfl rfl hl.1 (lv_room (Nat.le_of_ble_eq_true rfl)) dM_telling_8 ⟨by decide, by decide⟩ rfl (fun H locs hw => ?_)
  refine lv_if_ne (tgt := 16) hx hb dM_telling_11 (by decide) (fun c2 => ?_) (fun c2 => ?_)
  · replace hf := x_in c2 hf
    refine lv_iload_n hx hb dM_telling_16 rfl (lv_at hl 2 rfl) ?_
    by_cases c3 : a2 = 0
    · replace hf := x_ip c3 hf
      refine lv_tableIn (tgt := 52) hx hb dM_telling_17 (by rw [c3]; decide) (by rw [c3]; decide) (by rw [c3]; rfl) (by decide) ?_
      refine lv_aload_n hx hb dM_telling_52 rfl (lv_at hl 0 rfl) ?_
      refine y_get C hw 30 0 22 (v := .ref (E.2.2.1 45 0)) at_30 rfl rfl ⟨by decide, by decide⟩ wM_53 rfl dM_telling_53 ?_
      refine lv_iload_n hx hb dM_telling_56 rfl (lv_at hl 1 rfl) ?_
      obtain ⟨g4, hf⟩ := x_g hf
      refine y_ild C hw 45 0 at_45 rfl g4 dM_telling_57 ?_
      obtain rfl := Option.some.inj hf
      exact x_iret C hw dM_telling_58
    · replace hf := x_in c3 hf
      by_cases c5 : a2 = 1
      · replace hf := x_ip c5 hf
        refine lv_tableIn (tgt := 59) hx hb dM_telling_17 (by rw [c5]; decide) (by rw [c5]; decide) (by rw [c5]; rfl) (by decide) ?_
        refine lv_aload_n hx hb dM_telling_59 rfl (lv_at hl 0 rfl) ?_
        refine y_get C hw 30 0 23 (v := .ref (E.2.2.1 46 0)) at_30 rfl rfl ⟨by decide, by decide⟩ wM_56 rfl dM_telling_60 ?_
        refine lv_iload_n hx hb dM_telling_63 rfl (lv_at hl 1 rfl) ?_
        obtain ⟨g6, hf⟩ := x_g hf
        refine y_ild C hw 46 0 at_46 rfl g6 dM_telling_64 ?_
        obtain rfl := Option.some.inj hf
        exact x_iret C hw dM_telling_65
      · replace hf := x_in c5 hf
        by_cases c7 : a2 = 2
        · replace hf := x_ip c7 hf
          refine lv_tableIn (tgt := 66) hx hb dM_telling_17 (by rw [c7]; decide) (by rw [c7]; decide) (by rw [c7]; rfl) (by decide) ?_
          refine lv_aload_n hx hb dM_telling_66 rfl (lv_at hl 0 rfl) ?_
          refine y_get C hw 30 0 24 (v := .ref (E.2.2.1 47 0)) at_30 rfl rfl ⟨by decide, by decide⟩ wM_59 rfl dM_telling_67 ?_
          refine lv_iload_n hx hb dM_telling_70 rfl (lv_at hl 1 rfl) ?_
          obtain ⟨g8, hf⟩ := x_g hf
          refine y_ild C hw 47 0 at_47 rfl g8 dM_telling_71 ?_
          obtain rfl := Option.some.inj hf
          exact x_iret C hw dM_telling_72
        · replace hf := x_in c7 hf
          by_cases c9 : a2 = 3
          · replace hf := x_ip c9 hf
            refine lv_tableIn (tgt := 73) hx hb dM_telling_17 (by rw [c9]; decide) (by rw [c9]; decide) (by rw [c9]; rfl) (by decide) ?_
            refine lv_aload_n hx hb dM_telling_73 rfl (lv_at hl 0 rfl) ?_
            refine y_get C hw 30 0 25 (v := .ref (E.2.2.1 48 0)) at_30 rfl rfl ⟨by decide, by decide⟩ wM_62 rfl dM_telling_74 ?_
            refine lv_iload_n hx hb dM_telling_77 rfl (lv_at hl 1 rfl) ?_
            obtain ⟨g10, hf⟩ := x_g hf
            refine y_ild C hw 48 0 at_48 rfl g10 dM_telling_78 ?_
            obtain rfl := Option.some.inj hf
            exact x_iret C hw dM_telling_79
          · replace hf := x_in c9 hf
            by_cases c11 : a2 = 4
            · replace hf := x_ip c11 hf
              refine lv_tableIn (tgt := 80) hx hb dM_telling_17 (by rw [c11]; decide) (by rw [c11]; decide) (by rw [c11]; rfl) (by decide) ?_
              refine lv_aload_n hx hb dM_telling_80 rfl (lv_at hl 0 rfl) ?_
              refine y_get C hw 30 0 28 (v := .ref (E.2.2.1 51 0)) at_30 rfl rfl ⟨by decide, by decide⟩ wM_71 rfl dM_telling_81 ?_
              refine lv_iload_n hx hb dM_telling_84 rfl (lv_at hl 1 rfl) ?_
              obtain ⟨g12, hf⟩ := x_g hf
              refine y_zld C hw 51 0 at_51 rfl g12 dM_telling_85 ?_
              refine lv_if_eq (tgt := 93) hx hb dM_telling_86 (by decide) (fun c13 => ?_) (fun c13 => ?_)
              · replace hf := x_ip c13 hf
                refine lv_iconst (v := 1) hx hb dM_telling_93 (by decide) ?_
                obtain rfl := Option.some.inj hf
                exact x_iret C hw dM_telling_94
              · replace hf := x_in c13 hf
                refine lv_iconst (v := 0) hx hb dM_telling_89 (by decide) ?_
                refine lv_goto (tgt := 94) hx hb dM_telling_90 (by decide) ?_
                obtain rfl := Option.some.inj hf
                exact x_iret C hw dM_telling_94
            · replace hf := x_in c11 hf
              refine lv_tableOut (tgt := 95) hx hb dM_telling_17 (by have nc3 := lv_neT c3 (a := 0) (by decide); have nc5 := lv_neT c5 (a := 1) (by decide); have nc7 := lv_neT c7 (a := 2) (by decide); have nc9 := lv_neT c9 (a := 3) (by decide); have nc11 := lv_neT c11 (a := 4) (by decide); omega) (by decide) ?_
              refine lv_iconst (v := (-1)) hx hb dM_telling_95 (by decide) ?_
              obtain rfl := Option.some.inj hf
              exact x_iret C hw dM_telling_96
  · replace hf := x_ip c2 hf
    refine lv_iconst (v := (-1)) hx hb dM_telling_14 (by decide) ?_
    obtain rfl := Option.some.inj hf
    exact x_iret C hw dM_telling_15
-- StandInsModel found (I)I
set_option maxRecDepth 100000 in
theorem dM_found_0 : decode bM_found 0 = .ok (.aload_n 0, 1) := by decide +kernel
set_option maxRecDepth 100000 in
theorem dM_found_1 : decode bM_found 1 = .ok (.getfield 186, 3) := by decide +kernel
set_option maxRecDepth 100000 in
theorem dM_found_4 : decode bM_found 4 = .ok (.ifCond .eq 17, 3) := by decide +kernel
set_option maxRecDepth 100000 in
theorem dM_found_7 : decode bM_found 7 = .ok (.iload_n 1, 1) := by decide +kernel
set_option maxRecDepth 100000 in
theorem dM_found_8 : decode bM_found 8 = .ok (.iconst 0, 1) := by decide +kernel
set_option maxRecDepth 100000 in
theorem dM_found_9 : decode bM_found 9 = .ok (.iconst 1, 1) := by decide +kernel
set_option maxRecDepth 100000 in
theorem dM_found_10 : decode bM_found 10 = .ok (.aload_n 0, 1) := by decide +kernel
set_option maxRecDepth 100000 in
theorem dM_found_11 : decode bM_found 11 = .ok (.getfield 180, 3) := by decide +kernel
set_option maxRecDepth 100000 in
theorem dM_found_14 : decode bM_found 14 = .ok (.iadd, 1) := by decide +kernel
set_option maxRecDepth 100000 in
theorem dM_found_15 : decode bM_found 15 = .ok (.invokestatic 106, 3) := by decide +kernel
set_option maxRecDepth 100000 in
theorem dM_found_18 : decode bM_found 18 = .ok (.ifCond .ne 5, 3) := by decide +kernel
set_option maxRecDepth 100000 in
theorem dM_found_21 : decode bM_found 21 = .ok (.iconst (-1), 1) := by decide +kernel
set_option maxRecDepth 100000 in
theorem dM_found_22 : decode bM_found 22 = .ok (.ireturn, 1) := by decide +kernel
set_option maxRecDepth 100000 in
theorem dM_found_23 : decode bM_found 23 = .ok (.iload_n 1, 1) := by decide +kernel
set_option maxRecDepth 100000 in
theorem dM_found_24 : decode bM_found 24 = .ok (.ifCond .ne 18, 3) := by decide +kernel
set_option maxRecDepth 100000 in
theorem dM_found_27 : decode bM_found 27 = .ok (.aload_n 0, 1) := by decide +kernel
set_option maxRecDepth 100000 in
theorem dM_found_28 : decode bM_found 28 = .ok (.getfield 193, 3) := by decide +kernel
set_option maxRecDepth 100000 in
theorem dM_found_31 : decode bM_found 31 = .ok (.ifCond .eq 7, 3) := by decide +kernel
set_option maxRecDepth 100000 in
theorem dM_found_34 : decode bM_found 34 = .ok (.iconst 1, 1) := by decide +kernel
set_option maxRecDepth 100000 in
theorem dM_found_35 : decode bM_found 35 = .ok (.goto 27, 3) := by decide +kernel
set_option maxRecDepth 100000 in
theorem dM_found_38 : decode bM_found 38 = .ok (.iconst 0, 1) := by decide +kernel
set_option maxRecDepth 100000 in
theorem dM_found_39 : decode bM_found 39 = .ok (.goto 23, 3) := by decide +kernel
set_option maxRecDepth 100000 in
theorem dM_found_42 : decode bM_found 42 = .ok (.iload_n 1, 1) := by decide +kernel
set_option maxRecDepth 100000 in
theorem dM_found_43 : decode bM_found 43 = .ok (.iconst 1, 1) := by decide +kernel
set_option maxRecDepth 100000 in
theorem dM_found_44 : decode bM_found 44 = .ok (.if_icmp .ne 10, 3) := by decide +kernel
set_option maxRecDepth 100000 in
theorem dM_found_47 : decode bM_found 47 = .ok (.aload_n 0, 1) := by decide +kernel
set_option maxRecDepth 100000 in
theorem dM_found_48 : decode bM_found 48 = .ok (.getfield 180, 3) := by decide +kernel
set_option maxRecDepth 100000 in
theorem dM_found_51 : decode bM_found 51 = .ok (.goto 11, 3) := by decide +kernel
set_option maxRecDepth 100000 in
theorem dM_found_54 : decode bM_found 54 = .ok (.aload_n 0, 1) := by decide +kernel
set_option maxRecDepth 100000 in
theorem dM_found_55 : decode bM_found 55 = .ok (.getfield 81, 3) := by decide +kernel
set_option maxRecDepth 100000 in
theorem dM_found_58 : decode bM_found 58 = .ok (.iload_n 1, 1) := by decide +kernel
set_option maxRecDepth 100000 in
theorem dM_found_59 : decode bM_found 59 = .ok (.iconst 2, 1) := by decide +kernel
set_option maxRecDepth 100000 in
theorem dM_found_60 : decode bM_found 60 = .ok (.isub, 1) := by decide +kernel
set_option maxRecDepth 100000 in
theorem dM_found_61 : decode bM_found 61 = .ok (.iaload, 1) := by decide +kernel
set_option maxRecDepth 100000 in
theorem dM_found_62 : decode bM_found 62 = .ok (.ireturn, 1) := by decide +kernel
def fM_found (τ : yS) (a1 : Int32) : Option (Int32) :=
  if (τ 30 0 37) = 0 then
  (some (-1))
  else
  (if (fM_in a1 0 (1 + (τ 30 0 35))) = 0 then
  (some (-1))
  else
  (if a1 = 0 then
  (if (τ 30 0 38) = 0 then
  (some 0)
  else
  (some 1))
  else
  (if a1 = 1 then
  (some (τ 30 0 35))
  else
  (if ¬ ((a1 - 2) < 0 ∨ 40 ≤ (a1 - 2).toNatClampNeg) then
  some (τ 53 0 ((a1 - 2).toNatClampNeg))
  else none))))
set_option maxHeartbeats 4000000 in
set_option maxRecDepth 100000 in
theorem cM_found (l : Launch) (E : xE) (τ : yS) (σ : xS) (a1 : Int32) (res : Int32) (hf : fM_found τ a1 = some res) : xM l E yM_found bM_found 2 (some .int) 1 0 0 [.ref (E.2.2.1 30 0), .int a1] σ τ (some (.int res)) σ τ := by
  refine x_met (by decide) (Nat.le_of_ble_eq_true rfl) (fun p e R s m args below meth c A ls H locs C hw hl => ?_)
  have hl : lv_has ls 2 [(0, .ref (E.2.2.1 30 0)), (1, .int a1)] := hl
  have hx := C.1
  have hb := C.2.1
  unfold fM_found at hf
  refine lv_aload_n hx hb dM_found_0 rfl (lv_at hl 0 rfl) ?_
  refine y_get C hw 30 0 37 (v := .int (τ 30 0 37)) at_30 rfl rfl ⟨by decide, by decide⟩ wM_186 rfl dM_found_1 ?_
  refine lv_if_eq (tgt := 21) hx hb dM_found_4 (by decide) (fun c1 => ?_) (fun c1 => ?_)
  · replace hf := x_ip c1 hf
    refine lv_iconst (v := (-1)) hx hb dM_found_21 (by decide) ?_
    obtain rfl := Option.some.inj hf
    exact x_iret C hw dM_found_22
  · replace hf := x_in c1 hf
    refine lv_iload_n hx hb dM_found_7 rfl (lv_at hl 1 rfl) ?_
    refine lv_iconst (v := 0) hx hb dM_found_8 (by decide) ?_
    refine lv_iconst (v := 1) hx hb dM_found_9 (by decide) ?_
    refine lv_aload_n hx hb dM_found_10 rfl (lv_at hl 0 rfl) ?_
    refine y_get C hw 30 0 35 (v := .int (τ 30 0 35)) at_30 rfl rfl ⟨by decide, by decide⟩ wM_180 rfl dM_found_11 ?_
    refine lv_iadd hx hb dM_found_14 ?_
    refine x_callS (As := [.int a1, .int 0, .int (1 + (τ 30 0 35))]) (rest := []) (st1 := [.int (fM_in a1 0 (1 + (τ 30 0 35)))]) C hw (cM_in l E τ σ a1 0 (1 + (τ 30 0 35))) kM_106 (by decide) rfl rfl hl.1 (lv_room (Nat.le_of_ble_eq_true rfl)) dM_found_15 ⟨by decide, by decide⟩ rfl (fun H locs hw => ?_)
    refine lv_if_ne (tgt := 23) hx hb dM_found_18 (by decide) (fun c3 => ?_) (fun c3 => ?_)
    · replace hf := x_in c3 hf
      refine lv_iload_n hx hb dM_found_23 rfl (lv_at hl 1 rfl) ?_
      refine lv_if_ne (tgt := 42) hx hb dM_found_24 (by decide) (fun c4 => ?_) (fun c4 => ?_)
      · replace hf := x_in c4 hf
        refine lv_iload_n hx hb dM_found_42 rfl (lv_at hl 1 rfl) ?_
        refine lv_iconst (v := 1) hx hb dM_found_43 (by decide) ?_
        refine lv_icmp_ne (tgt := 54) hx hb dM_found_44 (by decide) (fun c5 => ?_) (fun c5 => ?_)
        · replace hf := x_in c5 hf
          refine lv_aload_n hx hb dM_found_54 rfl (lv_at hl 0 rfl) ?_
          refine y_get C hw 30 0 33 (v := .ref (E.2.2.1 53 0)) at_30 rfl rfl ⟨by decide, by decide⟩ wM_81 rfl dM_found_55 ?_
          refine lv_iload_n hx hb dM_found_58 rfl (lv_at hl 1 rfl) ?_
          refine lv_iconst (v := 2) hx hb dM_found_59 (by decide) ?_
          refine lv_isub hx hb dM_found_60 ?_
          obtain ⟨g6, hf⟩ := x_g hf
          refine y_ild C hw 53 0 at_53 rfl g6 dM_found_61 ?_
          obtain rfl := Option.some.inj hf
          exact x_iret C hw dM_found_62
        · replace hf := x_ip c5 hf
          refine lv_aload_n hx hb dM_found_47 rfl (lv_at hl 0 rfl) ?_
          refine y_get C hw 30 0 35 (v := .int (τ 30 0 35)) at_30 rfl rfl ⟨by decide, by decide⟩ wM_180 rfl dM_found_48 ?_
          refine lv_goto (tgt := 62) hx hb dM_found_51 (by decide) ?_
          obtain rfl := Option.some.inj hf
          exact x_iret C hw dM_found_62
      · replace hf := x_ip c4 hf
        refine lv_aload_n hx hb dM_found_27 rfl (lv_at hl 0 rfl) ?_
        refine y_get C hw 30 0 38 (v := .int (τ 30 0 38)) at_30 rfl rfl ⟨by decide, by decide⟩ wM_193 rfl dM_found_28 ?_
        refine lv_if_eq (tgt := 38) hx hb dM_found_31 (by decide) (fun c7 => ?_) (fun c7 => ?_)
        · replace hf := x_ip c7 hf
          refine lv_iconst (v := 0) hx hb dM_found_38 (by decide) ?_
          refine lv_goto (tgt := 62) hx hb dM_found_39 (by decide) ?_
          obtain rfl := Option.some.inj hf
          exact x_iret C hw dM_found_62
        · replace hf := x_in c7 hf
          refine lv_iconst (v := 1) hx hb dM_found_34 (by decide) ?_
          refine lv_goto (tgt := 62) hx hb dM_found_35 (by decide) ?_
          obtain rfl := Option.some.inj hf
          exact x_iret C hw dM_found_62
    · replace hf := x_ip c3 hf
      refine lv_iconst (v := (-1)) hx hb dM_found_21 (by decide) ?_
      obtain rfl := Option.some.inj hf
      exact x_iret C hw dM_found_22
-- StandInsModel caught (I)I
set_option maxRecDepth 100000 in
theorem dM_caught_0 : decode bM_caught 0 = .ok (.iload_n 1, 1) := by decide +kernel
set_option maxRecDepth 100000 in
theorem dM_caught_1 : decode bM_caught 1 = .ok (.iconst 0, 1) := by decide +kernel
set_option maxRecDepth 100000 in
theorem dM_caught_2 : decode bM_caught 2 = .ok (.bipush 11, 2) := by decide +kernel
set_option maxRecDepth 100000 in
theorem dM_caught_4 : decode bM_caught 4 = .ok (.invokestatic 106, 3) := by decide +kernel
set_option maxRecDepth 100000 in
theorem dM_caught_7 : decode bM_caught 7 = .ok (.ifCond .eq 30, 3) := by decide +kernel
set_option maxRecDepth 100000 in
theorem dM_caught_10 : decode bM_caught 10 = .ok (.iload_n 1, 1) := by decide +kernel
set_option maxRecDepth 100000 in
theorem dM_caught_11 : decode bM_caught 11 = .ok (.aload_n 0, 1) := by decide +kernel
set_option maxRecDepth 100000 in
theorem dM_caught_12 : decode bM_caught 12 = .ok (.getfield 196, 3) := by decide +kernel
set_option maxRecDepth 100000 in
theorem dM_caught_15 : decode bM_caught 15 = .ok (.if_icmp .ge 22, 3) := by decide +kernel
set_option maxRecDepth 100000 in
theorem dM_caught_18 : decode bM_caught 18 = .ok (.aload_n 0, 1) := by decide +kernel
set_option maxRecDepth 100000 in
theorem dM_caught_19 : decode bM_caught 19 = .ok (.getfield 84, 3) := by decide +kernel
set_option maxRecDepth 100000 in
theorem dM_caught_22 : decode bM_caught 22 = .ok (.aload_n 0, 1) := by decide +kernel
set_option maxRecDepth 100000 in
theorem dM_caught_23 : decode bM_caught 23 = .ok (.getfield 196, 3) := by decide +kernel
set_option maxRecDepth 100000 in
theorem dM_caught_26 : decode bM_caught 26 = .ok (.iconst 1, 1) := by decide +kernel
set_option maxRecDepth 100000 in
theorem dM_caught_27 : decode bM_caught 27 = .ok (.isub, 1) := by decide +kernel
set_option maxRecDepth 100000 in
theorem dM_caught_28 : decode bM_caught 28 = .ok (.iload_n 1, 1) := by decide +kernel
set_option maxRecDepth 100000 in
theorem dM_caught_29 : decode bM_caught 29 = .ok (.isub, 1) := by decide +kernel
set_option maxRecDepth 100000 in
theorem dM_caught_30 : decode bM_caught 30 = .ok (.bipush 12, 2) := by decide +kernel
set_option maxRecDepth 100000 in
theorem dM_caught_32 : decode bM_caught 32 = .ok (.irem, 1) := by decide +kernel
set_option maxRecDepth 100000 in
theorem dM_caught_33 : decode bM_caught 33 = .ok (.iaload, 1) := by decide +kernel
set_option maxRecDepth 100000 in
theorem dM_caught_34 : decode bM_caught 34 = .ok (.goto 4, 3) := by decide +kernel
set_option maxRecDepth 100000 in
theorem dM_caught_37 : decode bM_caught 37 = .ok (.iconst (-1), 1) := by decide +kernel
set_option maxRecDepth 100000 in
theorem dM_caught_38 : decode bM_caught 38 = .ok (.ireturn, 1) := by decide +kernel
def fM_caught (τ : yS) (a1 : Int32) : Option (Int32) :=
  if (fM_in a1 0 11) = 0 then
  (some (-1))
  else
  (if (τ 30 0 36) ≤ a1 then
  (some (-1))
  else
  (if ¬ (((((τ 30 0 36) - 1) - a1) - (((τ 30 0 36) - 1) - a1) / 12 * 12) < 0 ∨ 12 ≤ ((((τ 30 0 36) - 1) - a1) - (((τ 30 0 36) - 1) - a1) / 12 * 12).toNatClampNeg) then
  some (τ 54 0 (((((τ 30 0 36) - 1) - a1) - (((τ 30 0 36) - 1) - a1) / 12 * 12).toNatClampNeg))
  else none))
set_option maxHeartbeats 4000000 in
set_option maxRecDepth 100000 in
theorem cM_caught (l : Launch) (E : xE) (τ : yS) (σ : xS) (a1 : Int32) (res : Int32) (hf : fM_caught τ a1 = some res) : xM l E yM_caught bM_caught 2 (some .int) 1 0 0 [.ref (E.2.2.1 30 0), .int a1] σ τ (some (.int res)) σ τ := by
  refine x_met (by decide) (Nat.le_of_ble_eq_true rfl) (fun p e R s m args below meth c A ls H locs C hw hl => ?_)
  have hl : lv_has ls 2 [(0, .ref (E.2.2.1 30 0)), (1, .int a1)] := hl
  have hx := C.1
  have hb := C.2.1
  unfold fM_caught at hf
  refine lv_iload_n hx hb dM_caught_0 rfl (lv_at hl 1 rfl) ?_
  refine lv_iconst (v := 0) hx hb dM_caught_1 (by decide) ?_
  refine lv_bipush (v := 11) hx hb dM_caught_2 (by decide) ?_
  refine x_callS (As := [.int a1, .int 0, .int 11]) (rest := []) (st1 := [.int (fM_in a1 0 11)]) C hw (cM_in l E τ σ a1 0 11) kM_106 (by decide) rfl rfl hl.1 (lv_room (Nat.le_of_ble_eq_true rfl)) dM_caught_4 ⟨by decide, by decide⟩ rfl (fun H locs hw => ?_)
  refine lv_if_eq (tgt := 37) hx hb dM_caught_7 (by decide) (fun c2 => ?_) (fun c2 => ?_)
  · replace hf := x_ip c2 hf
    refine lv_iconst (v := (-1)) hx hb dM_caught_37 (by decide) ?_
    obtain rfl := Option.some.inj hf
    exact x_iret C hw dM_caught_38
  · replace hf := x_in c2 hf
    refine lv_iload_n hx hb dM_caught_10 rfl (lv_at hl 1 rfl) ?_
    refine lv_aload_n hx hb dM_caught_11 rfl (lv_at hl 0 rfl) ?_
    refine y_get C hw 30 0 36 (v := .int (τ 30 0 36)) at_30 rfl rfl ⟨by decide, by decide⟩ wM_196 rfl dM_caught_12 ?_
    refine lv_icmp_ge (tgt := 37) hx hb dM_caught_15 (by decide) (fun c3 => ?_) (fun c3 => ?_)
    · replace hf := x_ip c3 hf
      refine lv_iconst (v := (-1)) hx hb dM_caught_37 (by decide) ?_
      obtain rfl := Option.some.inj hf
      exact x_iret C hw dM_caught_38
    · replace hf := x_in c3 hf
      refine lv_aload_n hx hb dM_caught_18 rfl (lv_at hl 0 rfl) ?_
      refine y_get C hw 30 0 34 (v := .ref (E.2.2.1 54 0)) at_30 rfl rfl ⟨by decide, by decide⟩ wM_84 rfl dM_caught_19 ?_
      refine lv_aload_n hx hb dM_caught_22 rfl (lv_at hl 0 rfl) ?_
      refine y_get C hw 30 0 36 (v := .int (τ 30 0 36)) at_30 rfl rfl ⟨by decide, by decide⟩ wM_196 rfl dM_caught_23 ?_
      refine lv_iconst (v := 1) hx hb dM_caught_26 (by decide) ?_
      refine lv_isub hx hb dM_caught_27 ?_
      refine lv_iload_n hx hb dM_caught_28 rfl (lv_at hl 1 rfl) ?_
      refine lv_isub hx hb dM_caught_29 ?_
      refine lv_bipush (v := 12) hx hb dM_caught_30 (by decide) ?_
      refine lv_irem hx hb dM_caught_32 (by decide) ?_
      obtain ⟨g4, hf⟩ := x_g hf
      refine y_ild C hw 54 0 at_54 rfl g4 dM_caught_33 ?_
      refine lv_goto (tgt := 38) hx hb dM_caught_34 (by decide) ?_
      obtain rfl := Option.some.inj hf
      exact x_iret C hw dM_caught_38
-- StandInsModel count (I)I
set_option maxRecDepth 100000 in
theorem dM_count_0 : decode bM_count 0 = .ok (.iconst 0, 1) := by decide +kernel
set_option maxRecDepth 100000 in
theorem dM_count_1 : decode bM_count 1 = .ok (.istore_n 2, 1) := by decide +kernel
set_option maxRecDepth 100000 in
theorem dM_count_2 : decode bM_count 2 = .ok (.iconst 0, 1) := by decide +kernel
set_option maxRecDepth 100000 in
theorem dM_count_3 : decode bM_count 3 = .ok (.istore_n 3, 1) := by decide +kernel
set_option maxRecDepth 100000 in
theorem dM_count_4 : decode bM_count 4 = .ok (.iload_n 3, 1) := by decide +kernel
set_option maxRecDepth 100000 in
theorem dM_count_5 : decode bM_count 5 = .ok (.aload_n 0, 1) := by decide +kernel
set_option maxRecDepth 100000 in
theorem dM_count_6 : decode bM_count 6 = .ok (.getfield 93, 3) := by decide +kernel
set_option maxRecDepth 100000 in
theorem dM_count_9 : decode bM_count 9 = .ok (.if_icmp .ge 30, 3) := by decide +kernel
set_option maxRecDepth 100000 in
theorem dM_count_12 : decode bM_count 12 = .ok (.aload_n 0, 1) := by decide +kernel
set_option maxRecDepth 100000 in
theorem dM_count_13 : decode bM_count 13 = .ok (.getfield 59, 3) := by decide +kernel
set_option maxRecDepth 100000 in
theorem dM_count_16 : decode bM_count 16 = .ok (.iload_n 3, 1) := by decide +kernel
set_option maxRecDepth 100000 in
theorem dM_count_17 : decode bM_count 17 = .ok (.iaload, 1) := by decide +kernel
set_option maxRecDepth 100000 in
theorem dM_count_18 : decode bM_count 18 = .ok (.ifCond .le 15, 3) := by decide +kernel
set_option maxRecDepth 100000 in
theorem dM_count_21 : decode bM_count 21 = .ok (.aload_n 0, 1) := by decide +kernel
set_option maxRecDepth 100000 in
theorem dM_count_22 : decode bM_count 22 = .ok (.getfield 62, 3) := by decide +kernel
set_option maxRecDepth 100000 in
theorem dM_count_25 : decode bM_count 25 = .ok (.iload_n 3, 1) := by decide +kernel
set_option maxRecDepth 100000 in
theorem dM_count_26 : decode bM_count 26 = .ok (.iaload, 1) := by decide +kernel
set_option maxRecDepth 100000 in
theorem dM_count_27 : decode bM_count 27 = .ok (.ifCond .ne 6, 3) := by decide +kernel
set_option maxRecDepth 100000 in
theorem dM_count_30 : decode bM_count 30 = .ok (.iinc 2 1, 3) := by decide +kernel
set_option maxRecDepth 100000 in
theorem dM_count_33 : decode bM_count 33 = .ok (.iinc 3 1, 3) := by decide +kernel
set_option maxRecDepth 100000 in
theorem dM_count_36 : decode bM_count 36 = .ok (.goto (-32), 3) := by decide +kernel
set_option maxRecDepth 100000 in
theorem dM_count_39 : decode bM_count 39 = .ok (.iload_n 1, 1) := by decide +kernel
set_option maxRecDepth 100000 in
theorem dM_count_40 : decode bM_count 40 = .ok (.tableswitch 106 0 9 #[56, 61, 66, 71, 73, 78, 83, 91, 96, 101], 56) := by decide +kernel
set_option maxRecDepth 100000 in
theorem dM_count_96 : decode bM_count 96 = .ok (.aload_n 0, 1) := by decide +kernel
set_option maxRecDepth 100000 in
theorem dM_count_97 : decode bM_count 97 = .ok (.getfield 110, 3) := by decide +kernel
set_option maxRecDepth 100000 in
theorem dM_count_100 : decode bM_count 100 = .ok (.ireturn, 1) := by decide +kernel
set_option maxRecDepth 100000 in
theorem dM_count_101 : decode bM_count 101 = .ok (.aload_n 0, 1) := by decide +kernel
set_option maxRecDepth 100000 in
theorem dM_count_102 : decode bM_count 102 = .ok (.getfield 130, 3) := by decide +kernel
set_option maxRecDepth 100000 in
theorem dM_count_105 : decode bM_count 105 = .ok (.ireturn, 1) := by decide +kernel
set_option maxRecDepth 100000 in
theorem dM_count_106 : decode bM_count 106 = .ok (.aload_n 0, 1) := by decide +kernel
set_option maxRecDepth 100000 in
theorem dM_count_107 : decode bM_count 107 = .ok (.getfield 93, 3) := by decide +kernel
set_option maxRecDepth 100000 in
theorem dM_count_110 : decode bM_count 110 = .ok (.ireturn, 1) := by decide +kernel
set_option maxRecDepth 100000 in
theorem dM_count_111 : decode bM_count 111 = .ok (.iload_n 2, 1) := by decide +kernel
set_option maxRecDepth 100000 in
theorem dM_count_112 : decode bM_count 112 = .ok (.ireturn, 1) := by decide +kernel
set_option maxRecDepth 100000 in
theorem dM_count_113 : decode bM_count 113 = .ok (.aload_n 0, 1) := by decide +kernel
set_option maxRecDepth 100000 in
theorem dM_count_114 : decode bM_count 114 = .ok (.getfield 96, 3) := by decide +kernel
set_option maxRecDepth 100000 in
theorem dM_count_117 : decode bM_count 117 = .ok (.ireturn, 1) := by decide +kernel
set_option maxRecDepth 100000 in
theorem dM_count_118 : decode bM_count 118 = .ok (.aload_n 0, 1) := by decide +kernel
set_option maxRecDepth 100000 in
theorem dM_count_119 : decode bM_count 119 = .ok (.getfield 90, 3) := by decide +kernel
set_option maxRecDepth 100000 in
theorem dM_count_122 : decode bM_count 122 = .ok (.ireturn, 1) := by decide +kernel
set_option maxRecDepth 100000 in
theorem dM_count_123 : decode bM_count 123 = .ok (.aload_n 0, 1) := by decide +kernel
set_option maxRecDepth 100000 in
theorem dM_count_124 : decode bM_count 124 = .ok (.getfield 59, 3) := by decide +kernel
set_option maxRecDepth 100000 in
theorem dM_count_127 : decode bM_count 127 = .ok (.bipush 16, 2) := by decide +kernel
set_option maxRecDepth 100000 in
theorem dM_count_129 : decode bM_count 129 = .ok (.iaload, 1) := by decide +kernel
set_option maxRecDepth 100000 in
theorem dM_count_130 : decode bM_count 130 = .ok (.ireturn, 1) := by decide +kernel
set_option maxRecDepth 100000 in
theorem dM_count_131 : decode bM_count 131 = .ok (.aload_n 0, 1) := by decide +kernel
set_option maxRecDepth 100000 in
theorem dM_count_132 : decode bM_count 132 = .ok (.getfield 196, 3) := by decide +kernel
set_option maxRecDepth 100000 in
theorem dM_count_135 : decode bM_count 135 = .ok (.ireturn, 1) := by decide +kernel
set_option maxRecDepth 100000 in
theorem dM_count_136 : decode bM_count 136 = .ok (.aload_n 0, 1) := by decide +kernel
set_option maxRecDepth 100000 in
theorem dM_count_137 : decode bM_count 137 = .ok (.getfield 74, 3) := by decide +kernel
set_option maxRecDepth 100000 in
theorem dM_count_140 : decode bM_count 140 = .ok (.ireturn, 1) := by decide +kernel
set_option maxRecDepth 100000 in
theorem dM_count_141 : decode bM_count 141 = .ok (.aload_n 0, 1) := by decide +kernel
set_option maxRecDepth 100000 in
theorem dM_count_142 : decode bM_count 142 = .ok (.getfield 99, 3) := by decide +kernel
set_option maxRecDepth 100000 in
theorem dM_count_145 : decode bM_count 145 = .ok (.ireturn, 1) := by decide +kernel
set_option maxRecDepth 100000 in
theorem dM_count_146 : decode bM_count 146 = .ok (.iconst (-1), 1) := by decide +kernel
set_option maxRecDepth 100000 in
theorem dM_count_147 : decode bM_count 147 = .ok (.ireturn, 1) := by decide +kernel
def fM_count_33 (N : Nat) (rec4 : Int32 → Int32 → Int32 → Option (Int32)) (τ : yS) (a1 : Int32) (a2 : Int32) (a3 : Int32) : Option (Int32) :=
  rec4 a1 a2 (a3 + 1)
def fM_count_4b (N : Nat) (rec4 : Int32 → Int32 → Int32 → Option (Int32)) (τ : yS) (a1 : Int32) (a2 : Int32) (a3 : Int32) : Option (Int32) :=
  if (τ 30 0 29) ≤ a3 then
  (if a1 = 0 then
  (some (τ 30 0 4))
  else
  (if a1 = 1 then
  (some (τ 30 0 20))
  else
  (if a1 = 2 then
  (some (τ 30 0 29))
  else
  (if a1 = 3 then
  (some a2)
  else
  (if a1 = 4 then
  (some (τ 30 0 8))
  else
  (if a1 = 5 then
  (some (τ 30 0 9))
  else
  (if a1 = 6 then
  (some (τ 47 0 ((16 : Int32).toNatClampNeg)))
  else
  (if a1 = 7 then
  (some (τ 30 0 36))
  else
  (if a1 = 8 then
  (some (τ 30 0 31))
  else
  (if a1 = 9 then
  (some (τ 30 0 30))
  else
  (some (-1))))))))))))
  else
  (if ¬ (a3 < 0 ∨ 17 ≤ a3.toNatClampNeg) then
  if (τ 47 0 a3.toNatClampNeg) ≤ 0 then
  (fM_count_33 N rec4 τ a1 a2 a3)
  else
  (if ¬ (a3 < 0 ∨ 16 ≤ a3.toNatClampNeg) then
  if (τ 48 0 a3.toNatClampNeg) = 0 then
  (fM_count_33 N rec4 τ a1 (a2 + 1) a3)
  else
  (fM_count_33 N rec4 τ a1 a2 a3)
  else none)
  else none)
def fM_count_4 (N : Nat) (τ : yS) : Nat → Int32 → Int32 → Int32 → Option (Int32)
  | 0, _, _, _ => none
  | n + 1, a1, a2, a3 => fM_count_4b N (fM_count_4 N τ n) τ a1 a2 a3
def fM_count (N : Nat) (τ : yS) (a1 : Int32) : Option (Int32) :=
  fM_count_4 N τ N a1 0 0
set_option maxHeartbeats 4000000 in
set_option maxRecDepth 100000 in
theorem wM_count_33 {p : Program} {l : Launch} {e : Env} {R : Room} {s : State} {m : MethodId} {args : Array Value} {below : List Frame} {meth : Method} {c : Code} {E : xE} {A : Nat → Prop} {σ : xS} (C : xC p s m args meth c R E A bM_count 4 yM_count (some .int) 0 0 0) (N : Nat) (τ : yS) (rec4 : Int32 → Int32 → Int32 → Option (Int32)) (hrec4 : ∀ (a1 : Int32) (a2 : Int32) (a3 : Int32) (res : Int32), rec4 a1 a2 a3 = some res → ∀ (H : Heap) (locs : List Loc) (ls : Array Slot), xW E A s σ τ H locs → lv_has ls 4 [(0, .ref (E.2.2.1 30 0)), (1, .int a1), (2, .int a2), (3, .int a3)] → W p l e R s m args below meth c H locs 0 0 (MQ below (xQ E A (some (.int res)) σ τ) args s 0 0 A) (F0 m 4 ls [])) (a1 : Int32) (a2 : Int32) (a3 : Int32) (res : Int32) (hf : fM_count_33 N rec4 τ a1 a2 a3 = some res) (H : Heap) (locs : List Loc) (ls : Array Slot) (hw : xW E A s σ τ H locs) (hl : lv_has ls 4 [(0, .ref (E.2.2.1 30 0)), (1, .int a1), (2, .int a2), (3, .int a3)]) : W p l e R s m args below meth c H locs 0 0 (MQ below (xQ E A (some (.int res)) σ τ) args s 0 0 A) (F0 m 33 ls []) := by
  have hx := C.1
  have hb := C.2.1
  unfold fM_count_33 at hf
  refine lv_iinc (v := a3 + 1) (lv' := [(3, .int (a3 + 1)), (0, .ref (E.2.2.1 30 0)), (1, .int a1), (2, .int a2)]) hx hb dM_count_33 hl (k := 3) rfl rfl (by decide) rfl (fun ls hl => ?_)
  refine lv_goto (tgt := 4) hx hb dM_count_36 (by decide) ?_
  exact hrec4 a1 a2 (a3 + 1) res hf H locs ls hw (lv_sub hl [1, 2, 3, 0] rfl)
set_option maxHeartbeats 4000000 in
set_option maxRecDepth 100000 in
theorem wM_count_4b {p : Program} {l : Launch} {e : Env} {R : Room} {s : State} {m : MethodId} {args : Array Value} {below : List Frame} {meth : Method} {c : Code} {E : xE} {A : Nat → Prop} {σ : xS} (C : xC p s m args meth c R E A bM_count 4 yM_count (some .int) 0 0 0) (N : Nat) (τ : yS) (rec4 : Int32 → Int32 → Int32 → Option (Int32)) (hrec4 : ∀ (a1 : Int32) (a2 : Int32) (a3 : Int32) (res : Int32), rec4 a1 a2 a3 = some res → ∀ (H : Heap) (locs : List Loc) (ls : Array Slot), xW E A s σ τ H locs → lv_has ls 4 [(0, .ref (E.2.2.1 30 0)), (1, .int a1), (2, .int a2), (3, .int a3)] → W p l e R s m args below meth c H locs 0 0 (MQ below (xQ E A (some (.int res)) σ τ) args s 0 0 A) (F0 m 4 ls [])) (a1 : Int32) (a2 : Int32) (a3 : Int32) (res : Int32) (hf : fM_count_4b N rec4 τ a1 a2 a3 = some res) (H : Heap) (locs : List Loc) (ls : Array Slot) (hw : xW E A s σ τ H locs) (hl : lv_has ls 4 [(0, .ref (E.2.2.1 30 0)), (1, .int a1), (2, .int a2), (3, .int a3)]) : W p l e R s m args below meth c H locs 0 0 (MQ below (xQ E A (some (.int res)) σ τ) args s 0 0 A) (F0 m 4 ls []) := by
  have hx := C.1
  have hb := C.2.1
  unfold fM_count_4b at hf
  refine lv_iload_n hx hb dM_count_4 rfl (lv_at hl 3 rfl) ?_
  refine lv_aload_n hx hb dM_count_5 rfl (lv_at hl 0 rfl) ?_
  refine y_get C hw 30 0 29 (v := .int (τ 30 0 29)) at_30 rfl rfl ⟨by decide, by decide⟩ wM_93 rfl dM_count_6 ?_
  refine lv_icmp_ge (tgt := 39) hx hb dM_count_9 (by decide) (fun c16 => ?_) (fun c16 => ?_)
  · replace hf := x_ip c16 hf
    refine lv_iload_n hx hb dM_count_39 rfl (lv_at hl 1 rfl) ?_
    by_cases c17 : a1 = 0
    · replace hf := x_ip c17 hf
      refine lv_tableIn (tgt := 96) hx hb dM_count_40 (by rw [c17]; decide) (by rw [c17]; decide) (by rw [c17]; rfl) (by decide) ?_
      refine lv_aload_n hx hb dM_count_96 rfl (lv_at hl 0 rfl) ?_
      refine y_get C hw 30 0 4 (v := .int (τ 30 0 4)) at_30 rfl rfl ⟨by decide, by decide⟩ wM_110 rfl dM_count_97 ?_
      obtain rfl := Option.some.inj hf
      exact x_iret C hw dM_count_100
    · replace hf := x_in c17 hf
      by_cases c18 : a1 = 1
      · replace hf := x_ip c18 hf
        refine lv_tableIn (tgt := 101) hx hb dM_count_40 (by rw [c18]; decide) (by rw [c18]; decide) (by rw [c18]; rfl) (by decide) ?_
        refine lv_aload_n hx hb dM_count_101 rfl (lv_at hl 0 rfl) ?_
        refine y_get C hw 30 0 20 (v := .int (τ 30 0 20)) at_30 rfl rfl ⟨by decide, by decide⟩ wM_130 rfl dM_count_102 ?_
        obtain rfl := Option.some.inj hf
        exact x_iret C hw dM_count_105
      · replace hf := x_in c18 hf
        by_cases c19 : a1 = 2
        · replace hf := x_ip c19 hf
          refine lv_tableIn (tgt := 106) hx hb dM_count_40 (by rw [c19]; decide) (by rw [c19]; decide) (by rw [c19]; rfl) (by decide) ?_
          refine lv_aload_n hx hb dM_count_106 rfl (lv_at hl 0 rfl) ?_
          refine y_get C hw 30 0 29 (v := .int (τ 30 0 29)) at_30 rfl rfl ⟨by decide, by decide⟩ wM_93 rfl dM_count_107 ?_
          obtain rfl := Option.some.inj hf
          exact x_iret C hw dM_count_110
        · replace hf := x_in c19 hf
          by_cases c20 : a1 = 3
          · replace hf := x_ip c20 hf
            refine lv_tableIn (tgt := 111) hx hb dM_count_40 (by rw [c20]; decide) (by rw [c20]; decide) (by rw [c20]; rfl) (by decide) ?_
            refine lv_iload_n hx hb dM_count_111 rfl (lv_at hl 2 rfl) ?_
            obtain rfl := Option.some.inj hf
            exact x_iret C hw dM_count_112
          · replace hf := x_in c20 hf
            by_cases c21 : a1 = 4
            · replace hf := x_ip c21 hf
              refine lv_tableIn (tgt := 113) hx hb dM_count_40 (by rw [c21]; decide) (by rw [c21]; decide) (by rw [c21]; rfl) (by decide) ?_
              refine lv_aload_n hx hb dM_count_113 rfl (lv_at hl 0 rfl) ?_
              refine y_get C hw 30 0 8 (v := .int (τ 30 0 8)) at_30 rfl rfl ⟨by decide, by decide⟩ wM_96 rfl dM_count_114 ?_
              obtain rfl := Option.some.inj hf
              exact x_iret C hw dM_count_117
            · replace hf := x_in c21 hf
              by_cases c22 : a1 = 5
              · replace hf := x_ip c22 hf
                refine lv_tableIn (tgt := 118) hx hb dM_count_40 (by rw [c22]; decide) (by rw [c22]; decide) (by rw [c22]; rfl) (by decide) ?_
                refine lv_aload_n hx hb dM_count_118 rfl (lv_at hl 0 rfl) ?_
                refine y_get C hw 30 0 9 (v := .int (τ 30 0 9)) at_30 rfl rfl ⟨by decide, by decide⟩ wM_90 rfl dM_count_119 ?_
                obtain rfl := Option.some.inj hf
                exact x_iret C hw dM_count_122
              · replace hf := x_in c22 hf
                by_cases c23 : a1 = 6
                · replace hf := x_ip c23 hf
                  refine lv_tableIn (tgt := 123) hx hb dM_count_40 (by rw [c23]; decide) (by rw [c23]; decide) (by rw [c23]; rfl) (by decide) ?_
                  refine lv_aload_n hx hb dM_count_123 rfl (lv_at hl 0 rfl) ?_
                  refine y_get C hw 30 0 24 (v := .ref (E.2.2.1 47 0)) at_30 rfl rfl ⟨by decide, by decide⟩ wM_59 rfl dM_count_124 ?_
                  refine lv_bipush (v := 16) hx hb dM_count_127 (by decide) ?_
                  refine y_ild C hw 47 0 at_47 rfl (by decide) dM_count_129 ?_
                  obtain rfl := Option.some.inj hf
                  exact x_iret C hw dM_count_130
                · replace hf := x_in c23 hf
                  by_cases c24 : a1 = 7
                  · replace hf := x_ip c24 hf
                    refine lv_tableIn (tgt := 131) hx hb dM_count_40 (by rw [c24]; decide) (by rw [c24]; decide) (by rw [c24]; rfl) (by decide) ?_
                    refine lv_aload_n hx hb dM_count_131 rfl (lv_at hl 0 rfl) ?_
                    refine y_get C hw 30 0 36 (v := .int (τ 30 0 36)) at_30 rfl rfl ⟨by decide, by decide⟩ wM_196 rfl dM_count_132 ?_
                    obtain rfl := Option.some.inj hf
                    exact x_iret C hw dM_count_135
                  · replace hf := x_in c24 hf
                    by_cases c25 : a1 = 8
                    · replace hf := x_ip c25 hf
                      refine lv_tableIn (tgt := 136) hx hb dM_count_40 (by rw [c25]; decide) (by rw [c25]; decide) (by rw [c25]; rfl) (by decide) ?_
                      refine lv_aload_n hx hb dM_count_136 rfl (lv_at hl 0 rfl) ?_
                      refine y_get C hw 30 0 31 (v := .int (τ 30 0 31)) at_30 rfl rfl ⟨by decide, by decide⟩ wM_74 rfl dM_count_137 ?_
                      obtain rfl := Option.some.inj hf
                      exact x_iret C hw dM_count_140
                    · replace hf := x_in c25 hf
                      by_cases c26 : a1 = 9
                      · replace hf := x_ip c26 hf
                        refine lv_tableIn (tgt := 141) hx hb dM_count_40 (by rw [c26]; decide) (by rw [c26]; decide) (by rw [c26]; rfl) (by decide) ?_
                        refine lv_aload_n hx hb dM_count_141 rfl (lv_at hl 0 rfl) ?_
                        refine y_get C hw 30 0 30 (v := .int (τ 30 0 30)) at_30 rfl rfl ⟨by decide, by decide⟩ wM_99 rfl dM_count_142 ?_
                        obtain rfl := Option.some.inj hf
                        exact x_iret C hw dM_count_145
                      · replace hf := x_in c26 hf
                        refine lv_tableOut (tgt := 146) hx hb dM_count_40 (by have nc17 := lv_neT c17 (a := 0) (by decide); have nc18 := lv_neT c18 (a := 1) (by decide); have nc19 := lv_neT c19 (a := 2) (by decide); have nc20 := lv_neT c20 (a := 3) (by decide); have nc21 := lv_neT c21 (a := 4) (by decide); have nc22 := lv_neT c22 (a := 5) (by decide); have nc23 := lv_neT c23 (a := 6) (by decide); have nc24 := lv_neT c24 (a := 7) (by decide); have nc25 := lv_neT c25 (a := 8) (by decide); have nc26 := lv_neT c26 (a := 9) (by decide); omega) (by decide) ?_
                        refine lv_iconst (v := (-1)) hx hb dM_count_146 (by decide) ?_
                        obtain rfl := Option.some.inj hf
                        exact x_iret C hw dM_count_147
  · replace hf := x_in c16 hf
    refine lv_aload_n hx hb dM_count_12 rfl (lv_at hl 0 rfl) ?_
    refine y_get C hw 30 0 24 (v := .ref (E.2.2.1 47 0)) at_30 rfl rfl ⟨by decide, by decide⟩ wM_59 rfl dM_count_13 ?_
    refine lv_iload_n hx hb dM_count_16 rfl (lv_at hl 3 rfl) ?_
    obtain ⟨g27, hf⟩ := x_g hf
    refine y_ild C hw 47 0 at_47 rfl g27 dM_count_17 ?_
    refine lv_if_le (tgt := 33) hx hb dM_count_18 (by decide) (fun c28 => ?_) (fun c28 => ?_)
    · replace hf := x_ip c28 hf
      exact wM_count_33 C N τ rec4 hrec4 a1 a2 a3 res hf H locs ls hw (lv_sub hl [0, 1, 2, 3] rfl)
    · replace hf := x_in c28 hf
      refine lv_aload_n hx hb dM_count_21 rfl (lv_at hl 0 rfl) ?_
      refine y_get C hw 30 0 25 (v := .ref (E.2.2.1 48 0)) at_30 rfl rfl ⟨by decide, by decide⟩ wM_62 rfl dM_count_22 ?_
      refine lv_iload_n hx hb dM_count_25 rfl (lv_at hl 3 rfl) ?_
      obtain ⟨g29, hf⟩ := x_g hf
      refine y_ild C hw 48 0 at_48 rfl g29 dM_count_26 ?_
      refine lv_if_ne (tgt := 33) hx hb dM_count_27 (by decide) (fun c30 => ?_) (fun c30 => ?_)
      · replace hf := x_in c30 hf
        exact wM_count_33 C N τ rec4 hrec4 a1 a2 a3 res hf H locs ls hw (lv_sub hl [0, 1, 2, 3] rfl)
      · replace hf := x_ip c30 hf
        refine lv_iinc (v := a2 + 1) (lv' := [(2, .int (a2 + 1)), (0, .ref (E.2.2.1 30 0)), (1, .int a1), (3, .int a3)]) hx hb dM_count_30 hl (k := 2) rfl rfl (by decide) rfl (fun ls hl => ?_)
        exact wM_count_33 C N τ rec4 hrec4 a1 (a2 + 1) a3 res hf H locs ls hw (lv_sub hl [1, 2, 0, 3] rfl)
set_option maxHeartbeats 4000000 in
set_option maxRecDepth 100000 in
theorem wM_count_4 {p : Program} {l : Launch} {e : Env} {R : Room} {s : State} {m : MethodId} {args : Array Value} {below : List Frame} {meth : Method} {c : Code} {E : xE} {A : Nat → Prop} {σ : xS} (C : xC p s m args meth c R E A bM_count 4 yM_count (some .int) 0 0 0) (N : Nat) (τ : yS) (n : Nat) : ∀ (a1 : Int32) (a2 : Int32) (a3 : Int32) (res : Int32), fM_count_4 N τ n a1 a2 a3 = some res → ∀ (H : Heap) (locs : List Loc) (ls : Array Slot), xW E A s σ τ H locs → lv_has ls 4 [(0, .ref (E.2.2.1 30 0)), (1, .int a1), (2, .int a2), (3, .int a3)] → W p l e R s m args below meth c H locs 0 0 (MQ below (xQ E A (some (.int res)) σ τ) args s 0 0 A) (F0 m 4 ls []) := by
  induction n with
  | zero => intro a1 a2 a3 res hf; cases hf
  | succ n ih =>
    intro a1 a2 a3 res hf H locs ls hw hl
    exact wM_count_4b C N τ (fM_count_4 N τ n) ih a1 a2 a3 res hf H locs ls hw hl
set_option maxHeartbeats 4000000 in
set_option maxRecDepth 100000 in
theorem cM_count (l : Launch) (E : xE) (N : Nat) (τ : yS) (σ : xS) (a1 : Int32) (res : Int32) (hf : fM_count N τ a1 = some res) : xM l E yM_count bM_count 4 (some .int) 0 0 0 [.ref (E.2.2.1 30 0), .int a1] σ τ (some (.int res)) σ τ := by
  refine x_met (by decide) (Nat.le_of_ble_eq_true rfl) (fun p e R s m args below meth c A ls H locs C hw hl => ?_)
  have hl : lv_has ls 4 [(0, .ref (E.2.2.1 30 0)), (1, .int a1)] := hl
  have hx := C.1
  have hb := C.2.1
  unfold fM_count at hf
  refine lv_iconst (v := 0) hx hb dM_count_0 (by decide) ?_
  refine lv_istore_n (lv' := [(2, .int 0), (0, .ref (E.2.2.1 30 0)), (1, .int a1)]) hx hb dM_count_1 rfl hl (by decide) rfl (fun ls hl => ?_)
  refine lv_iconst (v := 0) hx hb dM_count_2 (by decide) ?_
  refine lv_istore_n (lv' := [(3, .int 0), (2, .int 0), (0, .ref (E.2.2.1 30 0)), (1, .int a1)]) hx hb dM_count_3 rfl hl (by decide) rfl (fun ls hl => ?_)
  exact wM_count_4 C N τ N a1 0 0 res hf H locs ls hw (lv_sub hl [2, 3, 1, 0] rfl)
