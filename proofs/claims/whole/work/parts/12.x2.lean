-- StandIns$Matcher accepts (LStandIns$Matcher;I)Z
set_option maxRecDepth 100000 in
theorem dH_accepts_0 : decode bH_accepts 0 = .ok (.aload_n 0, 1) := by decide +kernel
set_option maxRecDepth 100000 in
theorem dH_accepts_1 : decode bH_accepts 1 = .ok (.ifnonnull 5, 3) := by decide +kernel
set_option maxRecDepth 100000 in
theorem dH_accepts_4 : decode bH_accepts 4 = .ok (.iconst 1, 1) := by decide +kernel
set_option maxRecDepth 100000 in
theorem dH_accepts_5 : decode bH_accepts 5 = .ok (.ireturn, 1) := by decide +kernel
set_option maxRecDepth 100000 in
theorem dH_accepts_6 : decode bH_accepts 6 = .ok (.aload_n 0, 1) := by decide +kernel
set_option maxRecDepth 100000 in
theorem dH_accepts_7 : decode bH_accepts 7 = .ok (.getfield 9, 3) := by decide +kernel
set_option maxRecDepth 100000 in
theorem dH_accepts_10 : decode bH_accepts 10 = .ok (.tableswitch 153 1 6 #[38, 52, 66, 80, 108, 136], 38) := by decide +kernel
set_option maxRecDepth 100000 in
theorem dH_accepts_48 : decode bH_accepts 48 = .ok (.iload_n 1, 1) := by decide +kernel
set_option maxRecDepth 100000 in
theorem dH_accepts_49 : decode bH_accepts 49 = .ok (.aload_n 0, 1) := by decide +kernel
set_option maxRecDepth 100000 in
theorem dH_accepts_50 : decode bH_accepts 50 = .ok (.getfield 15, 3) := by decide +kernel
set_option maxRecDepth 100000 in
theorem dH_accepts_53 : decode bH_accepts 53 = .ok (.if_icmp .ne 7, 3) := by decide +kernel
set_option maxRecDepth 100000 in
theorem dH_accepts_56 : decode bH_accepts 56 = .ok (.iconst 1, 1) := by decide +kernel
set_option maxRecDepth 100000 in
theorem dH_accepts_57 : decode bH_accepts 57 = .ok (.goto 4, 3) := by decide +kernel
set_option maxRecDepth 100000 in
theorem dH_accepts_60 : decode bH_accepts 60 = .ok (.iconst 0, 1) := by decide +kernel
set_option maxRecDepth 100000 in
theorem dH_accepts_61 : decode bH_accepts 61 = .ok (.ireturn, 1) := by decide +kernel
set_option maxRecDepth 100000 in
theorem dH_accepts_62 : decode bH_accepts 62 = .ok (.iload_n 1, 1) := by decide +kernel
set_option maxRecDepth 100000 in
theorem dH_accepts_63 : decode bH_accepts 63 = .ok (.aload_n 0, 1) := by decide +kernel
set_option maxRecDepth 100000 in
theorem dH_accepts_64 : decode bH_accepts 64 = .ok (.getfield 15, 3) := by decide +kernel
set_option maxRecDepth 100000 in
theorem dH_accepts_67 : decode bH_accepts 67 = .ok (.if_icmp .ge 7, 3) := by decide +kernel
set_option maxRecDepth 100000 in
theorem dH_accepts_70 : decode bH_accepts 70 = .ok (.iconst 1, 1) := by decide +kernel
set_option maxRecDepth 100000 in
theorem dH_accepts_71 : decode bH_accepts 71 = .ok (.goto 4, 3) := by decide +kernel
set_option maxRecDepth 100000 in
theorem dH_accepts_74 : decode bH_accepts 74 = .ok (.iconst 0, 1) := by decide +kernel
set_option maxRecDepth 100000 in
theorem dH_accepts_75 : decode bH_accepts 75 = .ok (.ireturn, 1) := by decide +kernel
set_option maxRecDepth 100000 in
theorem dH_accepts_76 : decode bH_accepts 76 = .ok (.iload_n 1, 1) := by decide +kernel
set_option maxRecDepth 100000 in
theorem dH_accepts_77 : decode bH_accepts 77 = .ok (.aload_n 0, 1) := by decide +kernel
set_option maxRecDepth 100000 in
theorem dH_accepts_78 : decode bH_accepts 78 = .ok (.getfield 15, 3) := by decide +kernel
set_option maxRecDepth 100000 in
theorem dH_accepts_81 : decode bH_accepts 81 = .ok (.if_icmp .le 7, 3) := by decide +kernel
set_option maxRecDepth 100000 in
theorem dH_accepts_84 : decode bH_accepts 84 = .ok (.iconst 1, 1) := by decide +kernel
set_option maxRecDepth 100000 in
theorem dH_accepts_85 : decode bH_accepts 85 = .ok (.goto 4, 3) := by decide +kernel
set_option maxRecDepth 100000 in
theorem dH_accepts_88 : decode bH_accepts 88 = .ok (.iconst 0, 1) := by decide +kernel
set_option maxRecDepth 100000 in
theorem dH_accepts_89 : decode bH_accepts 89 = .ok (.ireturn, 1) := by decide +kernel
set_option maxRecDepth 100000 in
theorem dH_accepts_90 : decode bH_accepts 90 = .ok (.aload_n 0, 1) := by decide +kernel
set_option maxRecDepth 100000 in
theorem dH_accepts_91 : decode bH_accepts 91 = .ok (.getfield 18, 3) := by decide +kernel
set_option maxRecDepth 100000 in
theorem dH_accepts_94 : decode bH_accepts 94 = .ok (.iload_n 1, 1) := by decide +kernel
set_option maxRecDepth 100000 in
theorem dH_accepts_95 : decode bH_accepts 95 = .ok (.invokestatic 32, 3) := by decide +kernel
set_option maxRecDepth 100000 in
theorem dH_accepts_98 : decode bH_accepts 98 = .ok (.ifCond .eq 18, 3) := by decide +kernel
set_option maxRecDepth 100000 in
theorem dH_accepts_101 : decode bH_accepts 101 = .ok (.aload_n 0, 1) := by decide +kernel
set_option maxRecDepth 100000 in
theorem dH_accepts_102 : decode bH_accepts 102 = .ok (.getfield 22, 3) := by decide +kernel
set_option maxRecDepth 100000 in
theorem dH_accepts_105 : decode bH_accepts 105 = .ok (.iload_n 1, 1) := by decide +kernel
set_option maxRecDepth 100000 in
theorem dH_accepts_106 : decode bH_accepts 106 = .ok (.invokestatic 32, 3) := by decide +kernel
set_option maxRecDepth 100000 in
theorem dH_accepts_109 : decode bH_accepts 109 = .ok (.ifCond .eq 7, 3) := by decide +kernel
set_option maxRecDepth 100000 in
theorem dH_accepts_112 : decode bH_accepts 112 = .ok (.iconst 1, 1) := by decide +kernel
set_option maxRecDepth 100000 in
theorem dH_accepts_113 : decode bH_accepts 113 = .ok (.goto 4, 3) := by decide +kernel
set_option maxRecDepth 100000 in
theorem dH_accepts_116 : decode bH_accepts 116 = .ok (.iconst 0, 1) := by decide +kernel
set_option maxRecDepth 100000 in
theorem dH_accepts_117 : decode bH_accepts 117 = .ok (.ireturn, 1) := by decide +kernel
set_option maxRecDepth 100000 in
theorem dH_accepts_118 : decode bH_accepts 118 = .ok (.aload_n 0, 1) := by decide +kernel
set_option maxRecDepth 100000 in
theorem dH_accepts_119 : decode bH_accepts 119 = .ok (.getfield 18, 3) := by decide +kernel
set_option maxRecDepth 100000 in
theorem dH_accepts_122 : decode bH_accepts 122 = .ok (.iload_n 1, 1) := by decide +kernel
set_option maxRecDepth 100000 in
theorem dH_accepts_123 : decode bH_accepts 123 = .ok (.invokestatic 32, 3) := by decide +kernel
set_option maxRecDepth 100000 in
theorem dH_accepts_126 : decode bH_accepts 126 = .ok (.ifCond .ne 14, 3) := by decide +kernel
set_option maxRecDepth 100000 in
theorem dH_accepts_129 : decode bH_accepts 129 = .ok (.aload_n 0, 1) := by decide +kernel
set_option maxRecDepth 100000 in
theorem dH_accepts_130 : decode bH_accepts 130 = .ok (.getfield 22, 3) := by decide +kernel
set_option maxRecDepth 100000 in
theorem dH_accepts_133 : decode bH_accepts 133 = .ok (.iload_n 1, 1) := by decide +kernel
set_option maxRecDepth 100000 in
theorem dH_accepts_134 : decode bH_accepts 134 = .ok (.invokestatic 32, 3) := by decide +kernel
set_option maxRecDepth 100000 in
theorem dH_accepts_137 : decode bH_accepts 137 = .ok (.ifCond .eq 7, 3) := by decide +kernel
set_option maxRecDepth 100000 in
theorem dH_accepts_140 : decode bH_accepts 140 = .ok (.iconst 1, 1) := by decide +kernel
set_option maxRecDepth 100000 in
theorem dH_accepts_141 : decode bH_accepts 141 = .ok (.goto 4, 3) := by decide +kernel
set_option maxRecDepth 100000 in
theorem dH_accepts_144 : decode bH_accepts 144 = .ok (.iconst 0, 1) := by decide +kernel
set_option maxRecDepth 100000 in
theorem dH_accepts_145 : decode bH_accepts 145 = .ok (.ireturn, 1) := by decide +kernel
set_option maxRecDepth 100000 in
theorem dH_accepts_146 : decode bH_accepts 146 = .ok (.aload_n 0, 1) := by decide +kernel
set_option maxRecDepth 100000 in
theorem dH_accepts_147 : decode bH_accepts 147 = .ok (.getfield 18, 3) := by decide +kernel
set_option maxRecDepth 100000 in
theorem dH_accepts_150 : decode bH_accepts 150 = .ok (.iload_n 1, 1) := by decide +kernel
set_option maxRecDepth 100000 in
theorem dH_accepts_151 : decode bH_accepts 151 = .ok (.invokestatic 32, 3) := by decide +kernel
set_option maxRecDepth 100000 in
theorem dH_accepts_154 : decode bH_accepts 154 = .ok (.ifCond .ne 7, 3) := by decide +kernel
set_option maxRecDepth 100000 in
theorem dH_accepts_157 : decode bH_accepts 157 = .ok (.iconst 1, 1) := by decide +kernel
set_option maxRecDepth 100000 in
theorem dH_accepts_158 : decode bH_accepts 158 = .ok (.goto 4, 3) := by decide +kernel
set_option maxRecDepth 100000 in
theorem dH_accepts_161 : decode bH_accepts 161 = .ok (.iconst 0, 1) := by decide +kernel
set_option maxRecDepth 100000 in
theorem dH_accepts_162 : decode bH_accepts 162 = .ok (.ireturn, 1) := by decide +kernel
set_option maxRecDepth 100000 in
theorem dH_accepts_163 : decode bH_accepts 163 = .ok (.iconst 1, 1) := by decide +kernel
set_option maxRecDepth 100000 in
theorem dH_accepts_164 : decode bH_accepts 164 = .ok (.ireturn, 1) := by decide +kernel
def fH_accepts_140 (self : xS → Option Nat → Int32 → Option (Int32)) (σ : xS) : Option (Int32) :=
  some 1
def fH_accepts_b (self : xS → Option Nat → Int32 → Option (Int32)) (σ : xS) (o0 : Option Nat) (a1 : Int32) : Option (Int32) :=
  if o0 = none then
  (some 1)
  else
  (xp (xd σ.2.2.1 o0) fun q2 =>
  if (σ.1 21 q2 0) = 1 then
  (if a1 = (σ.1 21 q2 1) then
  (some 1)
  else
  (some 0))
  else
  (if (σ.1 21 q2 0) = 2 then
  (if (σ.1 21 q2 1) ≤ a1 then
  (some 0)
  else
  (some 1))
  else
  (if (σ.1 21 q2 0) = 3 then
  (if a1 ≤ (σ.1 21 q2 1) then
  (some 0)
  else
  (some 1))
  else
  (if (σ.1 21 q2 0) = 4 then
  (xp (self σ (σ.2.1 21 q2 2) a1) fun r11 =>
  if r11 = 0 then
  (some 0)
  else
  (xp (self σ (σ.2.1 21 q2 3) a1) fun r14 =>
  if r14 = 0 then
  (some 0)
  else
  (some 1)))
  else
  (if (σ.1 21 q2 0) = 5 then
  (xp (self σ (σ.2.1 21 q2 2) a1) fun r18 =>
  if r18 = 0 then
  (xp (self σ (σ.2.1 21 q2 3) a1) fun r21 =>
  if r21 = 0 then
  (some 0)
  else
  (fH_accepts_140 self σ))
  else
  (fH_accepts_140 self σ))
  else
  (if (σ.1 21 q2 0) = 6 then
  (xp (self σ (σ.2.1 21 q2 2) a1) fun r25 =>
  if r25 = 0 then
  (some 1)
  else
  (some 0))
  else
  (some 1)))))))
def fH_accepts : Nat → xS → Option Nat → Int32 → Option (Int32)
  | 0, _, _, _ => none
  | n + 1, σ, o0, a1 => fH_accepts_b (fH_accepts n) σ o0 a1
set_option maxHeartbeats 4000000 in
set_option maxRecDepth 100000 in
theorem wH_accepts_140 {p : Program} {l : Launch} {e : Env} {R : Room} {s : State} {m : MethodId} {args : Array Value} {below : List Frame} {meth : Method} {c : Code} {E : xE} {A : Nat → Prop} {τ : yS} {n0 : Nat} (C : xC p s m args meth c R E A bH_accepts 2 yH_accepts (some .boolean) (n0 + 1) 0 0) (self : xS → Option Nat → Int32 → Option (Int32)) (hself : ∀ (σ : xS) (τ : yS) (o0 : Option Nat) (a1 : Int32) (res : Int32), self σ o0 a1 = some res → xM l E yH_accepts bH_accepts 2 (some .boolean) n0 0 0 [va_rf o0, .int a1] σ τ (some (.int res)) σ τ) (σ : xS) (res : Int32) (hf : fH_accepts_140 self σ = some res) (H : Heap) (locs : List Loc) (ls : Array Slot) (hw : xW E A s σ τ H locs) (hl : lv_has ls 2 []) : W p l e R s m args below meth c H locs 0 0 (MQ below (xQ E A (some (.int res)) σ τ) args s 0 0 A) (F0 m 140 ls []) := by
  have hx := C.1
  have hb := C.2.1
  unfold fH_accepts_140 at hf
  refine lv_iconst (v := 1) hx hb dH_accepts_140 (by decide) ?_
  refine lv_goto (tgt := 145) hx hb dH_accepts_141 (by decide) ?_
  obtain rfl := Option.some.inj hf
  exact x_zret C hw (x_nz (v := 1) (Or.inr rfl)) dH_accepts_145
set_option maxHeartbeats 4000000 in
set_option maxRecDepth 100000 in
theorem cH_accepts (l : Launch) (E : xE) (n0 : Nat) : ∀ (σ : xS) (τ : yS) (o0 : Option Nat) (a1 : Int32) (res : Int32), fH_accepts n0 σ o0 a1 = some res → xM l E yH_accepts bH_accepts 2 (some .boolean) n0 0 0 [va_rf o0, .int a1] σ τ (some (.int res)) σ τ := by
  induction n0 with
  | zero => intro σ τ o0 a1 res hf; cases hf
  | succ n0 hself =>
  intro σ τ o0 a1 res hf
  refine x_met (by decide) (by simp [lg_sl, x_cat, x_cati, x_catr, x_catl]) (fun p e R s m args below meth c A ls H locs C hw hl => ?_)
  have hl : lv_has ls 2 [(0, va_rf o0), (1, .int a1)] := by simpa [lv_args, x_cat, x_cati, x_catr, x_catl] using hl
  have hx := C.1
  have hb := C.2.1
  obtain ⟨self, eself⟩ : ∃ z, z = fH_accepts n0 := ⟨_, rfl⟩
  rw [← eself] at hself
  have hf : fH_accepts_b self σ o0 a1 = some res := by rw [eself]; exact hf
  unfold fH_accepts_b at hf
  refine x_aload_n hx hb dH_accepts_0 rfl (lv_at hl 0 rfl) ?_
  refine x_ifnonnull (tgt := 6) hx hb dH_accepts_1 (by decide) (fun c1 => ?_) (fun c1 => ?_)
  · replace hf := x_ip c1 hf
    refine lv_iconst (v := 1) hx hb dH_accepts_4 (by decide) ?_
    obtain rfl := Option.some.inj hf
    exact x_zret C hw (x_nz (v := 1) (Or.inr rfl)) dH_accepts_5
  · replace hf := x_in c1 hf
    refine x_aload_n hx hb dH_accepts_6 rfl (lv_at hl 0 rfl) ?_
    obtain ⟨q2, eq2, hf⟩ := x_p hf
    refine x_getM C hw eq2 0 (v := .int (σ.1 21 q2 0)) (by decide) wH_9 rfl dH_accepts_7 ?_
    by_cases c3 : (σ.1 21 q2 0) = 1
    · replace hf := x_ip c3 hf
      refine lv_tableIn (tgt := 48) hx hb dH_accepts_10 (by rw [c3]; decide) (by rw [c3]; decide) (by rw [c3]; rfl) (by decide) ?_
      refine lv_iload_n hx hb dH_accepts_48 rfl (lv_at hl 1 rfl) ?_
      refine x_aload_n hx hb dH_accepts_49 rfl (lv_at hl 0 rfl) ?_
      refine x_getM C hw eq2 1 (v := .int (σ.1 21 q2 1)) (by decide) wH_15 rfl dH_accepts_50 ?_
      refine lv_icmp_ne (tgt := 60) hx hb dH_accepts_53 (by decide) (fun c4 => ?_) (fun c4 => ?_)
      · replace hf := x_in c4 hf
        refine lv_iconst (v := 0) hx hb dH_accepts_60 (by decide) ?_
        obtain rfl := Option.some.inj hf
        exact x_zret C hw (x_nz (v := 0) (Or.inl rfl)) dH_accepts_61
      · replace hf := x_ip c4 hf
        refine lv_iconst (v := 1) hx hb dH_accepts_56 (by decide) ?_
        refine lv_goto (tgt := 61) hx hb dH_accepts_57 (by decide) ?_
        obtain rfl := Option.some.inj hf
        exact x_zret C hw (x_nz (v := 1) (Or.inr rfl)) dH_accepts_61
    · replace hf := x_in c3 hf
      by_cases c5 : (σ.1 21 q2 0) = 2
      · replace hf := x_ip c5 hf
        refine lv_tableIn (tgt := 62) hx hb dH_accepts_10 (by rw [c5]; decide) (by rw [c5]; decide) (by rw [c5]; rfl) (by decide) ?_
        refine lv_iload_n hx hb dH_accepts_62 rfl (lv_at hl 1 rfl) ?_
        refine x_aload_n hx hb dH_accepts_63 rfl (lv_at hl 0 rfl) ?_
        refine x_getM C hw eq2 1 (v := .int (σ.1 21 q2 1)) (by decide) wH_15 rfl dH_accepts_64 ?_
        refine lv_icmp_ge (tgt := 74) hx hb dH_accepts_67 (by decide) (fun c6 => ?_) (fun c6 => ?_)
        · replace hf := x_ip c6 hf
          refine lv_iconst (v := 0) hx hb dH_accepts_74 (by decide) ?_
          obtain rfl := Option.some.inj hf
          exact x_zret C hw (x_nz (v := 0) (Or.inl rfl)) dH_accepts_75
        · replace hf := x_in c6 hf
          refine lv_iconst (v := 1) hx hb dH_accepts_70 (by decide) ?_
          refine lv_goto (tgt := 75) hx hb dH_accepts_71 (by decide) ?_
          obtain rfl := Option.some.inj hf
          exact x_zret C hw (x_nz (v := 1) (Or.inr rfl)) dH_accepts_75
      · replace hf := x_in c5 hf
        by_cases c7 : (σ.1 21 q2 0) = 3
        · replace hf := x_ip c7 hf
          refine lv_tableIn (tgt := 76) hx hb dH_accepts_10 (by rw [c7]; decide) (by rw [c7]; decide) (by rw [c7]; rfl) (by decide) ?_
          refine lv_iload_n hx hb dH_accepts_76 rfl (lv_at hl 1 rfl) ?_
          refine x_aload_n hx hb dH_accepts_77 rfl (lv_at hl 0 rfl) ?_
          refine x_getM C hw eq2 1 (v := .int (σ.1 21 q2 1)) (by decide) wH_15 rfl dH_accepts_78 ?_
          refine lv_icmp_le (tgt := 88) hx hb dH_accepts_81 (by decide) (fun c8 => ?_) (fun c8 => ?_)
          · replace hf := x_ip c8 hf
            refine lv_iconst (v := 0) hx hb dH_accepts_88 (by decide) ?_
            obtain rfl := Option.some.inj hf
            exact x_zret C hw (x_nz (v := 0) (Or.inl rfl)) dH_accepts_89
          · replace hf := x_in c8 hf
            refine lv_iconst (v := 1) hx hb dH_accepts_84 (by decide) ?_
            refine lv_goto (tgt := 89) hx hb dH_accepts_85 (by decide) ?_
            obtain rfl := Option.some.inj hf
            exact x_zret C hw (x_nz (v := 1) (Or.inr rfl)) dH_accepts_89
        · replace hf := x_in c7 hf
          by_cases c9 : (σ.1 21 q2 0) = 4
          · replace hf := x_ip c9 hf
            refine lv_tableIn (tgt := 90) hx hb dH_accepts_10 (by rw [c9]; decide) (by rw [c9]; decide) (by rw [c9]; rfl) (by decide) ?_
            refine x_aload_n hx hb dH_accepts_90 rfl (lv_at hl 0 rfl) ?_
            refine x_getM C hw eq2 2 (v := va_rf (σ.2.1 21 q2 2)) (by decide) wH_18 rfl dH_accepts_91 ?_
            refine lv_iload_n hx hb dH_accepts_94 rfl (lv_at hl 1 rfl) ?_
            obtain ⟨r11, h10, hf⟩ := x_p hf
            refine x_callS (As := [va_rf (σ.2.1 21 q2 2), .int a1]) (rest := []) (st1 := [.int r11]) C hw (hself σ τ (σ.2.1 21 q2 2) a1 r11 h10) kH_32 (Nat.le_refl _) rfl rfl hl.1 (lv_room (Nat.le_of_ble_eq_true rfl)) dH_accepts_95 ⟨by decide, by decide⟩ rfl (fun H locs hw => ?_)
            refine lv_if_eq (tgt := 116) hx hb dH_accepts_98 (by decide) (fun c12 => ?_) (fun c12 => ?_)
            · replace hf := x_ip c12 hf
              refine lv_iconst (v := 0) hx hb dH_accepts_116 (by decide) ?_
              obtain rfl := Option.some.inj hf
              exact x_zret C hw (x_nz (v := 0) (Or.inl rfl)) dH_accepts_117
            · replace hf := x_in c12 hf
              refine x_aload_n hx hb dH_accepts_101 rfl (lv_at hl 0 rfl) ?_
              refine x_getM C hw eq2 3 (v := va_rf (σ.2.1 21 q2 3)) (by decide) wH_22 rfl dH_accepts_102 ?_
              refine lv_iload_n hx hb dH_accepts_105 rfl (lv_at hl 1 rfl) ?_
              obtain ⟨r14, h13, hf⟩ := x_p hf
              refine x_callS (As := [va_rf (σ.2.1 21 q2 3), .int a1]) (rest := []) (st1 := [.int r14]) C hw (hself σ τ (σ.2.1 21 q2 3) a1 r14 h13) kH_32 (Nat.le_refl _) rfl rfl hl.1 (lv_room (Nat.le_of_ble_eq_true rfl)) dH_accepts_106 ⟨by decide, by decide⟩ rfl (fun H locs hw => ?_)
              refine lv_if_eq (tgt := 116) hx hb dH_accepts_109 (by decide) (fun c15 => ?_) (fun c15 => ?_)
              · replace hf := x_ip c15 hf
                refine lv_iconst (v := 0) hx hb dH_accepts_116 (by decide) ?_
                obtain rfl := Option.some.inj hf
                exact x_zret C hw (x_nz (v := 0) (Or.inl rfl)) dH_accepts_117
              · replace hf := x_in c15 hf
                refine lv_iconst (v := 1) hx hb dH_accepts_112 (by decide) ?_
                refine lv_goto (tgt := 117) hx hb dH_accepts_113 (by decide) ?_
                obtain rfl := Option.some.inj hf
                exact x_zret C hw (x_nz (v := 1) (Or.inr rfl)) dH_accepts_117
          · replace hf := x_in c9 hf
            by_cases c16 : (σ.1 21 q2 0) = 5
            · replace hf := x_ip c16 hf
              refine lv_tableIn (tgt := 118) hx hb dH_accepts_10 (by rw [c16]; decide) (by rw [c16]; decide) (by rw [c16]; rfl) (by decide) ?_
              refine x_aload_n hx hb dH_accepts_118 rfl (lv_at hl 0 rfl) ?_
              refine x_getM C hw eq2 2 (v := va_rf (σ.2.1 21 q2 2)) (by decide) wH_18 rfl dH_accepts_119 ?_
              refine lv_iload_n hx hb dH_accepts_122 rfl (lv_at hl 1 rfl) ?_
              obtain ⟨r18, h17, hf⟩ := x_p hf
              refine x_callS (As := [va_rf (σ.2.1 21 q2 2), .int a1]) (rest := []) (st1 := [.int r18]) C hw (hself σ τ (σ.2.1 21 q2 2) a1 r18 h17) kH_32 (Nat.le_refl _) rfl rfl hl.1 (lv_room (Nat.le_of_ble_eq_true rfl)) dH_accepts_123 ⟨by decide, by decide⟩ rfl (fun H locs hw => ?_)
              refine lv_if_ne (tgt := 140) hx hb dH_accepts_126 (by decide) (fun c19 => ?_) (fun c19 => ?_)
              · replace hf := x_in c19 hf
                exact wH_accepts_140 C self hself σ res hf H locs ls hw (lv_sub hl [] rfl)
              · replace hf := x_ip c19 hf
                refine x_aload_n hx hb dH_accepts_129 rfl (lv_at hl 0 rfl) ?_
                refine x_getM C hw eq2 3 (v := va_rf (σ.2.1 21 q2 3)) (by decide) wH_22 rfl dH_accepts_130 ?_
                refine lv_iload_n hx hb dH_accepts_133 rfl (lv_at hl 1 rfl) ?_
                obtain ⟨r21, h20, hf⟩ := x_p hf
                refine x_callS (As := [va_rf (σ.2.1 21 q2 3), .int a1]) (rest := []) (st1 := [.int r21]) C hw (hself σ τ (σ.2.1 21 q2 3) a1 r21 h20) kH_32 (Nat.le_refl _) rfl rfl hl.1 (lv_room (Nat.le_of_ble_eq_true rfl)) dH_accepts_134 ⟨by decide, by decide⟩ rfl (fun H locs hw => ?_)
                refine lv_if_eq (tgt := 144) hx hb dH_accepts_137 (by decide) (fun c22 => ?_) (fun c22 => ?_)
                · replace hf := x_ip c22 hf
                  refine lv_iconst (v := 0) hx hb dH_accepts_144 (by decide) ?_
                  obtain rfl := Option.some.inj hf
                  exact x_zret C hw (x_nz (v := 0) (Or.inl rfl)) dH_accepts_145
                · replace hf := x_in c22 hf
                  exact wH_accepts_140 C self hself σ res hf H locs ls hw (lv_sub hl [] rfl)
            · replace hf := x_in c16 hf
              by_cases c23 : (σ.1 21 q2 0) = 6
              · replace hf := x_ip c23 hf
                refine lv_tableIn (tgt := 146) hx hb dH_accepts_10 (by rw [c23]; decide) (by rw [c23]; decide) (by rw [c23]; rfl) (by decide) ?_
                refine x_aload_n hx hb dH_accepts_146 rfl (lv_at hl 0 rfl) ?_
                refine x_getM C hw eq2 2 (v := va_rf (σ.2.1 21 q2 2)) (by decide) wH_18 rfl dH_accepts_147 ?_
                refine lv_iload_n hx hb dH_accepts_150 rfl (lv_at hl 1 rfl) ?_
                obtain ⟨r25, h24, hf⟩ := x_p hf
                refine x_callS (As := [va_rf (σ.2.1 21 q2 2), .int a1]) (rest := []) (st1 := [.int r25]) C hw (hself σ τ (σ.2.1 21 q2 2) a1 r25 h24) kH_32 (Nat.le_refl _) rfl rfl hl.1 (lv_room (Nat.le_of_ble_eq_true rfl)) dH_accepts_151 ⟨by decide, by decide⟩ rfl (fun H locs hw => ?_)
                refine lv_if_ne (tgt := 161) hx hb dH_accepts_154 (by decide) (fun c26 => ?_) (fun c26 => ?_)
                · replace hf := x_in c26 hf
                  refine lv_iconst (v := 0) hx hb dH_accepts_161 (by decide) ?_
                  obtain rfl := Option.some.inj hf
                  exact x_zret C hw (x_nz (v := 0) (Or.inl rfl)) dH_accepts_162
                · replace hf := x_ip c26 hf
                  refine lv_iconst (v := 1) hx hb dH_accepts_157 (by decide) ?_
                  refine lv_goto (tgt := 162) hx hb dH_accepts_158 (by decide) ?_
                  obtain rfl := Option.some.inj hf
                  exact x_zret C hw (x_nz (v := 1) (Or.inr rfl)) dH_accepts_162
              · replace hf := x_in c23 hf
                refine lv_tableOut (tgt := 163) hx hb dH_accepts_10 (by have nc3 := lv_neT c3 (a := 1) (by decide); have nc5 := lv_neT c5 (a := 2) (by decide); have nc7 := lv_neT c7 (a := 3) (by decide); have nc9 := lv_neT c9 (a := 4) (by decide); have nc16 := lv_neT c16 (a := 5) (by decide); have nc23 := lv_neT c23 (a := 6) (by decide); omega) (by decide) ?_
                refine lv_iconst (v := 1) hx hb dH_accepts_163 (by decide) ?_
                obtain rfl := Option.some.inj hf
                exact x_zret C hw (x_nz (v := 1) (Or.inr rfl)) dH_accepts_164
-- StandIns$Pattern matches (LStandIns$Note;)Z
set_option maxRecDepth 100000 in
theorem dP_matches_0 : decode bP_matches 0 = .ok (.aload_n 1, 1) := by decide +kernel
set_option maxRecDepth 100000 in
theorem dP_matches_1 : decode bP_matches 1 = .ok (.getfield 25, 3) := by decide +kernel
set_option maxRecDepth 100000 in
theorem dP_matches_4 : decode bP_matches 4 = .ok (.aload_n 0, 1) := by decide +kernel
set_option maxRecDepth 100000 in
theorem dP_matches_5 : decode bP_matches 5 = .ok (.getfield 9, 3) := by decide +kernel
set_option maxRecDepth 100000 in
theorem dP_matches_8 : decode bP_matches 8 = .ok (.if_icmp .ne 46, 3) := by decide +kernel
set_option maxRecDepth 100000 in
theorem dP_matches_11 : decode bP_matches 11 = .ok (.aload_n 1, 1) := by decide +kernel
set_option maxRecDepth 100000 in
theorem dP_matches_12 : decode bP_matches 12 = .ok (.getfield 28, 3) := by decide +kernel
set_option maxRecDepth 100000 in
theorem dP_matches_15 : decode bP_matches 15 = .ok (.aload_n 0, 1) := by decide +kernel
set_option maxRecDepth 100000 in
theorem dP_matches_16 : decode bP_matches 16 = .ok (.getfield 15, 3) := by decide +kernel
set_option maxRecDepth 100000 in
theorem dP_matches_19 : decode bP_matches 19 = .ok (.if_icmp .ne 35, 3) := by decide +kernel
set_option maxRecDepth 100000 in
theorem dP_matches_22 : decode bP_matches 22 = .ok (.aload_n 0, 1) := by decide +kernel
set_option maxRecDepth 100000 in
theorem dP_matches_23 : decode bP_matches 23 = .ok (.getfield 18, 3) := by decide +kernel
set_option maxRecDepth 100000 in
theorem dP_matches_26 : decode bP_matches 26 = .ok (.aload_n 1, 1) := by decide +kernel
set_option maxRecDepth 100000 in
theorem dP_matches_27 : decode bP_matches 27 = .ok (.getfield 29, 3) := by decide +kernel
set_option maxRecDepth 100000 in
theorem dP_matches_30 : decode bP_matches 30 = .ok (.invokestatic 32, 3) := by decide +kernel
set_option maxRecDepth 100000 in
theorem dP_matches_33 : decode bP_matches 33 = .ok (.ifCond .eq 21, 3) := by decide +kernel
set_option maxRecDepth 100000 in
theorem dP_matches_36 : decode bP_matches 36 = .ok (.aload_n 0, 1) := by decide +kernel
set_option maxRecDepth 100000 in
theorem dP_matches_37 : decode bP_matches 37 = .ok (.getfield 22, 3) := by decide +kernel
set_option maxRecDepth 100000 in
theorem dP_matches_40 : decode bP_matches 40 = .ok (.aload_n 1, 1) := by decide +kernel
set_option maxRecDepth 100000 in
theorem dP_matches_41 : decode bP_matches 41 = .ok (.getfield 38, 3) := by decide +kernel
set_option maxRecDepth 100000 in
theorem dP_matches_44 : decode bP_matches 44 = .ok (.invokestatic 32, 3) := by decide +kernel
set_option maxRecDepth 100000 in
theorem dP_matches_47 : decode bP_matches 47 = .ok (.ifCond .eq 7, 3) := by decide +kernel
set_option maxRecDepth 100000 in
theorem dP_matches_50 : decode bP_matches 50 = .ok (.iconst 1, 1) := by decide +kernel
set_option maxRecDepth 100000 in
theorem dP_matches_51 : decode bP_matches 51 = .ok (.goto 4, 3) := by decide +kernel
set_option maxRecDepth 100000 in
theorem dP_matches_54 : decode bP_matches 54 = .ok (.iconst 0, 1) := by decide +kernel
set_option maxRecDepth 100000 in
theorem dP_matches_55 : decode bP_matches 55 = .ok (.ireturn, 1) := by decide +kernel
def fP_matches (σ : xS) (k0 : Nat) (k1 : Nat) : Option (Int32) :=
  if k1 < 40 then
  if k0 < 17 then
  if (σ.1 15 k1 1) = (σ.1 17 k0 0) then
  (if (σ.1 15 k1 2) = (σ.1 17 k0 1) then
  (xp (fH_accepts 9 σ (σ.2.1 17 k0 2) (σ.1 15 k1 3)) fun r6 =>
  if r6 = 0 then
  (some 0)
  else
  (xp (fH_accepts 9 σ (σ.2.1 17 k0 3) (σ.1 15 k1 4)) fun r9 =>
  if r9 = 0 then
  (some 0)
  else
  (some 1)))
  else
  (some 0))
  else
  (some 0)
  else none
  else none
set_option maxHeartbeats 4000000 in
set_option maxRecDepth 100000 in
theorem cP_matches (l : Launch) (E : xE) (σ : xS) (τ : yS) (k0 : Nat) (k1 : Nat) (res : Int32) (hf : fP_matches σ k0 k1 = some res) : xM l E yP_matches bP_matches 2 (some .boolean) 10 0 0 [.ref (E.2.2.1 17 k0), .ref (E.2.2.1 15 k1)] σ τ (some (.int res)) σ τ := by
  refine x_met (by decide) (Nat.le_of_ble_eq_true rfl) (fun p e R s m args below meth c A ls H locs C hw hl => ?_)
  have hl : lv_has ls 2 [(0, .ref (E.2.2.1 17 k0)), (1, .ref (E.2.2.1 15 k1))] := hl
  have hx := C.1
  have hb := C.2.1
  unfold fP_matches at hf
  refine lv_aload_n hx hb dP_matches_0 rfl (lv_at hl 1 rfl) ?_
  obtain ⟨g1, hf⟩ := x_g hf
  refine x_getN C hw 15 k1 1 (v := .int (σ.1 15 k1 1)) (at_15 g1) rfl rfl ⟨by decide, by decide⟩ wP_25 rfl dP_matches_1 ?_
  refine lv_aload_n hx hb dP_matches_4 rfl (lv_at hl 0 rfl) ?_
  obtain ⟨g2, hf⟩ := x_g hf
  refine x_get C hw 17 k0 0 (v := .int (σ.1 17 k0 0)) (at_17 g2) rfl rfl ⟨by decide, by decide⟩ wP_9 rfl dP_matches_5 ?_
  refine lv_icmp_ne (tgt := 54) hx hb dP_matches_8 (by decide) (fun c3 => ?_) (fun c3 => ?_)
  · replace hf := x_in c3 hf
    refine lv_iconst (v := 0) hx hb dP_matches_54 (by decide) ?_
    obtain rfl := Option.some.inj hf
    exact x_zret C hw (x_nz (v := 0) (Or.inl rfl)) dP_matches_55
  · replace hf := x_ip c3 hf
    refine lv_aload_n hx hb dP_matches_11 rfl (lv_at hl 1 rfl) ?_
    refine x_getN C hw 15 k1 2 (v := .int (σ.1 15 k1 2)) (at_15 g1) rfl rfl ⟨by decide, by decide⟩ wP_28 rfl dP_matches_12 ?_
    refine lv_aload_n hx hb dP_matches_15 rfl (lv_at hl 0 rfl) ?_
    refine x_get C hw 17 k0 1 (v := .int (σ.1 17 k0 1)) (at_17 g2) rfl rfl ⟨by decide, by decide⟩ wP_15 rfl dP_matches_16 ?_
    refine lv_icmp_ne (tgt := 54) hx hb dP_matches_19 (by decide) (fun c4 => ?_) (fun c4 => ?_)
    · replace hf := x_in c4 hf
      refine lv_iconst (v := 0) hx hb dP_matches_54 (by decide) ?_
      obtain rfl := Option.some.inj hf
      exact x_zret C hw (x_nz (v := 0) (Or.inl rfl)) dP_matches_55
    · replace hf := x_ip c4 hf
      refine lv_aload_n hx hb dP_matches_22 rfl (lv_at hl 0 rfl) ?_
      refine x_get C hw 17 k0 2 (v := va_rf (σ.2.1 17 k0 2)) (at_17 g2) rfl rfl ⟨by decide, by decide⟩ wP_18 rfl dP_matches_23 ?_
      refine lv_aload_n hx hb dP_matches_26 rfl (lv_at hl 1 rfl) ?_
      refine x_getN C hw 15 k1 3 (v := .int (σ.1 15 k1 3)) (at_15 g1) rfl rfl ⟨by decide, by decide⟩ wP_29 rfl dP_matches_27 ?_
      obtain ⟨r6, h5, hf⟩ := x_p hf
      refine x_callSN (As := [va_rf (σ.2.1 17 k0 2), .int (σ.1 15 k1 3)]) (rest := []) (st1 := [.int r6]) C hw (cH_accepts l E 9 σ τ (σ.2.1 17 k0 2) (σ.1 15 k1 3) r6 h5) kP_32 (by decide) rfl rfl hl.1 (lv_room (Nat.le_of_ble_eq_true rfl)) dP_matches_30 ⟨by decide, by decide⟩ rfl (fun H locs hw => ?_)
      refine lv_if_eq (tgt := 54) hx hb dP_matches_33 (by decide) (fun c7 => ?_) (fun c7 => ?_)
      · replace hf := x_ip c7 hf
        refine lv_iconst (v := 0) hx hb dP_matches_54 (by decide) ?_
        obtain rfl := Option.some.inj hf
        exact x_zret C hw (x_nz (v := 0) (Or.inl rfl)) dP_matches_55
      · replace hf := x_in c7 hf
        refine lv_aload_n hx hb dP_matches_36 rfl (lv_at hl 0 rfl) ?_
        refine x_get C hw 17 k0 3 (v := va_rf (σ.2.1 17 k0 3)) (at_17 g2) rfl rfl ⟨by decide, by decide⟩ wP_22 rfl dP_matches_37 ?_
        refine lv_aload_n hx hb dP_matches_40 rfl (lv_at hl 1 rfl) ?_
        refine x_getN C hw 15 k1 4 (v := .int (σ.1 15 k1 4)) (at_15 g1) rfl rfl ⟨by decide, by decide⟩ wP_38 rfl dP_matches_41 ?_
        obtain ⟨r9, h8, hf⟩ := x_p hf
        refine x_callSN (As := [va_rf (σ.2.1 17 k0 3), .int (σ.1 15 k1 4)]) (rest := []) (st1 := [.int r9]) C hw (cH_accepts l E 9 σ τ (σ.2.1 17 k0 3) (σ.1 15 k1 4) r9 h8) kP_32 (by decide) rfl rfl hl.1 (lv_room (Nat.le_of_ble_eq_true rfl)) dP_matches_44 ⟨by decide, by decide⟩ rfl (fun H locs hw => ?_)
        refine lv_if_eq (tgt := 54) hx hb dP_matches_47 (by decide) (fun c10 => ?_) (fun c10 => ?_)
        · replace hf := x_ip c10 hf
          refine lv_iconst (v := 0) hx hb dP_matches_54 (by decide) ?_
          obtain rfl := Option.some.inj hf
          exact x_zret C hw (x_nz (v := 0) (Or.inl rfl)) dP_matches_55
        · replace hf := x_in c10 hf
          refine lv_iconst (v := 1) hx hb dP_matches_50 (by decide) ?_
          refine lv_goto (tgt := 55) hx hb dP_matches_51 (by decide) ?_
          obtain rfl := Option.some.inj hf
          exact x_zret C hw (x_nz (v := 1) (Or.inr rfl)) dP_matches_55
-- StandIns$Finding add (II)V
set_option maxRecDepth 100000 in
theorem dF_add_0 : decode bF_add 0 = .ok (.aload_n 0, 1) := by decide +kernel
set_option maxRecDepth 100000 in
theorem dF_add_1 : decode bF_add 1 = .ok (.getfield 18, 3) := by decide +kernel
set_option maxRecDepth 100000 in
theorem dF_add_4 : decode bF_add 4 = .ok (.bipush 40, 2) := by decide +kernel
set_option maxRecDepth 100000 in
theorem dF_add_6 : decode bF_add 6 = .ok (.if_icmp .ge 33, 3) := by decide +kernel
set_option maxRecDepth 100000 in
theorem dF_add_9 : decode bF_add 9 = .ok (.aload_n 0, 1) := by decide +kernel
set_option maxRecDepth 100000 in
theorem dF_add_10 : decode bF_add 10 = .ok (.getfield 9, 3) := by decide +kernel
set_option maxRecDepth 100000 in
theorem dF_add_13 : decode bF_add 13 = .ok (.aload_n 0, 1) := by decide +kernel
set_option maxRecDepth 100000 in
theorem dF_add_14 : decode bF_add 14 = .ok (.getfield 18, 3) := by decide +kernel
set_option maxRecDepth 100000 in
theorem dF_add_17 : decode bF_add 17 = .ok (.iload_n 1, 1) := by decide +kernel
set_option maxRecDepth 100000 in
theorem dF_add_18 : decode bF_add 18 = .ok (.iastore, 1) := by decide +kernel
set_option maxRecDepth 100000 in
theorem dF_add_19 : decode bF_add 19 = .ok (.aload_n 0, 1) := by decide +kernel
set_option maxRecDepth 100000 in
theorem dF_add_20 : decode bF_add 20 = .ok (.getfield 15, 3) := by decide +kernel
set_option maxRecDepth 100000 in
theorem dF_add_23 : decode bF_add 23 = .ok (.aload_n 0, 1) := by decide +kernel
set_option maxRecDepth 100000 in
theorem dF_add_24 : decode bF_add 24 = .ok (.getfield 18, 3) := by decide +kernel
set_option maxRecDepth 100000 in
theorem dF_add_27 : decode bF_add 27 = .ok (.iload_n 2, 1) := by decide +kernel
set_option maxRecDepth 100000 in
theorem dF_add_28 : decode bF_add 28 = .ok (.iastore, 1) := by decide +kernel
set_option maxRecDepth 100000 in
theorem dF_add_29 : decode bF_add 29 = .ok (.aload_n 0, 1) := by decide +kernel
set_option maxRecDepth 100000 in
theorem dF_add_30 : decode bF_add 30 = .ok (.dup, 1) := by decide +kernel
set_option maxRecDepth 100000 in
theorem dF_add_31 : decode bF_add 31 = .ok (.getfield 18, 3) := by decide +kernel
set_option maxRecDepth 100000 in
theorem dF_add_34 : decode bF_add 34 = .ok (.iconst 1, 1) := by decide +kernel
set_option maxRecDepth 100000 in
theorem dF_add_35 : decode bF_add 35 = .ok (.iadd, 1) := by decide +kernel
set_option maxRecDepth 100000 in
theorem dF_add_36 : decode bF_add 36 = .ok (.putfield 18, 3) := by decide +kernel
set_option maxRecDepth 100000 in
theorem dF_add_39 : decode bF_add 39 = .ok (.return_, 1) := by decide +kernel
def fF_add (σ : xS) (a1 : Int32) (a2 : Int32) : Option (xS) :=
  if 40 ≤ (σ.1 9 0 2) then
  (some σ)
  else
  (if ¬ ((σ.1 9 0 2) < 0 ∨ 40 ≤ (σ.1 9 0 2).toNatClampNeg) then
  xl (x_si σ 10 0 ((σ.1 9 0 2).toNatClampNeg) a1) fun s3 =>
  if ¬ ((s3.1 9 0 2) < 0 ∨ 40 ≤ (s3.1 9 0 2).toNatClampNeg) then
  xl (x_si s3 11 0 ((s3.1 9 0 2).toNatClampNeg) a2) fun s5 =>
  xl (x_si s5 9 0 2 ((s5.1 9 0 2) + 1)) fun s6 =>
  some s6
  else none
  else none)
set_option maxHeartbeats 4000000 in
set_option maxRecDepth 100000 in
theorem cF_add (l : Launch) (E : xE) (σ : xS) (τ : yS) (a1 : Int32) (a2 : Int32) (res : xS) (hf : fF_add σ a1 a2 = some res) : xM l E yF_add bF_add 3 none 0 0 0 [.ref (E.2.2.1 9 0), .int a1, .int a2] σ τ none res τ := by
  refine x_met (by decide) (Nat.le_of_ble_eq_true rfl) (fun p e R s m args below meth c A ls H locs C hw hl => ?_)
  have hl : lv_has ls 3 [(0, .ref (E.2.2.1 9 0)), (1, .int a1), (2, .int a2)] := hl
  have hx := C.1
  have hb := C.2.1
  unfold fF_add at hf
  refine lv_aload_n hx hb dF_add_0 rfl (lv_at hl 0 rfl) ?_
  refine x_get C hw 9 0 2 (v := .int (σ.1 9 0 2)) at_9 rfl rfl ⟨by decide, by decide⟩ wF_18 rfl dF_add_1 ?_
  refine lv_bipush (v := 40) hx hb dF_add_4 (by decide) ?_
  refine lv_icmp_ge (tgt := 39) hx hb dF_add_6 (by decide) (fun c1 => ?_) (fun c1 => ?_)
  · replace hf := x_ip c1 hf
    obtain rfl := Option.some.inj hf
    exact x_vret C hw dF_add_39
  · replace hf := x_in c1 hf
    refine lv_aload_n hx hb dF_add_9 rfl (lv_at hl 0 rfl) ?_
    refine x_get C hw 9 0 0 (v := .ref (E.2.2.1 10 0)) at_9 rfl rfl ⟨by decide, by decide⟩ wF_9 rfl dF_add_10 ?_
    refine lv_aload_n hx hb dF_add_13 rfl (lv_at hl 0 rfl) ?_
    refine x_get C hw 9 0 2 (v := .int (σ.1 9 0 2)) at_9 rfl rfl ⟨by decide, by decide⟩ wF_18 rfl dF_add_14 ?_
    refine lv_iload_n hx hb dF_add_17 rfl (lv_at hl 1 rfl) ?_
    obtain ⟨g2, hf⟩ := x_g hf
    refine x_ist C hw 10 0 at_10 rfl rfl g2 dF_add_18 (fun H locs hw => ?_)
    obtain ⟨s3, es3, hf⟩ := x_l hf
    rw [← es3] at hw
    refine lv_aload_n hx hb dF_add_19 rfl (lv_at hl 0 rfl) ?_
    refine x_get C hw 9 0 1 (v := .ref (E.2.2.1 11 0)) at_9 rfl rfl ⟨by decide, by decide⟩ wF_15 rfl dF_add_20 ?_
    refine lv_aload_n hx hb dF_add_23 rfl (lv_at hl 0 rfl) ?_
    refine x_get C hw 9 0 2 (v := .int (s3.1 9 0 2)) at_9 rfl rfl ⟨by decide, by decide⟩ wF_18 rfl dF_add_24 ?_
    refine lv_iload_n hx hb dF_add_27 rfl (lv_at hl 2 rfl) ?_
    obtain ⟨g4, hf⟩ := x_g hf
    refine x_ist C hw 11 0 at_11 rfl rfl g4 dF_add_28 (fun H locs hw => ?_)
    obtain ⟨s5, es5, hf⟩ := x_l hf
    rw [← es5] at hw
    refine lv_aload_n hx hb dF_add_29 rfl (lv_at hl 0 rfl) ?_
    refine lv_dup hx hb dF_add_30 rfl ?_
    refine x_get C hw 9 0 2 (v := .int (s5.1 9 0 2)) at_9 rfl rfl ⟨by decide, by decide⟩ wF_18 rfl dF_add_31 ?_
    refine lv_iconst (v := 1) hx hb dF_add_34 (by decide) ?_
    refine lv_iadd hx hb dF_add_35 ?_
    refine x_puti C hw 9 0 2 at_9 rfl rfl rfl ⟨rfl, rfl⟩ ⟨by decide, by decide⟩ (Nat.le_of_ble_eq_true rfl) wF_18 dF_add_36 (fun H locs hw => ?_)
    obtain ⟨s6, es6, hf⟩ := x_l hf
    rw [← es6] at hw
    obtain rfl := Option.some.inj hf
    exact x_vret C hw dF_add_39
-- StandIns findAbove (I)V
set_option maxRecDepth 100000 in
theorem dA_findAbove_0 : decode bA_findAbove 0 = .ok (.aload_n 0, 1) := by decide +kernel
set_option maxRecDepth 100000 in
theorem dA_findAbove_1 : decode bA_findAbove 1 = .ok (.getfield 59, 3) := by decide +kernel
set_option maxRecDepth 100000 in
theorem dA_findAbove_4 : decode bA_findAbove 4 = .ok (.iconst 0, 1) := by decide +kernel
set_option maxRecDepth 100000 in
theorem dA_findAbove_5 : decode bA_findAbove 5 = .ok (.putfield 264, 3) := by decide +kernel
set_option maxRecDepth 100000 in
theorem dA_findAbove_8 : decode bA_findAbove 8 = .ok (.iconst 0, 1) := by decide +kernel
set_option maxRecDepth 100000 in
theorem dA_findAbove_9 : decode bA_findAbove 9 = .ok (.istore_n 2, 1) := by decide +kernel
set_option maxRecDepth 100000 in
theorem dA_findAbove_10 : decode bA_findAbove 10 = .ok (.iload_n 2, 1) := by decide +kernel
set_option maxRecDepth 100000 in
theorem dA_findAbove_11 : decode bA_findAbove 11 = .ok (.aload_n 0, 1) := by decide +kernel
set_option maxRecDepth 100000 in
theorem dA_findAbove_12 : decode bA_findAbove 12 = .ok (.getfield 43, 3) := by decide +kernel
set_option maxRecDepth 100000 in
theorem dA_findAbove_15 : decode bA_findAbove 15 = .ok (.getfield 225, 3) := by decide +kernel
set_option maxRecDepth 100000 in
theorem dA_findAbove_18 : decode bA_findAbove 18 = .ok (.if_icmp .ge 50, 3) := by decide +kernel
set_option maxRecDepth 100000 in
theorem dA_findAbove_21 : decode bA_findAbove 21 = .ok (.aload_n 0, 1) := by decide +kernel
set_option maxRecDepth 100000 in
theorem dA_findAbove_22 : decode bA_findAbove 22 = .ok (.getfield 43, 3) := by decide +kernel
set_option maxRecDepth 100000 in
theorem dA_findAbove_25 : decode bA_findAbove 25 = .ok (.getfield 226, 3) := by decide +kernel
set_option maxRecDepth 100000 in
theorem dA_findAbove_28 : decode bA_findAbove 28 = .ok (.iload_n 2, 1) := by decide +kernel
set_option maxRecDepth 100000 in
theorem dA_findAbove_29 : decode bA_findAbove 29 = .ok (.aaload, 1) := by decide +kernel
set_option maxRecDepth 100000 in
theorem dA_findAbove_30 : decode bA_findAbove 30 = .ok (.astore_n 3, 1) := by decide +kernel
set_option maxRecDepth 100000 in
theorem dA_findAbove_31 : decode bA_findAbove 31 = .ok (.aload_n 3, 1) := by decide +kernel
set_option maxRecDepth 100000 in
theorem dA_findAbove_32 : decode bA_findAbove 32 = .ok (.getfield 230, 3) := by decide +kernel
set_option maxRecDepth 100000 in
theorem dA_findAbove_35 : decode bA_findAbove 35 = .ok (.iload_n 1, 1) := by decide +kernel
set_option maxRecDepth 100000 in
theorem dA_findAbove_36 : decode bA_findAbove 36 = .ok (.if_icmp .le 26, 3) := by decide +kernel
set_option maxRecDepth 100000 in
theorem dA_findAbove_39 : decode bA_findAbove 39 = .ok (.aload_n 0, 1) := by decide +kernel
set_option maxRecDepth 100000 in
theorem dA_findAbove_40 : decode bA_findAbove 40 = .ok (.getfield 73, 3) := by decide +kernel
set_option maxRecDepth 100000 in
theorem dA_findAbove_43 : decode bA_findAbove 43 = .ok (.aload_n 3, 1) := by decide +kernel
set_option maxRecDepth 100000 in
theorem dA_findAbove_44 : decode bA_findAbove 44 = .ok (.invokevirtual 299, 3) := by decide +kernel
set_option maxRecDepth 100000 in
theorem dA_findAbove_47 : decode bA_findAbove 47 = .ok (.ifCond .eq 15, 3) := by decide +kernel
set_option maxRecDepth 100000 in
theorem dA_findAbove_50 : decode bA_findAbove 50 = .ok (.aload_n 0, 1) := by decide +kernel
set_option maxRecDepth 100000 in
theorem dA_findAbove_51 : decode bA_findAbove 51 = .ok (.getfield 59, 3) := by decide +kernel
set_option maxRecDepth 100000 in
theorem dA_findAbove_54 : decode bA_findAbove 54 = .ok (.iload_n 2, 1) := by decide +kernel
set_option maxRecDepth 100000 in
theorem dA_findAbove_55 : decode bA_findAbove 55 = .ok (.aload_n 3, 1) := by decide +kernel
set_option maxRecDepth 100000 in
theorem dA_findAbove_56 : decode bA_findAbove 56 = .ok (.getfield 230, 3) := by decide +kernel
set_option maxRecDepth 100000 in
theorem dA_findAbove_59 : decode bA_findAbove 59 = .ok (.invokevirtual 337, 3) := by decide +kernel
set_option maxRecDepth 100000 in
theorem dA_findAbove_62 : decode bA_findAbove 62 = .ok (.iinc 2 1, 3) := by decide +kernel
set_option maxRecDepth 100000 in
theorem dA_findAbove_65 : decode bA_findAbove 65 = .ok (.goto (-55), 3) := by decide +kernel
set_option maxRecDepth 100000 in
theorem dA_findAbove_68 : decode bA_findAbove 68 = .ok (.return_, 1) := by decide +kernel
def fA_findAbove_62 (N : Nat) (rec10 : xS → Int32 → Int32 → Option (xS)) (σ : xS) (a1 : Int32) (a2 : Int32) : Option (xS) :=
  rec10 σ a1 (a2 + 1)
def fA_findAbove_10b (N : Nat) (rec10 : xS → Int32 → Int32 → Option (xS)) (σ : xS) (a1 : Int32) (a2 : Int32) : Option (xS) :=
  if (σ.1 6 0 1) ≤ a2 then
  (some σ)
  else
  (if ¬ (a2 < 0 ∨ 40 ≤ a2.toNatClampNeg) then
  if (σ.1 15 a2.toNatClampNeg 0) ≤ a1 then
  (fA_findAbove_62 N rec10 σ a1 a2)
  else
  (xp (fP_matches σ 16 a2.toNatClampNeg) fun r15 =>
  if r15 = 0 then
  (fA_findAbove_62 N rec10 σ a1 a2)
  else
  (xp (fF_add σ a2 (σ.1 15 a2.toNatClampNeg 0)) fun s18 =>
  fA_findAbove_62 N rec10 s18 a1 a2))
  else none)
def fA_findAbove_10 (N : Nat) : Nat → xS → Int32 → Int32 → Option (xS)
  | 0, _, _, _ => none
  | n + 1, σ, a1, a2 => fA_findAbove_10b N (fA_findAbove_10 N n) σ a1 a2
def fA_findAbove (N : Nat) (σ : xS) (a1 : Int32) : Option (xS) :=
  xl (x_si σ 9 0 2 0) fun s19 =>
  fA_findAbove_10 N N s19 a1 0
set_option maxHeartbeats 4000000 in
set_option maxRecDepth 100000 in
theorem wA_findAbove_62 {p : Program} {l : Launch} {e : Env} {R : Room} {s : State} {m : MethodId} {args : Array Value} {below : List Frame} {meth : Method} {c : Code} {E : xE} {A : Nat → Prop} {τ : yS} (C : xC p s m args meth c R E A bA_findAbove 4 yA_findAbove none 11 0 0) (N : Nat) (σ : xS) (rec10 : xS → Int32 → Int32 → Option (xS)) (hrec10 : ∀ (σ : xS) (a1 : Int32) (a2 : Int32) (res : xS), rec10 σ a1 a2 = some res → ∀ (H : Heap) (locs : List Loc) (ls : Array Slot), xW E A s σ τ H locs → lv_has ls 4 [(0, .ref (E.2.2.1 0 0)), (1, .int a1), (2, .int a2)] → W p l e R s m args below meth c H locs 0 0 (MQ below (xQ E A none res τ) args s 0 0 A) (F0 m 10 ls [])) (a1 : Int32) (a2 : Int32) (res : xS) (hf : fA_findAbove_62 N rec10 σ a1 a2 = some res) (H : Heap) (locs : List Loc) (ls : Array Slot) (hw : xW E A s σ τ H locs) (hl : lv_has ls 4 [(0, .ref (E.2.2.1 0 0)), (1, .int a1), (2, .int a2)]) : W p l e R s m args below meth c H locs 0 0 (MQ below (xQ E A none res τ) args s 0 0 A) (F0 m 62 ls []) := by
  have hx := C.1
  have hb := C.2.1
  unfold fA_findAbove_62 at hf
  refine lv_iinc (v := a2 + 1) (lv' := [(2, .int (a2 + 1)), (0, .ref (E.2.2.1 0 0)), (1, .int a1)]) hx hb dA_findAbove_62 hl (k := 2) rfl rfl (by decide) rfl (fun ls hl => ?_)
  refine lv_goto (tgt := 10) hx hb dA_findAbove_65 (by decide) ?_
  exact hrec10 σ a1 (a2 + 1) res hf H locs ls hw (lv_sub hl [1, 2, 0] rfl)
set_option maxHeartbeats 4000000 in
set_option maxRecDepth 100000 in
theorem wA_findAbove_10b {p : Program} {l : Launch} {e : Env} {R : Room} {s : State} {m : MethodId} {args : Array Value} {below : List Frame} {meth : Method} {c : Code} {E : xE} {A : Nat → Prop} {τ : yS} (C : xC p s m args meth c R E A bA_findAbove 4 yA_findAbove none 11 0 0) (N : Nat) (σ : xS) (rec10 : xS → Int32 → Int32 → Option (xS)) (hrec10 : ∀ (σ : xS) (a1 : Int32) (a2 : Int32) (res : xS), rec10 σ a1 a2 = some res → ∀ (H : Heap) (locs : List Loc) (ls : Array Slot), xW E A s σ τ H locs → lv_has ls 4 [(0, .ref (E.2.2.1 0 0)), (1, .int a1), (2, .int a2)] → W p l e R s m args below meth c H locs 0 0 (MQ below (xQ E A none res τ) args s 0 0 A) (F0 m 10 ls [])) (a1 : Int32) (a2 : Int32) (res : xS) (hf : fA_findAbove_10b N rec10 σ a1 a2 = some res) (H : Heap) (locs : List Loc) (ls : Array Slot) (hw : xW E A s σ τ H locs) (hl : lv_has ls 4 [(0, .ref (E.2.2.1 0 0)), (1, .int a1), (2, .int a2)]) : W p l e R s m args below meth c H locs 0 0 (MQ below (xQ E A none res τ) args s 0 0 A) (F0 m 10 ls []) := by
  have hx := C.1
  have hb := C.2.1
  unfold fA_findAbove_10b at hf
  refine lv_iload_n hx hb dA_findAbove_10 rfl (lv_at hl 2 rfl) ?_
  refine lv_aload_n hx hb dA_findAbove_11 rfl (lv_at hl 0 rfl) ?_
  refine x_get C hw 0 0 6 (v := .ref (E.2.2.1 6 0)) at_0 rfl rfl ⟨by decide, by decide⟩ wA_43 rfl dA_findAbove_12 ?_
  refine x_getN C hw 6 0 1 (v := .int (σ.1 6 0 1)) at_6 rfl rfl ⟨by decide, by decide⟩ wA_225 rfl dA_findAbove_15 ?_
  refine lv_icmp_ge (tgt := 68) hx hb dA_findAbove_18 (by decide) (fun c10 => ?_) (fun c10 => ?_)
  · replace hf := x_ip c10 hf
    obtain rfl := Option.some.inj hf
    exact x_vret C hw dA_findAbove_68
  · replace hf := x_in c10 hf
    refine lv_aload_n hx hb dA_findAbove_21 rfl (lv_at hl 0 rfl) ?_
    refine x_get C hw 0 0 6 (v := .ref (E.2.2.1 6 0)) at_0 rfl rfl ⟨by decide, by decide⟩ wA_43 rfl dA_findAbove_22 ?_
    refine x_getN C hw 6 0 0 (v := .ref (E.2.2.1 7 0)) at_6 rfl rfl ⟨by decide, by decide⟩ wA_226 rfl dA_findAbove_25 ?_
    refine lv_iload_n hx hb dA_findAbove_28 rfl (lv_at hl 2 rfl) ?_
    obtain ⟨g11, hf⟩ := x_g hf
    refine x_ald7 C hw g11 dA_findAbove_29 ?_
    have g12 := x_lt g11
    refine lv_astore_n (lv' := [(3, .ref (E.2.2.1 15 a2.toNatClampNeg)), (0, .ref (E.2.2.1 0 0)), (1, .int a1), (2, .int a2)]) hx hb dA_findAbove_30 rfl hl (by decide) rfl (fun ls hl => ?_)
    refine lv_aload_n hx hb dA_findAbove_31 rfl (lv_at hl 0 rfl) ?_
    refine x_getN C hw 15 a2.toNatClampNeg 0 (v := .int (σ.1 15 a2.toNatClampNeg 0)) (at_15 g12) rfl rfl ⟨by decide, by decide⟩ wA_230 rfl dA_findAbove_32 ?_
    refine lv_iload_n hx hb dA_findAbove_35 rfl (lv_at hl 2 rfl) ?_
    refine lv_icmp_le (tgt := 62) hx hb dA_findAbove_36 (by decide) (fun c13 => ?_) (fun c13 => ?_)
    · replace hf := x_ip c13 hf
      exact wA_findAbove_62 C N σ rec10 hrec10 a1 a2 res hf H locs ls hw (lv_sub hl [1, 2, 3] rfl)
    · replace hf := x_in c13 hf
      refine lv_aload_n hx hb dA_findAbove_39 rfl (lv_at hl 1 rfl) ?_
      refine x_get C hw 0 0 11 (v := .ref (E.2.2.1 17 16)) at_0 rfl rfl ⟨by decide, by decide⟩ wA_73 rfl dA_findAbove_40 ?_
      refine lv_aload_n hx hb dA_findAbove_43 rfl (lv_at hl 0 rfl) ?_
      obtain ⟨r15, h14, hf⟩ := x_p hf
      refine x_callVN (As := [.ref (E.2.2.1 15 a2.toNatClampNeg)]) (rest := []) (st1 := [.int r15]) C hw (cP_matches l E σ τ 16 a2.toNatClampNeg r15 h14) kA_299 (x_recv C hw 17 16 (at_17 (by decide)) rfl rfl) (by decide) rfl rfl hl.1 (lv_room (Nat.le_of_ble_eq_true rfl)) dA_findAbove_44 ⟨by decide, by decide⟩ rfl (fun H locs hw => ?_)
      refine lv_if_eq (tgt := 62) hx hb dA_findAbove_47 (by decide) (fun c16 => ?_) (fun c16 => ?_)
      · replace hf := x_ip c16 hf
        exact wA_findAbove_62 C N σ rec10 hrec10 a1 a2 res hf H locs ls hw (lv_sub hl [1, 2, 3] rfl)
      · replace hf := x_in c16 hf
        refine lv_aload_n hx hb dA_findAbove_50 rfl (lv_at hl 1 rfl) ?_
        refine x_get C hw 0 0 9 (v := .ref (E.2.2.1 9 0)) at_0 rfl rfl ⟨by decide, by decide⟩ wA_59 rfl dA_findAbove_51 ?_
        refine lv_iload_n hx hb dA_findAbove_54 rfl (lv_at hl 3 rfl) ?_
        refine lv_aload_n hx hb dA_findAbove_55 rfl (lv_at hl 0 rfl) ?_
        refine x_getN C hw 15 a2.toNatClampNeg 0 (v := .int (σ.1 15 a2.toNatClampNeg 0)) (at_15 g12) rfl rfl ⟨by decide, by decide⟩ wA_230 rfl dA_findAbove_56 ?_
        obtain ⟨s18, h17, hf⟩ := x_p hf
        refine x_callVN (As := [.int a2, .int (σ.1 15 a2.toNatClampNeg 0)]) (rest := []) (st1 := []) C hw (cF_add l E σ τ a2 (σ.1 15 a2.toNatClampNeg 0) s18 h17) kA_337 (x_recv C hw 9 0 at_9 rfl rfl) (by decide) rfl rfl hl.1 (lv_room (Nat.le_of_ble_eq_true rfl)) dA_findAbove_59 ⟨by decide, by decide⟩ rfl (fun H locs hw => ?_)
        exact wA_findAbove_62 C N s18 rec10 hrec10 a1 a2 res hf H locs ls hw (lv_sub hl [1, 2, 3] rfl)
set_option maxHeartbeats 4000000 in
set_option maxRecDepth 100000 in
theorem wA_findAbove_10 {p : Program} {l : Launch} {e : Env} {R : Room} {s : State} {m : MethodId} {args : Array Value} {below : List Frame} {meth : Method} {c : Code} {E : xE} {A : Nat → Prop} {τ : yS} (C : xC p s m args meth c R E A bA_findAbove 4 yA_findAbove none 11 0 0) (N : Nat) (n : Nat) : ∀ (σ : xS) (a1 : Int32) (a2 : Int32) (res : xS), fA_findAbove_10 N n σ a1 a2 = some res → ∀ (H : Heap) (locs : List Loc) (ls : Array Slot), xW E A s σ τ H locs → lv_has ls 4 [(0, .ref (E.2.2.1 0 0)), (1, .int a1), (2, .int a2)] → W p l e R s m args below meth c H locs 0 0 (MQ below (xQ E A none res τ) args s 0 0 A) (F0 m 10 ls []) := by
  induction n with
  | zero => intro σ a1 a2 res hf; cases hf
  | succ n ih =>
    intro σ a1 a2 res hf H locs ls hw hl
    exact wA_findAbove_10b C N σ (fA_findAbove_10 N n) ih a1 a2 res hf H locs ls hw hl
set_option maxHeartbeats 4000000 in
set_option maxRecDepth 100000 in
theorem cA_findAbove (l : Launch) (E : xE) (N : Nat) (σ : xS) (τ : yS) (a1 : Int32) (res : xS) (hf : fA_findAbove N σ a1 = some res) : xM l E yA_findAbove bA_findAbove 4 none 11 0 0 [.ref (E.2.2.1 0 0), .int a1] σ τ none res τ := by
  refine x_met (by decide) (Nat.le_of_ble_eq_true rfl) (fun p e R s m args below meth c A ls H locs C hw hl => ?_)
  have hl : lv_has ls 4 [(0, .ref (E.2.2.1 0 0)), (1, .int a1)] := hl
  have hx := C.1
  have hb := C.2.1
  unfold fA_findAbove at hf
  refine lv_aload_n hx hb dA_findAbove_0 rfl (lv_at hl 0 rfl) ?_
  refine x_get C hw 0 0 9 (v := .ref (E.2.2.1 9 0)) at_0 rfl rfl ⟨by decide, by decide⟩ wA_59 rfl dA_findAbove_1 ?_
  refine lv_iconst (v := 0) hx hb dA_findAbove_4 (by decide) ?_
  refine x_putiN C hw 9 0 2 at_9 rfl rfl rfl ⟨rfl, rfl⟩ ⟨by decide, by decide⟩ (Nat.le_of_ble_eq_true rfl) wA_264 dA_findAbove_5 (fun H locs hw => ?_)
  obtain ⟨s19, es19, hf⟩ := x_l hf
  rw [← es19] at hw
  refine lv_iconst (v := 0) hx hb dA_findAbove_8 (by decide) ?_
  refine lv_istore_n (lv' := [(2, .int 0), (0, .ref (E.2.2.1 0 0)), (1, .int a1)]) hx hb dA_findAbove_9 rfl hl (by decide) rfl (fun ls hl => ?_)
  exact wA_findAbove_10 C N N s19 a1 0 res hf H locs ls hw (lv_sub hl [1, 2, 0] rfl)
-- StandIns$Notebook manyOf (I)I
set_option maxRecDepth 100000 in
theorem dB_manyOf_0 : decode bB_manyOf 0 = .ok (.iconst 0, 1) := by decide +kernel
set_option maxRecDepth 100000 in
theorem dB_manyOf_1 : decode bB_manyOf 1 = .ok (.istore_n 2, 1) := by decide +kernel
set_option maxRecDepth 100000 in
theorem dB_manyOf_2 : decode bB_manyOf 2 = .ok (.iconst 0, 1) := by decide +kernel
set_option maxRecDepth 100000 in
theorem dB_manyOf_3 : decode bB_manyOf 3 = .ok (.istore_n 3, 1) := by decide +kernel
set_option maxRecDepth 100000 in
theorem dB_manyOf_4 : decode bB_manyOf 4 = .ok (.iload_n 3, 1) := by decide +kernel
set_option maxRecDepth 100000 in
theorem dB_manyOf_5 : decode bB_manyOf 5 = .ok (.aload_n 0, 1) := by decide +kernel
set_option maxRecDepth 100000 in
theorem dB_manyOf_6 : decode bB_manyOf 6 = .ok (.getfield 17, 3) := by decide +kernel
set_option maxRecDepth 100000 in
theorem dB_manyOf_9 : decode bB_manyOf 9 = .ok (.if_icmp .ge 25, 3) := by decide +kernel
set_option maxRecDepth 100000 in
theorem dB_manyOf_12 : decode bB_manyOf 12 = .ok (.aload_n 0, 1) := by decide +kernel
set_option maxRecDepth 100000 in
theorem dB_manyOf_13 : decode bB_manyOf 13 = .ok (.getfield 11, 3) := by decide +kernel
set_option maxRecDepth 100000 in
theorem dB_manyOf_16 : decode bB_manyOf 16 = .ok (.iload_n 3, 1) := by decide +kernel
set_option maxRecDepth 100000 in
theorem dB_manyOf_17 : decode bB_manyOf 17 = .ok (.aaload, 1) := by decide +kernel
set_option maxRecDepth 100000 in
theorem dB_manyOf_18 : decode bB_manyOf 18 = .ok (.getfield 33, 3) := by decide +kernel
set_option maxRecDepth 100000 in
theorem dB_manyOf_21 : decode bB_manyOf 21 = .ok (.iload_n 1, 1) := by decide +kernel
set_option maxRecDepth 100000 in
theorem dB_manyOf_22 : decode bB_manyOf 22 = .ok (.if_icmp .ne 6, 3) := by decide +kernel
set_option maxRecDepth 100000 in
theorem dB_manyOf_25 : decode bB_manyOf 25 = .ok (.iinc 2 1, 3) := by decide +kernel
set_option maxRecDepth 100000 in
theorem dB_manyOf_28 : decode bB_manyOf 28 = .ok (.iinc 3 1, 3) := by decide +kernel
set_option maxRecDepth 100000 in
theorem dB_manyOf_31 : decode bB_manyOf 31 = .ok (.goto (-27), 3) := by decide +kernel
set_option maxRecDepth 100000 in
theorem dB_manyOf_34 : decode bB_manyOf 34 = .ok (.iload_n 2, 1) := by decide +kernel
set_option maxRecDepth 100000 in
theorem dB_manyOf_35 : decode bB_manyOf 35 = .ok (.ireturn, 1) := by decide +kernel
def fB_manyOf_28 (N : Nat) (rec4 : Int32 → Int32 → Int32 → Option (Int32)) (σ : xS) (a1 : Int32) (a2 : Int32) (a3 : Int32) : Option (Int32) :=
  rec4 a1 a2 (a3 + 1)
def fB_manyOf_4b (N : Nat) (rec4 : Int32 → Int32 → Int32 → Option (Int32)) (σ : xS) (a1 : Int32) (a2 : Int32) (a3 : Int32) : Option (Int32) :=
  if (σ.1 6 0 1) ≤ a3 then
  (some a2)
  else
  (if ¬ (a3 < 0 ∨ 40 ≤ a3.toNatClampNeg) then
  if (σ.1 15 a3.toNatClampNeg 1) = a1 then
  (fB_manyOf_28 N rec4 σ a1 (a2 + 1) a3)
  else
  (fB_manyOf_28 N rec4 σ a1 a2 a3)
  else none)
def fB_manyOf_4 (N : Nat) (σ : xS) : Nat → Int32 → Int32 → Int32 → Option (Int32)
  | 0, _, _, _ => none
  | n + 1, a1, a2, a3 => fB_manyOf_4b N (fB_manyOf_4 N σ n) σ a1 a2 a3
def fB_manyOf (N : Nat) (σ : xS) (a1 : Int32) : Option (Int32) :=
  fB_manyOf_4 N σ N a1 0 0
set_option maxHeartbeats 4000000 in
set_option maxRecDepth 100000 in
theorem wB_manyOf_28 {p : Program} {l : Launch} {e : Env} {R : Room} {s : State} {m : MethodId} {args : Array Value} {below : List Frame} {meth : Method} {c : Code} {E : xE} {A : Nat → Prop} {τ : yS} (C : xC p s m args meth c R E A bB_manyOf 4 yB_manyOf (some .int) 0 0 0) (N : Nat) (σ : xS) (rec4 : Int32 → Int32 → Int32 → Option (Int32)) (hrec4 : ∀ (a1 : Int32) (a2 : Int32) (a3 : Int32) (res : Int32), rec4 a1 a2 a3 = some res → ∀ (H : Heap) (locs : List Loc) (ls : Array Slot), xW E A s σ τ H locs → lv_has ls 4 [(0, .ref (E.2.2.1 6 0)), (1, .int a1), (2, .int a2), (3, .int a3)] → W p l e R s m args below meth c H locs 0 0 (MQ below (xQ E A (some (.int res)) σ τ) args s 0 0 A) (F0 m 4 ls [])) (a1 : Int32) (a2 : Int32) (a3 : Int32) (res : Int32) (hf : fB_manyOf_28 N rec4 σ a1 a2 a3 = some res) (H : Heap) (locs : List Loc) (ls : Array Slot) (hw : xW E A s σ τ H locs) (hl : lv_has ls 4 [(0, .ref (E.2.2.1 6 0)), (1, .int a1), (2, .int a2), (3, .int a3)]) : W p l e R s m args below meth c H locs 0 0 (MQ below (xQ E A (some (.int res)) σ τ) args s 0 0 A) (F0 m 28 ls []) := by
  have hx := C.1
  have hb := C.2.1
  unfold fB_manyOf_28 at hf
  refine lv_iinc (v := a3 + 1) (lv' := [(3, .int (a3 + 1)), (0, .ref (E.2.2.1 6 0)), (1, .int a1), (2, .int a2)]) hx hb dB_manyOf_28 hl (k := 3) rfl rfl (by decide) rfl (fun ls hl => ?_)
  refine lv_goto (tgt := 4) hx hb dB_manyOf_31 (by decide) ?_
  exact hrec4 a1 a2 (a3 + 1) res hf H locs ls hw (lv_sub hl [1, 2, 3, 0] rfl)
set_option maxHeartbeats 4000000 in
set_option maxRecDepth 100000 in
theorem wB_manyOf_4b {p : Program} {l : Launch} {e : Env} {R : Room} {s : State} {m : MethodId} {args : Array Value} {below : List Frame} {meth : Method} {c : Code} {E : xE} {A : Nat → Prop} {τ : yS} (C : xC p s m args meth c R E A bB_manyOf 4 yB_manyOf (some .int) 0 0 0) (N : Nat) (σ : xS) (rec4 : Int32 → Int32 → Int32 → Option (Int32)) (hrec4 : ∀ (a1 : Int32) (a2 : Int32) (a3 : Int32) (res : Int32), rec4 a1 a2 a3 = some res → ∀ (H : Heap) (locs : List Loc) (ls : Array Slot), xW E A s σ τ H locs → lv_has ls 4 [(0, .ref (E.2.2.1 6 0)), (1, .int a1), (2, .int a2), (3, .int a3)] → W p l e R s m args below meth c H locs 0 0 (MQ below (xQ E A (some (.int res)) σ τ) args s 0 0 A) (F0 m 4 ls [])) (a1 : Int32) (a2 : Int32) (a3 : Int32) (res : Int32) (hf : fB_manyOf_4b N rec4 σ a1 a2 a3 = some res) (H : Heap) (locs : List Loc) (ls : Array Slot) (hw : xW E A s σ τ H locs) (hl : lv_has ls 4 [(0, .ref (E.2.2.1 6 0)), (1, .int a1), (2, .int a2), (3, .int a3)]) : W p l e R s m args below meth c H locs 0 0 (MQ below (xQ E A (some (.int res)) σ τ) args s 0 0 A) (F0 m 4 ls []) := by
  have hx := C.1
  have hb := C.2.1
  unfold fB_manyOf_4b at hf
  refine lv_iload_n hx hb dB_manyOf_4 rfl (lv_at hl 3 rfl) ?_
  refine lv_aload_n hx hb dB_manyOf_5 rfl (lv_at hl 0 rfl) ?_
  refine x_get C hw 6 0 1 (v := .int (σ.1 6 0 1)) at_6 rfl rfl ⟨by decide, by decide⟩ wB_17 rfl dB_manyOf_6 ?_
  refine lv_icmp_ge (tgt := 34) hx hb dB_manyOf_9 (by decide) (fun c5 => ?_) (fun c5 => ?_)
  · replace hf := x_ip c5 hf
    refine lv_iload_n hx hb dB_manyOf_34 rfl (lv_at hl 2 rfl) ?_
    obtain rfl := Option.some.inj hf
    exact x_iret C hw dB_manyOf_35
  · replace hf := x_in c5 hf
    refine lv_aload_n hx hb dB_manyOf_12 rfl (lv_at hl 0 rfl) ?_
    refine x_get C hw 6 0 0 (v := .ref (E.2.2.1 7 0)) at_6 rfl rfl ⟨by decide, by decide⟩ wB_11 rfl dB_manyOf_13 ?_
    refine lv_iload_n hx hb dB_manyOf_16 rfl (lv_at hl 3 rfl) ?_
    obtain ⟨g6, hf⟩ := x_g hf
    refine x_ald7 C hw g6 dB_manyOf_17 ?_
    have g7 := x_lt g6
    refine x_getN C hw 15 a3.toNatClampNeg 1 (v := .int (σ.1 15 a3.toNatClampNeg 1)) (at_15 g7) rfl rfl ⟨by decide, by decide⟩ wB_33 rfl dB_manyOf_18 ?_
    refine lv_iload_n hx hb dB_manyOf_21 rfl (lv_at hl 1 rfl) ?_
    refine lv_icmp_ne (tgt := 28) hx hb dB_manyOf_22 (by decide) (fun c8 => ?_) (fun c8 => ?_)
    · replace hf := x_in c8 hf
      exact wB_manyOf_28 C N σ rec4 hrec4 a1 a2 a3 res hf H locs ls hw (lv_sub hl [0, 1, 2, 3] rfl)
    · replace hf := x_ip c8 hf
      refine lv_iinc (v := a2 + 1) (lv' := [(2, .int (a2 + 1)), (0, .ref (E.2.2.1 6 0)), (1, .int a1), (3, .int a3)]) hx hb dB_manyOf_25 hl (k := 2) rfl rfl (by decide) rfl (fun ls hl => ?_)
      exact wB_manyOf_28 C N σ rec4 hrec4 a1 (a2 + 1) a3 res hf H locs ls hw (lv_sub hl [1, 2, 0, 3] rfl)
set_option maxHeartbeats 4000000 in
set_option maxRecDepth 100000 in
theorem wB_manyOf_4 {p : Program} {l : Launch} {e : Env} {R : Room} {s : State} {m : MethodId} {args : Array Value} {below : List Frame} {meth : Method} {c : Code} {E : xE} {A : Nat → Prop} {τ : yS} (C : xC p s m args meth c R E A bB_manyOf 4 yB_manyOf (some .int) 0 0 0) (N : Nat) (σ : xS) (n : Nat) : ∀ (a1 : Int32) (a2 : Int32) (a3 : Int32) (res : Int32), fB_manyOf_4 N σ n a1 a2 a3 = some res → ∀ (H : Heap) (locs : List Loc) (ls : Array Slot), xW E A s σ τ H locs → lv_has ls 4 [(0, .ref (E.2.2.1 6 0)), (1, .int a1), (2, .int a2), (3, .int a3)] → W p l e R s m args below meth c H locs 0 0 (MQ below (xQ E A (some (.int res)) σ τ) args s 0 0 A) (F0 m 4 ls []) := by
  induction n with
  | zero => intro a1 a2 a3 res hf; cases hf
  | succ n ih =>
    intro a1 a2 a3 res hf H locs ls hw hl
    exact wB_manyOf_4b C N σ (fB_manyOf_4 N σ n) ih a1 a2 a3 res hf H locs ls hw hl
set_option maxHeartbeats 4000000 in
set_option maxRecDepth 100000 in
theorem cB_manyOf (l : Launch) (E : xE) (N : Nat) (σ : xS) (τ : yS) (a1 : Int32) (res : Int32) (hf : fB_manyOf N σ a1 = some res) : xM l E yB_manyOf bB_manyOf 4 (some .int) 0 0 0 [.ref (E.2.2.1 6 0), .int a1] σ τ (some (.int res)) σ τ := by
  refine x_met (by decide) (Nat.le_of_ble_eq_true rfl) (fun p e R s m args below meth c A ls H locs C hw hl => ?_)
  have hl : lv_has ls 4 [(0, .ref (E.2.2.1 6 0)), (1, .int a1)] := hl
  have hx := C.1
  have hb := C.2.1
  unfold fB_manyOf at hf
  refine lv_iconst (v := 0) hx hb dB_manyOf_0 (by decide) ?_
  refine lv_istore_n (lv' := [(2, .int 0), (0, .ref (E.2.2.1 6 0)), (1, .int a1)]) hx hb dB_manyOf_1 rfl hl (by decide) rfl (fun ls hl => ?_)
  refine lv_iconst (v := 0) hx hb dB_manyOf_2 (by decide) ?_
  refine lv_istore_n (lv' := [(3, .int 0), (2, .int 0), (0, .ref (E.2.2.1 6 0)), (1, .int a1)]) hx hb dB_manyOf_3 rfl hl (by decide) rfl (fun ls hl => ?_)
  exact wB_manyOf_4 C N σ N a1 0 0 res hf H locs ls hw (lv_sub hl [2, 3, 1, 0] rfl)
-- StandIns passes ()Z
set_option maxRecDepth 100000 in
theorem dA_passes_0 : decode bA_passes 0 = .ok (.aload_n 0, 1) := by decide +kernel
set_option maxRecDepth 100000 in
theorem dA_passes_1 : decode bA_passes 1 = .ok (.getfield 83, 3) := by decide +kernel
set_option maxRecDepth 100000 in
theorem dA_passes_4 : decode bA_passes 4 = .ok (.tableswitch 96 0 4 #[36, 56, 76, 96, 56], 36) := by decide +kernel
set_option maxRecDepth 100000 in
theorem dA_passes_40 : decode bA_passes 40 = .ok (.aload_n 0, 1) := by decide +kernel
set_option maxRecDepth 100000 in
theorem dA_passes_41 : decode bA_passes 41 = .ok (.getfield 59, 3) := by decide +kernel
set_option maxRecDepth 100000 in
theorem dA_passes_44 : decode bA_passes 44 = .ok (.getfield 264, 3) := by decide +kernel
set_option maxRecDepth 100000 in
theorem dA_passes_47 : decode bA_passes 47 = .ok (.aload_n 0, 1) := by decide +kernel
set_option maxRecDepth 100000 in
theorem dA_passes_48 : decode bA_passes 48 = .ok (.getfield 86, 3) := by decide +kernel
set_option maxRecDepth 100000 in
theorem dA_passes_51 : decode bA_passes 51 = .ok (.if_icmp .ne 7, 3) := by decide +kernel
set_option maxRecDepth 100000 in
theorem dA_passes_54 : decode bA_passes 54 = .ok (.iconst 1, 1) := by decide +kernel
set_option maxRecDepth 100000 in
theorem dA_passes_55 : decode bA_passes 55 = .ok (.goto 4, 3) := by decide +kernel
set_option maxRecDepth 100000 in
theorem dA_passes_58 : decode bA_passes 58 = .ok (.iconst 0, 1) := by decide +kernel
set_option maxRecDepth 100000 in
theorem dA_passes_59 : decode bA_passes 59 = .ok (.ireturn, 1) := by decide +kernel
set_option maxRecDepth 100000 in
theorem dA_passes_60 : decode bA_passes 60 = .ok (.aload_n 0, 1) := by decide +kernel
set_option maxRecDepth 100000 in
theorem dA_passes_61 : decode bA_passes 61 = .ok (.getfield 59, 3) := by decide +kernel
set_option maxRecDepth 100000 in
theorem dA_passes_64 : decode bA_passes 64 = .ok (.getfield 264, 3) := by decide +kernel
set_option maxRecDepth 100000 in
theorem dA_passes_67 : decode bA_passes 67 = .ok (.aload_n 0, 1) := by decide +kernel
set_option maxRecDepth 100000 in
theorem dA_passes_68 : decode bA_passes 68 = .ok (.getfield 86, 3) := by decide +kernel
set_option maxRecDepth 100000 in
theorem dA_passes_71 : decode bA_passes 71 = .ok (.if_icmp .lt 7, 3) := by decide +kernel
set_option maxRecDepth 100000 in
theorem dA_passes_74 : decode bA_passes 74 = .ok (.iconst 1, 1) := by decide +kernel
set_option maxRecDepth 100000 in
theorem dA_passes_75 : decode bA_passes 75 = .ok (.goto 4, 3) := by decide +kernel
set_option maxRecDepth 100000 in
theorem dA_passes_78 : decode bA_passes 78 = .ok (.iconst 0, 1) := by decide +kernel
set_option maxRecDepth 100000 in
theorem dA_passes_79 : decode bA_passes 79 = .ok (.ireturn, 1) := by decide +kernel
set_option maxRecDepth 100000 in
theorem dA_passes_80 : decode bA_passes 80 = .ok (.aload_n 0, 1) := by decide +kernel
set_option maxRecDepth 100000 in
theorem dA_passes_81 : decode bA_passes 81 = .ok (.getfield 59, 3) := by decide +kernel
set_option maxRecDepth 100000 in
theorem dA_passes_84 : decode bA_passes 84 = .ok (.getfield 264, 3) := by decide +kernel
set_option maxRecDepth 100000 in
theorem dA_passes_87 : decode bA_passes 87 = .ok (.aload_n 0, 1) := by decide +kernel
set_option maxRecDepth 100000 in
theorem dA_passes_88 : decode bA_passes 88 = .ok (.getfield 86, 3) := by decide +kernel
set_option maxRecDepth 100000 in
theorem dA_passes_91 : decode bA_passes 91 = .ok (.if_icmp .gt 7, 3) := by decide +kernel
set_option maxRecDepth 100000 in
theorem dA_passes_94 : decode bA_passes 94 = .ok (.iconst 1, 1) := by decide +kernel
set_option maxRecDepth 100000 in
theorem dA_passes_95 : decode bA_passes 95 = .ok (.goto 4, 3) := by decide +kernel
set_option maxRecDepth 100000 in
theorem dA_passes_98 : decode bA_passes 98 = .ok (.iconst 0, 1) := by decide +kernel
set_option maxRecDepth 100000 in
theorem dA_passes_99 : decode bA_passes 99 = .ok (.ireturn, 1) := by decide +kernel
set_option maxRecDepth 100000 in
theorem dA_passes_100 : decode bA_passes 100 = .ok (.aload_n 0, 1) := by decide +kernel
set_option maxRecDepth 100000 in
theorem dA_passes_101 : decode bA_passes 101 = .ok (.getfield 59, 3) := by decide +kernel
set_option maxRecDepth 100000 in
theorem dA_passes_104 : decode bA_passes 104 = .ok (.getfield 264, 3) := by decide +kernel
set_option maxRecDepth 100000 in
theorem dA_passes_107 : decode bA_passes 107 = .ok (.iconst 1, 1) := by decide +kernel
set_option maxRecDepth 100000 in
theorem dA_passes_108 : decode bA_passes 108 = .ok (.if_icmp .ne 25, 3) := by decide +kernel
set_option maxRecDepth 100000 in
theorem dA_passes_111 : decode bA_passes 111 = .ok (.aload_n 0, 1) := by decide +kernel
set_option maxRecDepth 100000 in
theorem dA_passes_112 : decode bA_passes 112 = .ok (.getfield 43, 3) := by decide +kernel
set_option maxRecDepth 100000 in
theorem dA_passes_115 : decode bA_passes 115 = .ok (.aload_n 0, 1) := by decide +kernel
set_option maxRecDepth 100000 in
theorem dA_passes_116 : decode bA_passes 116 = .ok (.getfield 73, 3) := by decide +kernel
set_option maxRecDepth 100000 in
theorem dA_passes_119 : decode bA_passes 119 = .ok (.getfield 170, 3) := by decide +kernel
set_option maxRecDepth 100000 in
theorem dA_passes_122 : decode bA_passes 122 = .ok (.invokevirtual 338, 3) := by decide +kernel
set_option maxRecDepth 100000 in
theorem dA_passes_125 : decode bA_passes 125 = .ok (.iconst 1, 1) := by decide +kernel
set_option maxRecDepth 100000 in
theorem dA_passes_126 : decode bA_passes 126 = .ok (.if_icmp .ne 7, 3) := by decide +kernel
set_option maxRecDepth 100000 in
theorem dA_passes_129 : decode bA_passes 129 = .ok (.iconst 1, 1) := by decide +kernel
set_option maxRecDepth 100000 in
theorem dA_passes_130 : decode bA_passes 130 = .ok (.goto 4, 3) := by decide +kernel
set_option maxRecDepth 100000 in
theorem dA_passes_133 : decode bA_passes 133 = .ok (.iconst 0, 1) := by decide +kernel
set_option maxRecDepth 100000 in
theorem dA_passes_134 : decode bA_passes 134 = .ok (.ireturn, 1) := by decide +kernel
def fA_passes_60 (N : Nat) (σ : xS) : Option (Int32) :=
  if (σ.1 9 0 2) < (σ.1 0 0 15) then
  (some 0)
  else
  (some 1)
def fA_passes_100 (N : Nat) (σ : xS) : Option (Int32) :=
  if (σ.1 9 0 2) = 1 then
  (xp (fB_manyOf N σ (σ.1 17 16 0)) fun r9 =>
  if r9 = 1 then
  (some 1)
  else
  (some 0))
  else
  (some 0)
def fA_passes (N : Nat) (σ : xS) : Option (Int32) :=
  if (σ.1 0 0 14) = 0 then
  (if (σ.1 9 0 2) = (σ.1 0 0 15) then
  (some 1)
  else
  (some 0))
  else
  (if (σ.1 0 0 14) = 1 then
  (fA_passes_60 N σ)
  else
  (if (σ.1 0 0 14) = 2 then
  (if (σ.1 0 0 15) < (σ.1 9 0 2) then
  (some 0)
  else
  (some 1))
  else
  (if (σ.1 0 0 14) = 3 then
  (fA_passes_100 N σ)
  else
  (if (σ.1 0 0 14) = 4 then
  (fA_passes_60 N σ)
  else
  (fA_passes_100 N σ)))))
set_option maxHeartbeats 4000000 in
set_option maxRecDepth 100000 in
theorem wA_passes_60 {p : Program} {l : Launch} {e : Env} {R : Room} {s : State} {m : MethodId} {args : Array Value} {below : List Frame} {meth : Method} {c : Code} {E : xE} {A : Nat → Prop} {τ : yS} (C : xC p s m args meth c R E A bA_passes 1 yA_passes (some .boolean) 1 0 0) (N : Nat) (σ : xS) (res : Int32) (hf : fA_passes_60 N σ = some res) (H : Heap) (locs : List Loc) (ls : Array Slot) (hw : xW E A s σ τ H locs) (hl : lv_has ls 1 [(0, .ref (E.2.2.1 0 0))]) : W p l e R s m args below meth c H locs 0 0 (MQ below (xQ E A (some (.int res)) σ τ) args s 0 0 A) (F0 m 60 ls []) := by
  have hx := C.1
  have hb := C.2.1
  unfold fA_passes_60 at hf
  refine lv_aload_n hx hb dA_passes_60 rfl (lv_at hl 0 rfl) ?_
  refine x_get C hw 0 0 9 (v := .ref (E.2.2.1 9 0)) at_0 rfl rfl ⟨by decide, by decide⟩ wA_59 rfl dA_passes_61 ?_
  refine x_getN C hw 9 0 2 (v := .int (σ.1 9 0 2)) at_9 rfl rfl ⟨by decide, by decide⟩ wA_264 rfl dA_passes_64 ?_
  refine lv_aload_n hx hb dA_passes_67 rfl (lv_at hl 0 rfl) ?_
  refine x_get C hw 0 0 15 (v := .int (σ.1 0 0 15)) at_0 rfl rfl ⟨by decide, by decide⟩ wA_86 rfl dA_passes_68 ?_
  refine lv_icmp_lt (tgt := 78) hx hb dA_passes_71 (by decide) (fun c6 => ?_) (fun c6 => ?_)
  · replace hf := x_ip c6 hf
    refine lv_iconst (v := 0) hx hb dA_passes_78 (by decide) ?_
    obtain rfl := Option.some.inj hf
    exact x_zret C hw (x_nz (v := 0) (Or.inl rfl)) dA_passes_79
  · replace hf := x_in c6 hf
    refine lv_iconst (v := 1) hx hb dA_passes_74 (by decide) ?_
    refine lv_goto (tgt := 79) hx hb dA_passes_75 (by decide) ?_
    obtain rfl := Option.some.inj hf
    exact x_zret C hw (x_nz (v := 1) (Or.inr rfl)) dA_passes_79
set_option maxHeartbeats 4000000 in
set_option maxRecDepth 100000 in
theorem wA_passes_100 {p : Program} {l : Launch} {e : Env} {R : Room} {s : State} {m : MethodId} {args : Array Value} {below : List Frame} {meth : Method} {c : Code} {E : xE} {A : Nat → Prop} {τ : yS} (C : xC p s m args meth c R E A bA_passes 1 yA_passes (some .boolean) 1 0 0) (N : Nat) (σ : xS) (res : Int32) (hf : fA_passes_100 N σ = some res) (H : Heap) (locs : List Loc) (ls : Array Slot) (hw : xW E A s σ τ H locs) (hl : lv_has ls 1 [(0, .ref (E.2.2.1 0 0))]) : W p l e R s m args below meth c H locs 0 0 (MQ below (xQ E A (some (.int res)) σ τ) args s 0 0 A) (F0 m 100 ls []) := by
  have hx := C.1
  have hb := C.2.1
  unfold fA_passes_100 at hf
  refine lv_aload_n hx hb dA_passes_100 rfl (lv_at hl 0 rfl) ?_
  refine x_get C hw 0 0 9 (v := .ref (E.2.2.1 9 0)) at_0 rfl rfl ⟨by decide, by decide⟩ wA_59 rfl dA_passes_101 ?_
  refine x_getN C hw 9 0 2 (v := .int (σ.1 9 0 2)) at_9 rfl rfl ⟨by decide, by decide⟩ wA_264 rfl dA_passes_104 ?_
  refine lv_iconst (v := 1) hx hb dA_passes_107 (by decide) ?_
  refine lv_icmp_ne (tgt := 133) hx hb dA_passes_108 (by decide) (fun c7 => ?_) (fun c7 => ?_)
  · replace hf := x_in c7 hf
    refine lv_iconst (v := 0) hx hb dA_passes_133 (by decide) ?_
    obtain rfl := Option.some.inj hf
    exact x_zret C hw (x_nz (v := 0) (Or.inl rfl)) dA_passes_134
  · replace hf := x_ip c7 hf
    refine lv_aload_n hx hb dA_passes_111 rfl (lv_at hl 0 rfl) ?_
    refine x_get C hw 0 0 6 (v := .ref (E.2.2.1 6 0)) at_0 rfl rfl ⟨by decide, by decide⟩ wA_43 rfl dA_passes_112 ?_
    refine lv_aload_n hx hb dA_passes_115 rfl (lv_at hl 0 rfl) ?_
    refine x_get C hw 0 0 11 (v := .ref (E.2.2.1 17 16)) at_0 rfl rfl ⟨by decide, by decide⟩ wA_73 rfl dA_passes_116 ?_
    refine x_getN C hw 17 16 0 (v := .int (σ.1 17 16 0)) (at_17 (by decide)) rfl rfl ⟨by decide, by decide⟩ wA_170 rfl dA_passes_119 ?_
    obtain ⟨r9, h8, hf⟩ := x_p hf
    refine x_callVN (As := [.int (σ.1 17 16 0)]) (rest := []) (st1 := [.int r9]) C hw (cB_manyOf l E N σ τ (σ.1 17 16 0) r9 h8) kA_338 (x_recv C hw 6 0 at_6 rfl rfl) (by decide) rfl rfl hl.1 (lv_room (Nat.le_of_ble_eq_true rfl)) dA_passes_122 ⟨by decide, by decide⟩ rfl (fun H locs hw => ?_)
    refine lv_iconst (v := 1) hx hb dA_passes_125 (by decide) ?_
    refine lv_icmp_ne (tgt := 133) hx hb dA_passes_126 (by decide) (fun c10 => ?_) (fun c10 => ?_)
    · replace hf := x_in c10 hf
      refine lv_iconst (v := 0) hx hb dA_passes_133 (by decide) ?_
      obtain rfl := Option.some.inj hf
      exact x_zret C hw (x_nz (v := 0) (Or.inl rfl)) dA_passes_134
    · replace hf := x_ip c10 hf
      refine lv_iconst (v := 1) hx hb dA_passes_129 (by decide) ?_
      refine lv_goto (tgt := 134) hx hb dA_passes_130 (by decide) ?_
      obtain rfl := Option.some.inj hf
      exact x_zret C hw (x_nz (v := 1) (Or.inr rfl)) dA_passes_134
set_option maxHeartbeats 4000000 in
set_option maxRecDepth 100000 in
theorem cA_passes (l : Launch) (E : xE) (N : Nat) (σ : xS) (τ : yS) (res : Int32) (hf : fA_passes N σ = some res) : xM l E yA_passes bA_passes 1 (some .boolean) 1 0 0 [.ref (E.2.2.1 0 0)] σ τ (some (.int res)) σ τ := by
  refine x_met (by decide) (Nat.le_of_ble_eq_true rfl) (fun p e R s m args below meth c A ls H locs C hw hl => ?_)
  have hl : lv_has ls 1 [(0, .ref (E.2.2.1 0 0))] := hl
  have hx := C.1
  have hb := C.2.1
  unfold fA_passes at hf
  refine lv_aload_n hx hb dA_passes_0 rfl (lv_at hl 0 rfl) ?_
  refine x_get C hw 0 0 14 (v := .int (σ.1 0 0 14)) at_0 rfl rfl ⟨by decide, by decide⟩ wA_83 rfl dA_passes_1 ?_
  by_cases c11 : (σ.1 0 0 14) = 0
  · replace hf := x_ip c11 hf
    refine lv_tableIn (tgt := 40) hx hb dA_passes_4 (by rw [c11]; decide) (by rw [c11]; decide) (by rw [c11]; rfl) (by decide) ?_
    refine lv_aload_n hx hb dA_passes_40 rfl (lv_at hl 0 rfl) ?_
    refine x_get C hw 0 0 9 (v := .ref (E.2.2.1 9 0)) at_0 rfl rfl ⟨by decide, by decide⟩ wA_59 rfl dA_passes_41 ?_
    refine x_getN C hw 9 0 2 (v := .int (σ.1 9 0 2)) at_9 rfl rfl ⟨by decide, by decide⟩ wA_264 rfl dA_passes_44 ?_
    refine lv_aload_n hx hb dA_passes_47 rfl (lv_at hl 0 rfl) ?_
    refine x_get C hw 0 0 15 (v := .int (σ.1 0 0 15)) at_0 rfl rfl ⟨by decide, by decide⟩ wA_86 rfl dA_passes_48 ?_
    refine lv_icmp_ne (tgt := 58) hx hb dA_passes_51 (by decide) (fun c12 => ?_) (fun c12 => ?_)
    · replace hf := x_in c12 hf
      refine lv_iconst (v := 0) hx hb dA_passes_58 (by decide) ?_
      obtain rfl := Option.some.inj hf
      exact x_zret C hw (x_nz (v := 0) (Or.inl rfl)) dA_passes_59
    · replace hf := x_ip c12 hf
      refine lv_iconst (v := 1) hx hb dA_passes_54 (by decide) ?_
      refine lv_goto (tgt := 59) hx hb dA_passes_55 (by decide) ?_
      obtain rfl := Option.some.inj hf
      exact x_zret C hw (x_nz (v := 1) (Or.inr rfl)) dA_passes_59
  · replace hf := x_in c11 hf
    by_cases c13 : (σ.1 0 0 14) = 1
    · replace hf := x_ip c13 hf
      refine lv_tableIn (tgt := 60) hx hb dA_passes_4 (by rw [c13]; decide) (by rw [c13]; decide) (by rw [c13]; rfl) (by decide) ?_
      exact wA_passes_60 C N σ res hf H locs ls hw (lv_sub hl [0] rfl)
    · replace hf := x_in c13 hf
      by_cases c14 : (σ.1 0 0 14) = 2
      · replace hf := x_ip c14 hf
        refine lv_tableIn (tgt := 80) hx hb dA_passes_4 (by rw [c14]; decide) (by rw [c14]; decide) (by rw [c14]; rfl) (by decide) ?_
        refine lv_aload_n hx hb dA_passes_80 rfl (lv_at hl 0 rfl) ?_
        refine x_get C hw 0 0 9 (v := .ref (E.2.2.1 9 0)) at_0 rfl rfl ⟨by decide, by decide⟩ wA_59 rfl dA_passes_81 ?_
        refine x_getN C hw 9 0 2 (v := .int (σ.1 9 0 2)) at_9 rfl rfl ⟨by decide, by decide⟩ wA_264 rfl dA_passes_84 ?_
        refine lv_aload_n hx hb dA_passes_87 rfl (lv_at hl 0 rfl) ?_
        refine x_get C hw 0 0 15 (v := .int (σ.1 0 0 15)) at_0 rfl rfl ⟨by decide, by decide⟩ wA_86 rfl dA_passes_88 ?_
        refine lv_icmp_gt (tgt := 98) hx hb dA_passes_91 (by decide) (fun c15 => ?_) (fun c15 => ?_)
        · replace hf := x_ip c15 hf
          refine lv_iconst (v := 0) hx hb dA_passes_98 (by decide) ?_
          obtain rfl := Option.some.inj hf
          exact x_zret C hw (x_nz (v := 0) (Or.inl rfl)) dA_passes_99
        · replace hf := x_in c15 hf
          refine lv_iconst (v := 1) hx hb dA_passes_94 (by decide) ?_
          refine lv_goto (tgt := 99) hx hb dA_passes_95 (by decide) ?_
          obtain rfl := Option.some.inj hf
          exact x_zret C hw (x_nz (v := 1) (Or.inr rfl)) dA_passes_99
      · replace hf := x_in c14 hf
        by_cases c16 : (σ.1 0 0 14) = 3
        · replace hf := x_ip c16 hf
          refine lv_tableIn (tgt := 100) hx hb dA_passes_4 (by rw [c16]; decide) (by rw [c16]; decide) (by rw [c16]; rfl) (by decide) ?_
          exact wA_passes_100 C N σ res hf H locs ls hw (lv_sub hl [0] rfl)
        · replace hf := x_in c16 hf
          by_cases c17 : (σ.1 0 0 14) = 4
          · replace hf := x_ip c17 hf
            refine lv_tableIn (tgt := 60) hx hb dA_passes_4 (by rw [c17]; decide) (by rw [c17]; decide) (by rw [c17]; rfl) (by decide) ?_
            exact wA_passes_60 C N σ res hf H locs ls hw (lv_sub hl [0] rfl)
          · replace hf := x_in c17 hf
            refine lv_tableOut (tgt := 100) hx hb dA_passes_4 (by have nc11 := lv_neT c11 (a := 0) (by decide); have nc13 := lv_neT c13 (a := 1) (by decide); have nc14 := lv_neT c14 (a := 2) (by decide); have nc16 := lv_neT c16 (a := 3) (by decide); have nc17 := lv_neT c17 (a := 4) (by decide); omega) (by decide) ?_
            exact wA_passes_100 C N σ res hf H locs ls hw (lv_sub hl [0] rfl)
-- StandIns$Matcher isCatch (LStandIns$Matcher;)Z
set_option maxRecDepth 100000 in
theorem dH_isCatch_0 : decode bH_isCatch 0 = .ok (.aload_n 0, 1) := by decide +kernel
set_option maxRecDepth 100000 in
theorem dH_isCatch_1 : decode bH_isCatch 1 = .ok (.ifnull 16, 3) := by decide +kernel
set_option maxRecDepth 100000 in
theorem dH_isCatch_4 : decode bH_isCatch 4 = .ok (.aload_n 0, 1) := by decide +kernel
set_option maxRecDepth 100000 in
theorem dH_isCatch_5 : decode bH_isCatch 5 = .ok (.getfield 9, 3) := by decide +kernel
set_option maxRecDepth 100000 in
theorem dH_isCatch_8 : decode bH_isCatch 8 = .ok (.bipush 7, 2) := by decide +kernel
set_option maxRecDepth 100000 in
theorem dH_isCatch_10 : decode bH_isCatch 10 = .ok (.if_icmp .ne 7, 3) := by decide +kernel
set_option maxRecDepth 100000 in
theorem dH_isCatch_13 : decode bH_isCatch 13 = .ok (.iconst 1, 1) := by decide +kernel
set_option maxRecDepth 100000 in
theorem dH_isCatch_14 : decode bH_isCatch 14 = .ok (.goto 4, 3) := by decide +kernel
set_option maxRecDepth 100000 in
theorem dH_isCatch_17 : decode bH_isCatch 17 = .ok (.iconst 0, 1) := by decide +kernel
set_option maxRecDepth 100000 in
theorem dH_isCatch_18 : decode bH_isCatch 18 = .ok (.ireturn, 1) := by decide +kernel
def fH_isCatch (σ : xS) (o0 : Option Nat) : Option (Int32) :=
  if o0 = none then
  (some 0)
  else
  (xp (xd σ.2.2.1 o0) fun q2 =>
  if (σ.1 21 q2 0) = 7 then
  (some 1)
  else
  (some 0))
set_option maxHeartbeats 4000000 in
set_option maxRecDepth 100000 in
theorem cH_isCatch (l : Launch) (E : xE) (σ : xS) (τ : yS) (o0 : Option Nat) (res : Int32) (hf : fH_isCatch σ o0 = some res) : xM l E yH_isCatch bH_isCatch 1 (some .boolean) 0 0 0 [va_rf o0] σ τ (some (.int res)) σ τ := by
  refine x_met (by decide) (by simp [lg_sl, x_cat, x_cati, x_catr, x_catl]) (fun p e R s m args below meth c A ls H locs C hw hl => ?_)
  have hl : lv_has ls 1 [(0, va_rf o0)] := by simpa [lv_args, x_cat, x_cati, x_catr, x_catl] using hl
  have hx := C.1
  have hb := C.2.1
  unfold fH_isCatch at hf
  refine x_aload_n hx hb dH_isCatch_0 rfl (lv_at hl 0 rfl) ?_
  refine x_ifnull (tgt := 17) hx hb dH_isCatch_1 (by decide) (fun c1 => ?_) (fun c1 => ?_)
  · replace hf := x_ip c1 hf
    refine lv_iconst (v := 0) hx hb dH_isCatch_17 (by decide) ?_
    obtain rfl := Option.some.inj hf
    exact x_zret C hw (x_nz (v := 0) (Or.inl rfl)) dH_isCatch_18
  · replace hf := x_in c1 hf
    refine x_aload_n hx hb dH_isCatch_4 rfl (lv_at hl 0 rfl) ?_
    obtain ⟨q2, eq2, hf⟩ := x_p hf
    refine x_getM C hw eq2 0 (v := .int (σ.1 21 q2 0)) (by decide) wH_9 rfl dH_isCatch_5 ?_
    refine lv_bipush (v := 7) hx hb dH_isCatch_8 (by decide) ?_
    refine lv_icmp_ne (tgt := 17) hx hb dH_isCatch_10 (by decide) (fun c3 => ?_) (fun c3 => ?_)
    · replace hf := x_in c3 hf
      refine lv_iconst (v := 0) hx hb dH_isCatch_17 (by decide) ?_
      obtain rfl := Option.some.inj hf
      exact x_zret C hw (x_nz (v := 0) (Or.inl rfl)) dH_isCatch_18
    · replace hf := x_ip c3 hf
      refine lv_iconst (v := 1) hx hb dH_isCatch_13 (by decide) ?_
      refine lv_goto (tgt := 18) hx hb dH_isCatch_14 (by decide) ?_
      obtain rfl := Option.some.inj hf
      exact x_zret C hw (x_nz (v := 1) (Or.inr rfl)) dH_isCatch_18
-- StandIns$Catches add (I)V
set_option maxRecDepth 100000 in
theorem dC_add_0 : decode bC_add 0 = .ok (.aload_n 0, 1) := by decide +kernel
set_option maxRecDepth 100000 in
theorem dC_add_1 : decode bC_add 1 = .ok (.getfield 9, 3) := by decide +kernel
set_option maxRecDepth 100000 in
theorem dC_add_4 : decode bC_add 4 = .ok (.aload_n 0, 1) := by decide +kernel
set_option maxRecDepth 100000 in
theorem dC_add_5 : decode bC_add 5 = .ok (.getfield 15, 3) := by decide +kernel
set_option maxRecDepth 100000 in
theorem dC_add_8 : decode bC_add 8 = .ok (.iload_n 1, 1) := by decide +kernel
set_option maxRecDepth 100000 in
theorem dC_add_9 : decode bC_add 9 = .ok (.iastore, 1) := by decide +kernel
set_option maxRecDepth 100000 in
theorem dC_add_10 : decode bC_add 10 = .ok (.aload_n 0, 1) := by decide +kernel
set_option maxRecDepth 100000 in
theorem dC_add_11 : decode bC_add 11 = .ok (.aload_n 0, 1) := by decide +kernel
set_option maxRecDepth 100000 in
theorem dC_add_12 : decode bC_add 12 = .ok (.getfield 15, 3) := by decide +kernel
set_option maxRecDepth 100000 in
theorem dC_add_15 : decode bC_add 15 = .ok (.iconst 1, 1) := by decide +kernel
set_option maxRecDepth 100000 in
theorem dC_add_16 : decode bC_add 16 = .ok (.iadd, 1) := by decide +kernel
set_option maxRecDepth 100000 in
theorem dC_add_17 : decode bC_add 17 = .ok (.bipush 12, 2) := by decide +kernel
set_option maxRecDepth 100000 in
theorem dC_add_19 : decode bC_add 19 = .ok (.if_icmp .ge 12, 3) := by decide +kernel
set_option maxRecDepth 100000 in
theorem dC_add_22 : decode bC_add 22 = .ok (.aload_n 0, 1) := by decide +kernel
set_option maxRecDepth 100000 in
theorem dC_add_23 : decode bC_add 23 = .ok (.getfield 15, 3) := by decide +kernel
set_option maxRecDepth 100000 in
theorem dC_add_26 : decode bC_add 26 = .ok (.iconst 1, 1) := by decide +kernel
set_option maxRecDepth 100000 in
theorem dC_add_27 : decode bC_add 27 = .ok (.iadd, 1) := by decide +kernel
set_option maxRecDepth 100000 in
theorem dC_add_28 : decode bC_add 28 = .ok (.goto 4, 3) := by decide +kernel
set_option maxRecDepth 100000 in
theorem dC_add_31 : decode bC_add 31 = .ok (.iconst 0, 1) := by decide +kernel
set_option maxRecDepth 100000 in
theorem dC_add_32 : decode bC_add 32 = .ok (.putfield 15, 3) := by decide +kernel
set_option maxRecDepth 100000 in
theorem dC_add_35 : decode bC_add 35 = .ok (.aload_n 0, 1) := by decide +kernel
set_option maxRecDepth 100000 in
theorem dC_add_36 : decode bC_add 36 = .ok (.aload_n 0, 1) := by decide +kernel
set_option maxRecDepth 100000 in
theorem dC_add_37 : decode bC_add 37 = .ok (.getfield 19, 3) := by decide +kernel
set_option maxRecDepth 100000 in
theorem dC_add_40 : decode bC_add 40 = .ok (.iconst 1, 1) := by decide +kernel
set_option maxRecDepth 100000 in
theorem dC_add_41 : decode bC_add 41 = .ok (.iadd, 1) := by decide +kernel
set_option maxRecDepth 100000 in
theorem dC_add_42 : decode bC_add 42 = .ok (.bipush 12, 2) := by decide +kernel
set_option maxRecDepth 100000 in
theorem dC_add_44 : decode bC_add 44 = .ok (.invokestatic 25, 3) := by decide +kernel
set_option maxRecDepth 100000 in
theorem dC_add_47 : decode bC_add 47 = .ok (.putfield 19, 3) := by decide +kernel
set_option maxRecDepth 100000 in
theorem dC_add_50 : decode bC_add 50 = .ok (.aload_n 0, 1) := by decide +kernel
set_option maxRecDepth 100000 in
theorem dC_add_51 : decode bC_add 51 = .ok (.dup, 1) := by decide +kernel
set_option maxRecDepth 100000 in
theorem dC_add_52 : decode bC_add 52 = .ok (.getfield 22, 3) := by decide +kernel
set_option maxRecDepth 100000 in
theorem dC_add_55 : decode bC_add 55 = .ok (.iconst 1, 1) := by decide +kernel
set_option maxRecDepth 100000 in
theorem dC_add_56 : decode bC_add 56 = .ok (.iadd, 1) := by decide +kernel
set_option maxRecDepth 100000 in
theorem dC_add_57 : decode bC_add 57 = .ok (.putfield 22, 3) := by decide +kernel
set_option maxRecDepth 100000 in
theorem dC_add_60 : decode bC_add 60 = .ok (.return_, 1) := by decide +kernel
def fC_add_32 (σ : xS) (t0 : Int32) : Option (xS) :=
  xl (x_si σ 12 0 1 t0) fun s4 =>
  xl (x_si s4 12 0 2 (if 12 < ((s4.1 12 0 2) + 1) then 12 else (s4.1 12 0 2) + 1)) fun s5 =>
  xl (x_si s5 12 0 3 ((s5.1 12 0 3) + 1)) fun s6 =>
  some s6
def fC_add (σ : xS) (a1 : Int32) : Option (xS) :=
  if ¬ ((σ.1 12 0 1) < 0 ∨ 12 ≤ (σ.1 12 0 1).toNatClampNeg) then
  xl (x_si σ 13 0 ((σ.1 12 0 1).toNatClampNeg) a1) fun s8 =>
  if 12 ≤ ((s8.1 12 0 1) + 1) then
  (fC_add_32 s8 0)
  else
  (fC_add_32 s8 ((s8.1 12 0 1) + 1))
  else none
set_option maxHeartbeats 4000000 in
set_option maxRecDepth 100000 in
theorem wC_add_32 {p : Program} {l : Launch} {e : Env} {R : Room} {s : State} {m : MethodId} {args : Array Value} {below : List Frame} {meth : Method} {c : Code} {E : xE} {A : Nat → Prop} {τ : yS} (C : xC p s m args meth c R E A bC_add 2 yC_add none 1 0 0) (σ : xS) (t0 : Int32) (res : xS) (hf : fC_add_32 σ t0 = some res) (H : Heap) (locs : List Loc) (ls : Array Slot) (hw : xW E A s σ τ H locs) (hl : lv_has ls 2 [(0, .ref (E.2.2.1 12 0))]) : W p l e R s m args below meth c H locs 0 0 (MQ below (xQ E A none res τ) args s 0 0 A) (F0 m 32 ls [.int t0, .ref (E.2.2.1 12 0)]) := by
  have hx := C.1
  have hb := C.2.1
  unfold fC_add_32 at hf
  refine x_puti C hw 12 0 1 at_12 rfl rfl rfl ⟨rfl, rfl⟩ ⟨by decide, by decide⟩ (Nat.le_of_ble_eq_true rfl) wC_15 dC_add_32 (fun H locs hw => ?_)
  obtain ⟨s4, es4, hf⟩ := x_l hf
  rw [← es4] at hw
  refine lv_aload_n hx hb dC_add_35 rfl (lv_at hl 0 rfl) ?_
  refine lv_aload_n hx hb dC_add_36 rfl (lv_at hl 0 rfl) ?_
  refine x_get C hw 12 0 2 (v := .int (s4.1 12 0 2)) at_12 rfl rfl ⟨by decide, by decide⟩ wC_19 rfl dC_add_37 ?_
  refine lv_iconst (v := 1) hx hb dC_add_40 (by decide) ?_
  refine lv_iadd hx hb dC_add_41 ?_
  refine lv_bipush (v := 12) hx hb dC_add_42 (by decide) ?_
  refine x_mmin C hl wC_25 dC_add_44 ?_
  refine x_puti C hw 12 0 2 at_12 rfl rfl rfl ⟨rfl, rfl⟩ ⟨by decide, by decide⟩ (Nat.le_of_ble_eq_true rfl) wC_19 dC_add_47 (fun H locs hw => ?_)
  obtain ⟨s5, es5, hf⟩ := x_l hf
  rw [← es5] at hw
  refine lv_aload_n hx hb dC_add_50 rfl (lv_at hl 0 rfl) ?_
  refine lv_dup hx hb dC_add_51 rfl ?_
  refine x_get C hw 12 0 3 (v := .int (s5.1 12 0 3)) at_12 rfl rfl ⟨by decide, by decide⟩ wC_22 rfl dC_add_52 ?_
  refine lv_iconst (v := 1) hx hb dC_add_55 (by decide) ?_
  refine lv_iadd hx hb dC_add_56 ?_
  refine x_puti C hw 12 0 3 at_12 rfl rfl rfl ⟨rfl, rfl⟩ ⟨by decide, by decide⟩ (Nat.le_of_ble_eq_true rfl) wC_22 dC_add_57 (fun H locs hw => ?_)
  obtain ⟨s6, es6, hf⟩ := x_l hf
  rw [← es6] at hw
  obtain rfl := Option.some.inj hf
  exact x_vret C hw dC_add_60
set_option maxHeartbeats 4000000 in
set_option maxRecDepth 100000 in
theorem cC_add (l : Launch) (E : xE) (σ : xS) (τ : yS) (a1 : Int32) (res : xS) (hf : fC_add σ a1 = some res) : xM l E yC_add bC_add 2 none 1 0 0 [.ref (E.2.2.1 12 0), .int a1] σ τ none res τ := by
  refine x_met (by decide) (Nat.le_of_ble_eq_true rfl) (fun p e R s m args below meth c A ls H locs C hw hl => ?_)
  have hl : lv_has ls 2 [(0, .ref (E.2.2.1 12 0)), (1, .int a1)] := hl
  have hx := C.1
  have hb := C.2.1
  unfold fC_add at hf
  refine lv_aload_n hx hb dC_add_0 rfl (lv_at hl 0 rfl) ?_
  refine x_get C hw 12 0 0 (v := .ref (E.2.2.1 13 0)) at_12 rfl rfl ⟨by decide, by decide⟩ wC_9 rfl dC_add_1 ?_
  refine lv_aload_n hx hb dC_add_4 rfl (lv_at hl 0 rfl) ?_
  refine x_get C hw 12 0 1 (v := .int (σ.1 12 0 1)) at_12 rfl rfl ⟨by decide, by decide⟩ wC_15 rfl dC_add_5 ?_
  refine lv_iload_n hx hb dC_add_8 rfl (lv_at hl 1 rfl) ?_
  obtain ⟨g7, hf⟩ := x_g hf
  refine x_ist C hw 13 0 at_13 rfl rfl g7 dC_add_9 (fun H locs hw => ?_)
  obtain ⟨s8, es8, hf⟩ := x_l hf
  rw [← es8] at hw
  refine lv_aload_n hx hb dC_add_10 rfl (lv_at hl 0 rfl) ?_
  refine lv_aload_n hx hb dC_add_11 rfl (lv_at hl 0 rfl) ?_
  refine x_get C hw 12 0 1 (v := .int (s8.1 12 0 1)) at_12 rfl rfl ⟨by decide, by decide⟩ wC_15 rfl dC_add_12 ?_
  refine lv_iconst (v := 1) hx hb dC_add_15 (by decide) ?_
  refine lv_iadd hx hb dC_add_16 ?_
  refine lv_bipush (v := 12) hx hb dC_add_17 (by decide) ?_
  refine lv_icmp_ge (tgt := 31) hx hb dC_add_19 (by decide) (fun c9 => ?_) (fun c9 => ?_)
  · replace hf := x_ip c9 hf
    refine lv_iconst (v := 0) hx hb dC_add_31 (by decide) ?_
    exact wC_add_32 C s8 0 res hf H locs ls hw (lv_sub hl [0] rfl)
  · replace hf := x_in c9 hf
    refine lv_aload_n hx hb dC_add_22 rfl (lv_at hl 0 rfl) ?_
    refine x_get C hw 12 0 1 (v := .int (s8.1 12 0 1)) at_12 rfl rfl ⟨by decide, by decide⟩ wC_15 rfl dC_add_23 ?_
    refine lv_iconst (v := 1) hx hb dC_add_26 (by decide) ?_
    refine lv_iadd hx hb dC_add_27 ?_
    refine lv_goto (tgt := 32) hx hb dC_add_28 (by decide) ?_
    exact wC_add_32 C s8 ((s8.1 12 0 1) + 1) res hf H locs ls hw (lv_sub hl [0] rfl)
-- StandIns seeAndCatch ()V
set_option maxRecDepth 100000 in
theorem dA_seeAndCatch_0 : decode bA_seeAndCatch 0 = .ok (.iconst 0, 1) := by decide +kernel
set_option maxRecDepth 100000 in
theorem dA_seeAndCatch_1 : decode bA_seeAndCatch 1 = .ok (.istore_n 1, 1) := by decide +kernel
set_option maxRecDepth 100000 in
theorem dA_seeAndCatch_2 : decode bA_seeAndCatch 2 = .ok (.iload_n 1, 1) := by decide +kernel
set_option maxRecDepth 100000 in
theorem dA_seeAndCatch_3 : decode bA_seeAndCatch 3 = .ok (.aload_n 0, 1) := by decide +kernel
set_option maxRecDepth 100000 in
theorem dA_seeAndCatch_4 : decode bA_seeAndCatch 4 = .ok (.getfield 59, 3) := by decide +kernel
set_option maxRecDepth 100000 in
theorem dA_seeAndCatch_7 : decode bA_seeAndCatch 7 = .ok (.getfield 264, 3) := by decide +kernel
set_option maxRecDepth 100000 in
theorem dA_seeAndCatch_10 : decode bA_seeAndCatch 10 = .ok (.if_icmp .ge 80, 3) := by decide +kernel
set_option maxRecDepth 100000 in
theorem dA_seeAndCatch_13 : decode bA_seeAndCatch 13 = .ok (.aload_n 0, 1) := by decide +kernel
set_option maxRecDepth 100000 in
theorem dA_seeAndCatch_14 : decode bA_seeAndCatch 14 = .ok (.getfield 43, 3) := by decide +kernel
set_option maxRecDepth 100000 in
theorem dA_seeAndCatch_17 : decode bA_seeAndCatch 17 = .ok (.getfield 226, 3) := by decide +kernel
set_option maxRecDepth 100000 in
theorem dA_seeAndCatch_20 : decode bA_seeAndCatch 20 = .ok (.aload_n 0, 1) := by decide +kernel
set_option maxRecDepth 100000 in
theorem dA_seeAndCatch_21 : decode bA_seeAndCatch 21 = .ok (.getfield 59, 3) := by decide +kernel
set_option maxRecDepth 100000 in
theorem dA_seeAndCatch_24 : decode bA_seeAndCatch 24 = .ok (.getfield 341, 3) := by decide +kernel
set_option maxRecDepth 100000 in
theorem dA_seeAndCatch_27 : decode bA_seeAndCatch 27 = .ok (.iload_n 1, 1) := by decide +kernel
set_option maxRecDepth 100000 in
theorem dA_seeAndCatch_28 : decode bA_seeAndCatch 28 = .ok (.iaload, 1) := by decide +kernel
set_option maxRecDepth 100000 in
theorem dA_seeAndCatch_29 : decode bA_seeAndCatch 29 = .ok (.aaload, 1) := by decide +kernel
set_option maxRecDepth 100000 in
theorem dA_seeAndCatch_30 : decode bA_seeAndCatch 30 = .ok (.astore_n 2, 1) := by decide +kernel
set_option maxRecDepth 100000 in
theorem dA_seeAndCatch_31 : decode bA_seeAndCatch 31 = .ok (.aload_n 2, 1) := by decide +kernel
set_option maxRecDepth 100000 in
theorem dA_seeAndCatch_32 : decode bA_seeAndCatch 32 = .ok (.iconst 1, 1) := by decide +kernel
set_option maxRecDepth 100000 in
theorem dA_seeAndCatch_33 : decode bA_seeAndCatch 33 = .ok (.putfield 243, 3) := by decide +kernel
set_option maxRecDepth 100000 in
theorem dA_seeAndCatch_36 : decode bA_seeAndCatch 36 = .ok (.aload_n 0, 1) := by decide +kernel
set_option maxRecDepth 100000 in
theorem dA_seeAndCatch_37 : decode bA_seeAndCatch 37 = .ok (.getfield 73, 3) := by decide +kernel
set_option maxRecDepth 100000 in
theorem dA_seeAndCatch_40 : decode bA_seeAndCatch 40 = .ok (.getfield 180, 3) := by decide +kernel
set_option maxRecDepth 100000 in
theorem dA_seeAndCatch_43 : decode bA_seeAndCatch 43 = .ok (.invokestatic 344, 3) := by decide +kernel
set_option maxRecDepth 100000 in
theorem dA_seeAndCatch_46 : decode bA_seeAndCatch 46 = .ok (.ifCond .eq 14, 3) := by decide +kernel
set_option maxRecDepth 100000 in
theorem dA_seeAndCatch_49 : decode bA_seeAndCatch 49 = .ok (.aload_n 0, 1) := by decide +kernel
set_option maxRecDepth 100000 in
theorem dA_seeAndCatch_50 : decode bA_seeAndCatch 50 = .ok (.getfield 66, 3) := by decide +kernel
set_option maxRecDepth 100000 in
theorem dA_seeAndCatch_53 : decode bA_seeAndCatch 53 = .ok (.aload_n 2, 1) := by decide +kernel
set_option maxRecDepth 100000 in
theorem dA_seeAndCatch_54 : decode bA_seeAndCatch 54 = .ok (.getfield 237, 3) := by decide +kernel
set_option maxRecDepth 100000 in
theorem dA_seeAndCatch_57 : decode bA_seeAndCatch 57 = .ok (.invokevirtual 348, 3) := by decide +kernel
set_option maxRecDepth 100000 in
theorem dA_seeAndCatch_60 : decode bA_seeAndCatch 60 = .ok (.aload_n 0, 1) := by decide +kernel
set_option maxRecDepth 100000 in
theorem dA_seeAndCatch_61 : decode bA_seeAndCatch 61 = .ok (.getfield 73, 3) := by decide +kernel
set_option maxRecDepth 100000 in
theorem dA_seeAndCatch_64 : decode bA_seeAndCatch 64 = .ok (.getfield 184, 3) := by decide +kernel
set_option maxRecDepth 100000 in
theorem dA_seeAndCatch_67 : decode bA_seeAndCatch 67 = .ok (.invokestatic 344, 3) := by decide +kernel
set_option maxRecDepth 100000 in
theorem dA_seeAndCatch_70 : decode bA_seeAndCatch 70 = .ok (.ifCond .eq 14, 3) := by decide +kernel
set_option maxRecDepth 100000 in
theorem dA_seeAndCatch_73 : decode bA_seeAndCatch 73 = .ok (.aload_n 0, 1) := by decide +kernel
set_option maxRecDepth 100000 in
theorem dA_seeAndCatch_74 : decode bA_seeAndCatch 74 = .ok (.getfield 66, 3) := by decide +kernel
set_option maxRecDepth 100000 in
theorem dA_seeAndCatch_77 : decode bA_seeAndCatch 77 = .ok (.aload_n 2, 1) := by decide +kernel
set_option maxRecDepth 100000 in
theorem dA_seeAndCatch_78 : decode bA_seeAndCatch 78 = .ok (.getfield 240, 3) := by decide +kernel
set_option maxRecDepth 100000 in
theorem dA_seeAndCatch_81 : decode bA_seeAndCatch 81 = .ok (.invokevirtual 348, 3) := by decide +kernel
set_option maxRecDepth 100000 in
theorem dA_seeAndCatch_84 : decode bA_seeAndCatch 84 = .ok (.iinc 1 1, 3) := by decide +kernel
set_option maxRecDepth 100000 in
theorem dA_seeAndCatch_87 : decode bA_seeAndCatch 87 = .ok (.goto (-85), 3) := by decide +kernel
set_option maxRecDepth 100000 in
theorem dA_seeAndCatch_90 : decode bA_seeAndCatch 90 = .ok (.return_, 1) := by decide +kernel
def fA_seeAndCatch_84 (N : Nat) (rec2 : xS → Int32 → Option (xS)) (σ : xS) (a1 : Int32) : Option (xS) :=
  rec2 σ (a1 + 1)
def fA_seeAndCatch_60 (N : Nat) (rec2 : xS → Int32 → Option (xS)) (σ : xS) (a1 : Int32) (k2 : Nat) : Option (xS) :=
  xp (fH_isCatch σ (σ.2.1 17 16 3)) fun r18 =>
  if r18 = 0 then
  (fA_seeAndCatch_84 N rec2 σ a1)
  else
  (if k2 < 40 then
  xp (fC_add σ (σ.1 15 k2 4)) fun s22 =>
  fA_seeAndCatch_84 N rec2 s22 a1
  else none)
def fA_seeAndCatch_2b (N : Nat) (rec2 : xS → Int32 → Option (xS)) (σ : xS) (a1 : Int32) : Option (xS) :=
  if (σ.1 9 0 2) ≤ a1 then
  (some σ)
  else
  (if ¬ (a1 < 0 ∨ 40 ≤ a1.toNatClampNeg) then
  if ¬ ((σ.1 10 0 a1.toNatClampNeg) < 0 ∨ 40 ≤ (σ.1 10 0 a1.toNatClampNeg).toNatClampNeg) then
  xl (x_si σ 15 ((σ.1 10 0 a1.toNatClampNeg).toNatClampNeg) 5 1) fun s27 =>
  xp (fH_isCatch s27 (s27.2.1 17 16 2)) fun r29 =>
  if r29 = 0 then
  (fA_seeAndCatch_60 N rec2 s27 a1 ((σ.1 10 0 a1.toNatClampNeg).toNatClampNeg))
  else
  (xp (fC_add s27 (s27.1 15 ((σ.1 10 0 a1.toNatClampNeg).toNatClampNeg) 3)) fun s32 =>
  fA_seeAndCatch_60 N rec2 s32 a1 ((σ.1 10 0 a1.toNatClampNeg).toNatClampNeg))
  else none
  else none)
def fA_seeAndCatch_2 (N : Nat) : Nat → xS → Int32 → Option (xS)
  | 0, _, _ => none
  | n + 1, σ, a1 => fA_seeAndCatch_2b N (fA_seeAndCatch_2 N n) σ a1
def fA_seeAndCatch (N : Nat) (σ : xS) : Option (xS) :=
  fA_seeAndCatch_2 N N σ 0
set_option maxHeartbeats 4000000 in
set_option maxRecDepth 100000 in
theorem wA_seeAndCatch_84 {p : Program} {l : Launch} {e : Env} {R : Room} {s : State} {m : MethodId} {args : Array Value} {below : List Frame} {meth : Method} {c : Code} {E : xE} {A : Nat → Prop} {τ : yS} (C : xC p s m args meth c R E A bA_seeAndCatch 3 yA_seeAndCatch none 2 0 0) (N : Nat) (σ : xS) (rec2 : xS → Int32 → Option (xS)) (hrec2 : ∀ (σ : xS) (a1 : Int32) (res : xS), rec2 σ a1 = some res → ∀ (H : Heap) (locs : List Loc) (ls : Array Slot), xW E A s σ τ H locs → lv_has ls 3 [(0, .ref (E.2.2.1 0 0)), (1, .int a1)] → W p l e R s m args below meth c H locs 0 0 (MQ below (xQ E A none res τ) args s 0 0 A) (F0 m 2 ls [])) (a1 : Int32) (res : xS) (hf : fA_seeAndCatch_84 N rec2 σ a1 = some res) (H : Heap) (locs : List Loc) (ls : Array Slot) (hw : xW E A s σ τ H locs) (hl : lv_has ls 3 [(0, .ref (E.2.2.1 0 0)), (1, .int a1)]) : W p l e R s m args below meth c H locs 0 0 (MQ below (xQ E A none res τ) args s 0 0 A) (F0 m 84 ls []) := by
  have hx := C.1
  have hb := C.2.1
  unfold fA_seeAndCatch_84 at hf
  refine lv_iinc (v := a1 + 1) (lv' := [(1, .int (a1 + 1)), (0, .ref (E.2.2.1 0 0))]) hx hb dA_seeAndCatch_84 hl (k := 1) rfl rfl (by decide) rfl (fun ls hl => ?_)
  refine lv_goto (tgt := 2) hx hb dA_seeAndCatch_87 (by decide) ?_
  exact hrec2 σ (a1 + 1) res hf H locs ls hw (lv_sub hl [1, 0] rfl)
set_option maxHeartbeats 4000000 in
set_option maxRecDepth 100000 in
theorem wA_seeAndCatch_60 {p : Program} {l : Launch} {e : Env} {R : Room} {s : State} {m : MethodId} {args : Array Value} {below : List Frame} {meth : Method} {c : Code} {E : xE} {A : Nat → Prop} {τ : yS} (C : xC p s m args meth c R E A bA_seeAndCatch 3 yA_seeAndCatch none 2 0 0) (N : Nat) (σ : xS) (rec2 : xS → Int32 → Option (xS)) (hrec2 : ∀ (σ : xS) (a1 : Int32) (res : xS), rec2 σ a1 = some res → ∀ (H : Heap) (locs : List Loc) (ls : Array Slot), xW E A s σ τ H locs → lv_has ls 3 [(0, .ref (E.2.2.1 0 0)), (1, .int a1)] → W p l e R s m args below meth c H locs 0 0 (MQ below (xQ E A none res τ) args s 0 0 A) (F0 m 2 ls [])) (a1 : Int32) (k2 : Nat) (res : xS) (hf : fA_seeAndCatch_60 N rec2 σ a1 k2 = some res) (H : Heap) (locs : List Loc) (ls : Array Slot) (hw : xW E A s σ τ H locs) (hl : lv_has ls 3 [(0, .ref (E.2.2.1 0 0)), (1, .int a1), (2, .ref (E.2.2.1 15 k2))]) : W p l e R s m args below meth c H locs 0 0 (MQ below (xQ E A none res τ) args s 0 0 A) (F0 m 60 ls []) := by
  have hx := C.1
  have hb := C.2.1
  unfold fA_seeAndCatch_60 at hf
  refine lv_aload_n hx hb dA_seeAndCatch_60 rfl (lv_at hl 0 rfl) ?_
  refine x_get C hw 0 0 11 (v := .ref (E.2.2.1 17 16)) at_0 rfl rfl ⟨by decide, by decide⟩ wA_73 rfl dA_seeAndCatch_61 ?_
  refine x_getN C hw 17 16 3 (v := va_rf (σ.2.1 17 16 3)) (at_17 (by decide)) rfl rfl ⟨by decide, by decide⟩ wA_184 rfl dA_seeAndCatch_64 ?_
  obtain ⟨r18, h17, hf⟩ := x_p hf
  refine x_callSN (As := [va_rf (σ.2.1 17 16 3)]) (rest := []) (st1 := [.int r18]) C hw (cH_isCatch l E σ τ (σ.2.1 17 16 3) r18 h17) kA_344 (by decide) rfl rfl hl.1 (lv_room (Nat.le_of_ble_eq_true rfl)) dA_seeAndCatch_67 ⟨by decide, by decide⟩ rfl (fun H locs hw => ?_)
  refine lv_if_eq (tgt := 84) hx hb dA_seeAndCatch_70 (by decide) (fun c19 => ?_) (fun c19 => ?_)
  · replace hf := x_ip c19 hf
    exact wA_seeAndCatch_84 C N σ rec2 hrec2 a1 res hf H locs ls hw (lv_sub hl [0, 1] rfl)
  · replace hf := x_in c19 hf
    refine lv_aload_n hx hb dA_seeAndCatch_73 rfl (lv_at hl 0 rfl) ?_
    refine x_get C hw 0 0 10 (v := .ref (E.2.2.1 12 0)) at_0 rfl rfl ⟨by decide, by decide⟩ wA_66 rfl dA_seeAndCatch_74 ?_
    refine lv_aload_n hx hb dA_seeAndCatch_77 rfl (lv_at hl 2 rfl) ?_
    obtain ⟨g20, hf⟩ := x_g hf
    refine x_getN C hw 15 k2 4 (v := .int (σ.1 15 k2 4)) (at_15 g20) rfl rfl ⟨by decide, by decide⟩ wA_240 rfl dA_seeAndCatch_78 ?_
    obtain ⟨s22, h21, hf⟩ := x_p hf
    refine x_callVN (As := [.int (σ.1 15 k2 4)]) (rest := []) (st1 := []) C hw (cC_add l E σ τ (σ.1 15 k2 4) s22 h21) kA_348 (x_recv C hw 12 0 at_12 rfl rfl) (by decide) rfl rfl hl.1 (lv_room (Nat.le_of_ble_eq_true rfl)) dA_seeAndCatch_81 ⟨by decide, by decide⟩ rfl (fun H locs hw => ?_)
    exact wA_seeAndCatch_84 C N s22 rec2 hrec2 a1 res hf H locs ls hw (lv_sub hl [0, 1] rfl)
set_option maxHeartbeats 4000000 in
set_option maxRecDepth 100000 in
theorem wA_seeAndCatch_2b {p : Program} {l : Launch} {e : Env} {R : Room} {s : State} {m : MethodId} {args : Array Value} {below : List Frame} {meth : Method} {c : Code} {E : xE} {A : Nat → Prop} {τ : yS} (C : xC p s m args meth c R E A bA_seeAndCatch 3 yA_seeAndCatch none 2 0 0) (N : Nat) (σ : xS) (rec2 : xS → Int32 → Option (xS)) (hrec2 : ∀ (σ : xS) (a1 : Int32) (res : xS), rec2 σ a1 = some res → ∀ (H : Heap) (locs : List Loc) (ls : Array Slot), xW E A s σ τ H locs → lv_has ls 3 [(0, .ref (E.2.2.1 0 0)), (1, .int a1)] → W p l e R s m args below meth c H locs 0 0 (MQ below (xQ E A none res τ) args s 0 0 A) (F0 m 2 ls [])) (a1 : Int32) (res : xS) (hf : fA_seeAndCatch_2b N rec2 σ a1 = some res) (H : Heap) (locs : List Loc) (ls : Array Slot) (hw : xW E A s σ τ H locs) (hl : lv_has ls 3 [(0, .ref (E.2.2.1 0 0)), (1, .int a1)]) : W p l e R s m args below meth c H locs 0 0 (MQ below (xQ E A none res τ) args s 0 0 A) (F0 m 2 ls []) := by
  have hx := C.1
  have hb := C.2.1
  unfold fA_seeAndCatch_2b at hf
  refine lv_iload_n hx hb dA_seeAndCatch_2 rfl (lv_at hl 1 rfl) ?_
  refine lv_aload_n hx hb dA_seeAndCatch_3 rfl (lv_at hl 0 rfl) ?_
  refine x_get C hw 0 0 9 (v := .ref (E.2.2.1 9 0)) at_0 rfl rfl ⟨by decide, by decide⟩ wA_59 rfl dA_seeAndCatch_4 ?_
  refine x_getN C hw 9 0 2 (v := .int (σ.1 9 0 2)) at_9 rfl rfl ⟨by decide, by decide⟩ wA_264 rfl dA_seeAndCatch_7 ?_
  refine lv_icmp_ge (tgt := 90) hx hb dA_seeAndCatch_10 (by decide) (fun c23 => ?_) (fun c23 => ?_)
  · replace hf := x_ip c23 hf
    obtain rfl := Option.some.inj hf
    exact x_vret C hw dA_seeAndCatch_90
  · replace hf := x_in c23 hf
    refine lv_aload_n hx hb dA_seeAndCatch_13 rfl (lv_at hl 0 rfl) ?_
    refine x_get C hw 0 0 6 (v := .ref (E.2.2.1 6 0)) at_0 rfl rfl ⟨by decide, by decide⟩ wA_43 rfl dA_seeAndCatch_14 ?_
    refine x_getN C hw 6 0 0 (v := .ref (E.2.2.1 7 0)) at_6 rfl rfl ⟨by decide, by decide⟩ wA_226 rfl dA_seeAndCatch_17 ?_
    refine lv_aload_n hx hb dA_seeAndCatch_20 rfl (lv_at hl 0 rfl) ?_
    refine x_get C hw 0 0 9 (v := .ref (E.2.2.1 9 0)) at_0 rfl rfl ⟨by decide, by decide⟩ wA_59 rfl dA_seeAndCatch_21 ?_
    refine x_getN C hw 9 0 0 (v := .ref (E.2.2.1 10 0)) at_9 rfl rfl ⟨by decide, by decide⟩ wA_341 rfl dA_seeAndCatch_24 ?_
    refine lv_iload_n hx hb dA_seeAndCatch_27 rfl (lv_at hl 1 rfl) ?_
    obtain ⟨g24, hf⟩ := x_g hf
    refine x_ild C hw 10 0 at_10 rfl g24 dA_seeAndCatch_28 ?_
    obtain ⟨g25, hf⟩ := x_g hf
    refine x_ald7 C hw g25 dA_seeAndCatch_29 ?_
    have g26 := x_lt g25
    refine lv_astore_n (lv' := [(2, .ref (E.2.2.1 15 ((σ.1 10 0 a1.toNatClampNeg).toNatClampNeg))), (0, .ref (E.2.2.1 0 0)), (1, .int a1)]) hx hb dA_seeAndCatch_30 rfl hl (by decide) rfl (fun ls hl => ?_)
    refine lv_aload_n hx hb dA_seeAndCatch_31 rfl (lv_at hl 0 rfl) ?_
    refine lv_iconst (v := 1) hx hb dA_seeAndCatch_32 (by decide) ?_
    refine x_putzN C hw 15 ((σ.1 10 0 a1.toNatClampNeg).toNatClampNeg) 5 (at_15 g26) (by decide) rfl rfl rfl ⟨rfl, rfl⟩ ⟨by decide, by decide⟩ (Nat.le_of_ble_eq_true rfl) wA_243 dA_seeAndCatch_33 (fun H locs hw => ?_)
    obtain ⟨s27, es27, hf⟩ := x_l hf
    rw [← es27] at hw
    refine lv_aload_n hx hb dA_seeAndCatch_36 rfl (lv_at hl 1 rfl) ?_
    refine x_get C hw 0 0 11 (v := .ref (E.2.2.1 17 16)) at_0 rfl rfl ⟨by decide, by decide⟩ wA_73 rfl dA_seeAndCatch_37 ?_
    refine x_getN C hw 17 16 2 (v := va_rf (s27.2.1 17 16 2)) (at_17 (by decide)) rfl rfl ⟨by decide, by decide⟩ wA_180 rfl dA_seeAndCatch_40 ?_
    obtain ⟨r29, h28, hf⟩ := x_p hf
    refine x_callSN (As := [va_rf (s27.2.1 17 16 2)]) (rest := []) (st1 := [.int r29]) C hw (cH_isCatch l E s27 τ (s27.2.1 17 16 2) r29 h28) kA_344 (by decide) rfl rfl hl.1 (lv_room (Nat.le_of_ble_eq_true rfl)) dA_seeAndCatch_43 ⟨by decide, by decide⟩ rfl (fun H locs hw => ?_)
    refine lv_if_eq (tgt := 60) hx hb dA_seeAndCatch_46 (by decide) (fun c30 => ?_) (fun c30 => ?_)
    · replace hf := x_ip c30 hf
      exact wA_seeAndCatch_60 C N s27 rec2 hrec2 a1 ((σ.1 10 0 a1.toNatClampNeg).toNatClampNeg) res hf H locs ls hw (lv_sub hl [1, 2, 0] rfl)
    · replace hf := x_in c30 hf
      refine lv_aload_n hx hb dA_seeAndCatch_49 rfl (lv_at hl 1 rfl) ?_
      refine x_get C hw 0 0 10 (v := .ref (E.2.2.1 12 0)) at_0 rfl rfl ⟨by decide, by decide⟩ wA_66 rfl dA_seeAndCatch_50 ?_
      refine lv_aload_n hx hb dA_seeAndCatch_53 rfl (lv_at hl 0 rfl) ?_
      refine x_getN C hw 15 ((σ.1 10 0 a1.toNatClampNeg).toNatClampNeg) 3 (v := .int (s27.1 15 ((σ.1 10 0 a1.toNatClampNeg).toNatClampNeg) 3)) (at_15 g26) rfl rfl ⟨by decide, by decide⟩ wA_237 rfl dA_seeAndCatch_54 ?_
      obtain ⟨s32, h31, hf⟩ := x_p hf
      refine x_callVN (As := [.int (s27.1 15 ((σ.1 10 0 a1.toNatClampNeg).toNatClampNeg) 3)]) (rest := []) (st1 := []) C hw (cC_add l E s27 τ (s27.1 15 ((σ.1 10 0 a1.toNatClampNeg).toNatClampNeg) 3) s32 h31) kA_348 (x_recv C hw 12 0 at_12 rfl rfl) (by decide) rfl rfl hl.1 (lv_room (Nat.le_of_ble_eq_true rfl)) dA_seeAndCatch_57 ⟨by decide, by decide⟩ rfl (fun H locs hw => ?_)
      exact wA_seeAndCatch_60 C N s32 rec2 hrec2 a1 ((σ.1 10 0 a1.toNatClampNeg).toNatClampNeg) res hf H locs ls hw (lv_sub hl [1, 2, 0] rfl)
set_option maxHeartbeats 4000000 in
set_option maxRecDepth 100000 in
theorem wA_seeAndCatch_2 {p : Program} {l : Launch} {e : Env} {R : Room} {s : State} {m : MethodId} {args : Array Value} {below : List Frame} {meth : Method} {c : Code} {E : xE} {A : Nat → Prop} {τ : yS} (C : xC p s m args meth c R E A bA_seeAndCatch 3 yA_seeAndCatch none 2 0 0) (N : Nat) (n : Nat) : ∀ (σ : xS) (a1 : Int32) (res : xS), fA_seeAndCatch_2 N n σ a1 = some res → ∀ (H : Heap) (locs : List Loc) (ls : Array Slot), xW E A s σ τ H locs → lv_has ls 3 [(0, .ref (E.2.2.1 0 0)), (1, .int a1)] → W p l e R s m args below meth c H locs 0 0 (MQ below (xQ E A none res τ) args s 0 0 A) (F0 m 2 ls []) := by
  induction n with
  | zero => intro σ a1 res hf; cases hf
  | succ n ih =>
    intro σ a1 res hf H locs ls hw hl
    exact wA_seeAndCatch_2b C N σ (fA_seeAndCatch_2 N n) ih a1 res hf H locs ls hw hl
set_option maxHeartbeats 4000000 in
set_option maxRecDepth 100000 in
theorem cA_seeAndCatch (l : Launch) (E : xE) (N : Nat) (σ : xS) (τ : yS) (res : xS) (hf : fA_seeAndCatch N σ = some res) : xM l E yA_seeAndCatch bA_seeAndCatch 3 none 2 0 0 [.ref (E.2.2.1 0 0)] σ τ none res τ := by
  refine x_met (by decide) (Nat.le_of_ble_eq_true rfl) (fun p e R s m args below meth c A ls H locs C hw hl => ?_)
  have hl : lv_has ls 3 [(0, .ref (E.2.2.1 0 0))] := hl
  have hx := C.1
  have hb := C.2.1
  unfold fA_seeAndCatch at hf
  refine lv_iconst (v := 0) hx hb dA_seeAndCatch_0 (by decide) ?_
  refine lv_istore_n (lv' := [(1, .int 0), (0, .ref (E.2.2.1 0 0))]) hx hb dA_seeAndCatch_1 rfl hl (by decide) rfl (fun ls hl => ?_)
  exact wA_seeAndCatch_2 C N N σ 0 res hf H locs ls hw (lv_sub hl [1, 0] rfl)
