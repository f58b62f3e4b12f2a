/-! call: the step. -/
theorem op_call (N : Nat) (hN : 64 ≤ N) : xg_call N Rel := by
  intro k σ τ a b c d hk hR
  obtain ⟨n, ss, pz, nc, tm, fz, ct, st, h⟩ := hR
  have hup : ∀ σ τ, Rel k σ τ → Rel (k + 1) σ τ := fun _ _ => Rel.up (Nat.le_succ k)
  have hRk : Rel (k + 1) σ τ := hup _ _ ⟨_, _, _, _, _, _, _, _, h⟩
  obtain ⟨p1, p2, p3, p4, p5⟩ := h.2.1
  obtain ⟨s1, s2, s3, s4, s5, s6, s7, s8⟩ := h.2.2.2.2.2.2.2.2.2
  unfold fA_call fM_call fA_isStandIn
  rcases pk_ix a (n := n) (by omega) with ha | ha | ⟨s, hs, rfl⟩
  · rw [A_below0 p2 (Or.inl ha), M_inN p3 (by omega) (Or.inl ha)]
    exact ⟨_, σ, τ, rfl, rfl, hRk⟩
  · rw [A_below0 p2 (Or.inr ha), M_inN p3 (by omega) (Or.inr ha)]
    exact ⟨_, σ, τ, rfl, rfl, hRk⟩
  rw [A_below1 rfl p2 hs (by omega), M_inS p3 rfl hs (by omega), if_neg n10, if_neg n10]
  rcases pk_ix b (n := 4) (by decide) with hb | hb | ⟨m, hm, rfl⟩
  · rw [A_below0 (n := 4) (c := 4) rfl (Or.inl hb), M_in0 (n := 3) (c := 3) rfl (by decide) (Or.inl hb)]
    exact ⟨_, σ, τ, rfl, rfl, hRk⟩
  · rw [A_below0 (n := 4) (c := 4) rfl (Or.inr hb), M_in0 (n := 3) (c := 3) rfl (by decide) (Or.inr hb)]
    exact ⟨_, σ, τ, rfl, rfl, hRk⟩
  rw [A_below1 (n := 4) (c := 4) rfl rfl hm (by decide), M_in1 (n := 3) (c := 3) rfl rfl (by omega) (by decide), if_neg n10, if_neg n10]
  rcases call_room (N := N) (a2 := nI m) (a := c) (b := d) h hs with ⟨r1, r2⟩ | ⟨r1, r2, r3, r4⟩
  · rw [r1, r2, if_neg n10]
    exact ⟨_, σ, τ, rfl, rfl, hRk⟩
  rw [r1, r2, if_pos rfl]
  obtain ⟨ty, t1, t2, t3, t4, t5, t6, t7⟩ := pm_e h.2.1 hs hm
  obtain ⟨ty', u1, u2, u3⟩ := A_method h.2.1 hs hm
  have hty : ty' = ty := by
    rw [t2] at u2
    exact ((nI_eq (by omega) (by omega)).mp u2).symm
  rw [hty] at u3
  have hidx : 4 * ty + m < 12 := by omega
  rw [u3, xp_e]
  obtain ⟨u, w, hmis⟩ := call_mis (a := c) (b := d) hN h hs hm t1 t2 t4 t3 t5 t6
  rcases hmis with ⟨cc, σ', τ', c0, c1, c2, c3⟩ | ⟨c1, c2, c3, c4⟩
  · rw [c1, c2, xb_e, if_neg (ge0 c0).1]
    exact ⟨_, σ', τ', rfl, rfl, hup _ _ ⟨_, _, _, _, _, _, _, _, c3⟩⟩
  rw [c1, c2, xb_e, if_pos rfl, if_pos hidx, t5]
  obtain ⟨P, hP⟩ : ∃ P, P = pm (τ 31 0) (τ 33 0) s m := ⟨_, rfl⟩
  rw [← hP] at t3 t4 t5 c3 ⊢
  obtain ⟨A, hA⟩ : ∃ A : Int32, A = if P = 0 then 0 else c := ⟨_, rfl⟩
  obtain ⟨B, hB⟩ : ∃ B : Int32, B = if P ≤ 1 then 0 else d := ⟨_, rfl⟩
  have e75 : ∀ x : Int32, fA_call_75 N σ (nI s) (nI m) d (4 * ty + m) x = fA_call_92 N σ (nI s) (nI m) (4 * ty + m) x B := by
    intro x
    unfold fA_call_75
    rw [if_pos hidx, t5, hB]
    by_cases z : P ≤ 1
    · rw [if_pos ((cLe (x := nI P) rfl (y := 1) (b := 1) rfl).mpr z), if_pos z]
    · rw [if_neg (fun z' => z ((cLe (x := nI P) rfl (y := 1) (b := 1) rfl).mp z')), if_neg z]
  have eA : (if nI P ≤ 0 then fA_call_75 N σ (nI s) (nI m) d (4 * ty + m) 0 else fA_call_75 N σ (nI s) (nI m) d (4 * ty + m) c) = fA_call_92 N σ (nI s) (nI m) (4 * ty + m) A B := by
    rw [e75, e75, hA]
    by_cases z : P = 0
    · rw [if_pos ((cLe (x := nI P) rfl (y := 0) (b := 0) rfl).mpr (by omega)), if_pos z]
    · rw [if_neg (fun z' => z (by have := (cLe (x := nI P) rfl (y := 0) (b := 0) rfl).mp z'; omega)), if_neg z]
  rw [eA, ← hA, ← hB]
  obtain ⟨σ2, τ1, n1, n2, n3, n4, n5, n6, n7, n8, n9⟩ := call_now (A := A) (B := B) (s := s) (m := m) hN h hidx t5 t3 c3
  rw [n1, n2]
  unfold cEnd
  obtain ⟨T, hT⟩ : ∃ T, T = y_si (y_si τ1 30 0 8 0) 30 0 9 0 := ⟨_, rfl⟩
  rw [← hT] at n4 ⊢
  have Tr : ∀ r, ¬ r = 30 → T r = τ1 r := fun r hr => by rw [hT]; funext k j; rw [yi_1, u3_r hr, yi_1, u3_r hr]
  have T30 : ∀ j, ¬ j = 8 → ¬ j = 9 → T 30 0 j = τ 30 0 j := fun j q8 q9 => by rw [hT, yi_1, u3_j q9, yi_1, u3_j q8, n9 30 (by decide) (by decide) (by decide)]
  have T9 : T 30 0 9 = 0 := by rw [hT, yi_1, u3_e]
  have T31 : T 31 = τ 31 := by rw [Tr 31 (by decide), n9 31 (by decide) (by decide) (by decide)]
  have T32 : T 32 = τ 32 := by rw [Tr 32 (by decide), n9 32 (by decide) (by decide) (by decide)]
  have T33 : T 33 = τ 33 := by rw [Tr 33 (by decide), n9 33 (by decide) (by decide) (by decide)]
  have x0 : ∀ j, σ2.1 0 0 j = σ.1 0 0 j := fun j => by rw [n8 0 (by decide) (by decide) (by decide)]
  have hPm : pm (T 31 0) (T 33 0) s m = P := by rw [T31, T33, hP]
  have hPat : Pat (σ2.1 21) (σ2.2.1 21) σ2.2.2.1 (T 35 0) (T 36 0) (T 37 0) (σ2.2.1 17 16 2) (σ2.2.1 17 16 3) (pm (T 31 0) (T 33 0) s m) 6 := by
    rw [hPm, Tr 35 (by decide), Tr 36 (by decide), Tr 37 (by decide)]; exact n5
  have h33 : T 33 0 s = nI ty := by rw [T33]; exact t2
  have h31 : T 31 0 (4 * ty + m) = nI (pm (T 31 0) (T 33 0) s m) := by rw [hPm, T31]; exact t4
  have hp2 : pm (T 31 0) (T 33 0) s m ≤ 2 := by rw [hPm]; exact t3
  have y2 : σ2.1 0 0 12 = nI st := by rw [x0]; exact s2
  have y3 : τ1 30 0 9 = nI st := by rw [n3]; exact s3
  by_cases q2 : st = 2
  · rw [if_pos ((cEq y2 (y := 2) (b := 2) rfl).mpr q2), if_pos ((cEq y3 (y := 2) (b := 2) rfl).mpr q2)]
    exact call_tell hN n4 (r4 q2 (c4 (Or.inl q2))) hs hm n6 n7 T9 hPat
  · rw [if_neg (fun q => q2 ((cEq y2 (y := 2) (b := 2) rfl).mp q)), if_neg (fun q => q2 ((cEq y3 (y := 2) (b := 2) rfl).mp q))]
    by_cases q3 : st = 3
    · rw [if_pos ((cEq y2 (y := 3) (b := 3) rfl).mpr q3), if_pos ((cEq y3 (y := 3) (b := 3) rfl).mpr q3)]
      obtain ⟨md, q, m1, m2, m3, m4, m5, m6, m7⟩ := s7 q3
      exact call_check hN hk n4 hs hm t1 h33 h31 hp2 n6 n7 T9 hPat m1 m2 m3 (by rw [x0]; exact m4) (by rw [T30 11 (by decide) (by decide)]; exact m5) (by rw [x0]; exact m6) (by rw [T30 12 (by decide) (by decide)]; exact m7)
    · rw [if_neg (fun q => q3 ((cEq y2 (y := 3) (b := 3) rfl).mp q)), if_neg (fun q => q3 ((cEq y3 (y := 3) (b := 3) rfl).mp q))]
      exact call_note hN hk n4 (r3 (fun q => q.elim q2 q3)) hs hm t1 h33 h31 hp2 (by rw [n8 14 (by decide) (by decide) (by decide), T32]; exact t6) n6 n7 hPat
/-- every step owes what it gives -/
theorem good64 : xGood 64 Rel := ⟨op_define 64, op_make 64, op_matcher 64 (by omega), op_call 64 (by omega), op_when 64 (by omega), op_answer 64, op_told 64, op_check 64, op_noMore (by omega), op_restart 64, op_noted 64, op_telling 64, op_found 64, op_caught 64, op_count (by omega), fun _ _ _ _ h => h.up (Nat.le_succ _)⟩
