/-! noMore and the questions. -/
theorem B_first {σ : xS} {τ : yS} {kk nc n N : Nat} (h : P4 kk nc n (σ.1 6 0 1) (τ 30 0 20) (σ.1 6 0 2) (τ 30 0 21) (σ.1 15) (τ 38 0) (τ 39 0) (τ 40 0) (τ 41 0) (τ 42 0) (τ 43 0) (τ 44 0)) (a : Int32) : ∀ (f i : Nat), i ≤ nc → nc + 1 ≤ i + f → ∃ v, fB_firstUnseenOf_2 N σ f a (nI i) = some v ∧ fM_noMore_30 N f τ a (nI i) = some (v, τ) := by
  obtain ⟨e1, e2, e3, e4, e5⟩ := h
  intro f
  induction f with
  | zero => intro i h1 h2; omega
  | succ f ih =>
    intro i h1 h2
    show ∃ v, fB_firstUnseenOf_2b N (fB_firstUnseenOf_2 N σ f) σ a (nI i) = some v ∧ fM_noMore_30b N (fM_noMore_30 N f) τ a (nI i) = some (v, τ)
    unfold fB_firstUnseenOf_2b fM_noMore_30b fB_firstUnseenOf_45 fM_noMore_64
    by_cases hi : nc ≤ i
    · rw [if_pos ((cLe e2 (y := nI i) rfl).mpr hi), if_pos ((cLe e3 (y := nI i) rfl).mpr hi)]
      exact ⟨-6, rfl, rfl⟩
    · rw [if_neg (fun q => hi ((cLe e2 (y := nI i) rfl).mp q)), if_neg (fun q => hi ((cLe e3 (y := nI i) rfl).mp q)), if_pos (cIn rfl), if_pos (cIn rfl), cCl rfl]
      obtain ⟨g0, g1, -, -, -, -, -, g5, -⟩ := e5 i (by omega)
      rw [g0.1, g1, g5, show nI i + 1 = nI (i + 1) from nI_1 i]
      obtain ⟨v, r1, r2⟩ := ih (i + 1) (by omega) (by omega)
      rw [r1, r2]
      by_cases ha : τ 39 0 i = a
      · rw [if_pos ha, if_pos ha]
        by_cases hb : τ 44 0 i = 0
        · rw [if_pos hb, if_pos hb]; exact ⟨_, rfl, rfl⟩
        · rw [if_neg hb, if_neg hb]; exact ⟨v, rfl, rfl⟩
      · rw [if_neg ha, if_neg ha]; exact ⟨v, rfl, rfl⟩
theorem op_noMore {N : Nat} (hN : 64 ≤ N) : xg_noMore N Rel := by
  intro k σ τ a hk hR
  obtain ⟨n, ss, pz, nc, tm, fz, ct, st, h⟩ := hR
  have hup : ∀ σ τ, Rel k σ τ → Rel (k + 1) σ τ := fun _ _ => Rel.up (Nat.le_succ k)
  obtain ⟨p1, p2, p3, p4, p5⟩ := h.2.1
  unfold fA_noMore fM_noMore fA_isStandIn
  rcases pk_ix a (n := n) (by omega) with ha | ha | ⟨ja, ha, rfl⟩
  · rw [A_below0 p2 (Or.inl ha), M_inN p3 (by omega) (Or.inl ha)]
    exact ⟨-1, σ, τ, rfl, rfl, hup _ _ ⟨_, _, _, _, _, _, _, _, h⟩⟩
  · rw [A_below0 p2 (Or.inr ha), M_inN p3 (by omega) (Or.inr ha)]
    exact ⟨-1, σ, τ, rfl, rfl, hup _ _ ⟨_, _, _, _, _, _, _, _, h⟩⟩
  rw [A_below1 rfl p2 ha (by omega), M_inS p3 rfl ha (by omega), if_neg n10, if_neg n10]
  rcases plain h false with ⟨e, σ', τ', e0, e1, e2, e3⟩ | ⟨e1, e2, e3, -⟩
  · rw [b01f] at e1 e2
    rw [e1, e2, xb_e, xb_e, if_neg (ge0 e0).1, if_neg (ge0 e0).2]
    exact ⟨e, σ', τ', rfl, rfl, hup _ _ ⟨_, _, _, _, _, _, _, _, e3⟩⟩
  · rw [b01f] at e1 e2
    rw [e1, e2, xb_e, xb_e, if_pos rfl, if_pos pos0]
    have hr := h.rest
    have h4 := h.2.2.2.2.1
    have h4' : P4 k nc n (σ.1 6 0 1) ((y_si τ 30 0 9 0) 30 0 20) (σ.1 6 0 2) ((y_si τ 30 0 9 0) 30 0 21) (σ.1 15) ((y_si τ 30 0 9 0) 38 0) ((y_si τ 30 0 9 0) 39 0) ((y_si τ 30 0 9 0) 40 0) ((y_si τ 30 0 9 0) 41 0) ((y_si τ 30 0 9 0) 42 0) ((y_si τ 30 0 9 0) 43 0) ((y_si τ 30 0 9 0) 44 0) := by
      simpa [yi_1, u3_r, u3_j] using h4
    obtain ⟨v, r1, r2⟩ := B_first (N := N) h4' (nI ja) N 0 (Nat.zero_le _) (by have := h4.1; omega)
    rw [nI_0] at r1 r2
    unfold fB_firstUnseenOf
    rw [r1, r2, xp_e]
    exact ⟨v, _, _, rfl, rfl, hup _ _ ⟨_, _, _, _, _, _, _, _, hr⟩⟩
theorem both_some {E : Option Int32} {Q : Prop} (h : ∃ r, E = some r) (q : Q) : ∃ r, E = some r ∧ E = some r ∧ Q := by
  obtain ⟨r, h⟩ := h
  exact ⟨r, h, h, q⟩
theorem op_noted (N : Nat) : xg_noted N Rel := by
  intro k σ τ a b hk hR
  have hRk : Rel (k + 1) σ τ := hR.up (Nat.le_succ k)
  obtain ⟨n, ss, pz, nc, tm, fz, ct, st, h⟩ := hR
  obtain ⟨e1, e2, e3, e4, e5⟩ := h.2.2.2.2.1
  unfold fA_noted fM_noted
  rcases pk_ix a (n := nc) (by omega) with ha | ha | ⟨ja, ha, rfl⟩
  · rw [A_below0 e2 (Or.inl ha), M_inN e3 (by omega) (Or.inl ha)]
    exact ⟨-1, rfl, rfl, hRk⟩
  · rw [A_below0 e2 (Or.inr ha), M_inN e3 (by omega) (Or.inr ha)]
    exact ⟨-1, rfl, rfl, hRk⟩
  rw [A_below1 rfl e2 ha (by omega), M_inS e3 rfl ha (by omega), if_neg n10, if_neg n10, if_pos (cIn rfl), cCl rfl]
  obtain ⟨g0, g1, -, g2, -, g3, g4, g5, -, g6⟩ := e5 ja ha
  have hin : ¬ (nI ja < 0 ∨ 40 ≤ ja) := cIn'
  rw [g0.1, g1, g2, g3, g4, g5, g6]
  simp only [if_pos hin]
  refine both_some ?_ hRk
  repeat' split
  all_goals exact ⟨_, rfl⟩
theorem op_telling (N : Nat) : xg_telling N Rel := by
  intro k σ τ a b hk hR
  have hRk : Rel (k + 1) σ τ := hR.up (Nat.le_succ k)
  obtain ⟨n, ss, pz, nc, tm, fz, ct, st, h⟩ := hR
  obtain ⟨e1, e2, e3, e4, e5⟩ := h.2.2.2.2.2.1
  unfold fA_telling fM_telling
  rcases pk_ix a (n := tm) (by omega) with ha | ha | ⟨ja, ha, rfl⟩
  · rw [A_below0 e2 (Or.inl ha), M_inN e3 (by omega) (Or.inl ha)]
    exact ⟨-1, rfl, rfl, hRk⟩
  · rw [A_below0 e2 (Or.inr ha), M_inN e3 (by omega) (Or.inr ha)]
    exact ⟨-1, rfl, rfl, hRk⟩
  rw [A_below1 rfl e2 ha (by omega), M_inS e3 rfl ha (by omega), if_neg n10, if_neg n10, if_pos (cIn rfl), cCl rfl]
  obtain ⟨az, us, ⟨s, m, -, -, g3, g4, g5, g6, -⟩, -, f2, f3, -, -, f6, f7, -, -, f10, -⟩ := e4 ja ha
  have hin : ¬ (nI ja < 0 ∨ 16 ≤ ja) := cIn'
  have hin2 : ¬ (nI ja < 0 ∨ 17 ≤ ja) := cIn'
  have h17 : ja < 17 := by omega
  rw [g3, g4, g5, g6, f2, f3, f6, f7, f10]
  simp only [if_pos hin, if_pos hin2, if_pos h17]
  refine both_some ?_ hRk
  repeat' split
  all_goals exact ⟨_, rfl⟩
theorem op_found (N : Nat) : xg_found N Rel := by
  intro k σ τ a hk hR
  have hRk : Rel (k + 1) σ τ := hR.up (Nat.le_succ k)
  obtain ⟨n, ss, pz, nc, tm, fz, ct, st, h⟩ := hR
  obtain ⟨e1, e2, e3, e4, e5, e6, e7, e8⟩ := h.2.2.2.2.2.2.1
  unfold fA_found fM_found
  rw [e4, e6]
  by_cases hd : τ 30 0 37 = 0
  · rw [if_pos hd, if_pos hd]; exact ⟨-1, rfl, rfl, hRk⟩
  rw [if_neg hd, if_neg hd]
  have e35 : 1 + τ 30 0 35 = nI (1 + fz) := by rw [e3, show (1 : Int32) = nI 1 from rfl, nI_add]
  rw [e35]
  by_cases h0 : 0 ≤ a
  · rw [if_pos h0]
    obtain ⟨j, hj, rfl⟩ := nI_of (x := a) (Int32.not_lt.mpr h0)
    by_cases hj0 : j = 0
    · subst hj0
      rw [M_in1 rfl rfl (by omega) (by omega), if_neg n10, if_pos (show nI 0 = 0 from rfl), if_pos (show nI 0 = 0 from rfl)]
      refine both_some ?_ hRk
      repeat' split
      all_goals exact ⟨_, rfl⟩
    · rw [if_neg (fun q => hj0 ((cEq (x := nI j) rfl (y := 0) (b := 0) rfl).mp q)), if_neg (fun q => hj0 ((cEq (x := nI j) rfl (y := 0) (b := 0) rfl).mp q))]
      by_cases hj1 : j = 1
      · subst hj1
        rw [M_in1 rfl rfl (by omega) (by omega), if_neg n10, if_pos (show nI 1 = 1 from rfl), if_pos (show nI 1 = 1 from rfl), e2, e3]
        exact ⟨_, rfl, rfl, hRk⟩
      · rw [if_neg (fun q => hj1 ((cEq (x := nI j) rfl (y := 1) (b := 1) rfl).mp q)), if_neg (fun q => hj1 ((cEq (x := nI j) rfl (y := 1) (b := 1) rfl).mp q))]
        have ej : nI j - 2 = nI (j - 2) := by rw [show (2 : Int32) = nI 2 from rfl, pk_sub (by omega)]
        rw [ej]
        by_cases hz : j < 2 + fz
        · rw [M_in1 rfl rfl (by omega) (by omega), if_neg n10, A_below1 rfl e2 (by omega) (by omega), if_neg n10, if_pos (cIn rfl), if_pos (cIn rfl), cCl rfl, e8 _ (by omega)]
          exact ⟨_, rfl, rfl, hRk⟩
        · rw [M_in0 rfl (by omega) (Or.inr (nI_le (by omega) (by omega))), if_pos rfl, A_below0 e2 (Or.inr (nI_le (by omega) (by omega))), if_pos rfl]
          exact ⟨-1, rfl, rfl, hRk⟩
  · rw [if_neg h0, M_in0 rfl (by omega) (Or.inl (Int32.not_le.mp h0)), if_pos rfl]
    exact ⟨-1, rfl, rfl, hRk⟩
theorem op_caught (N : Nat) : xg_caught N Rel := by
  intro k σ τ a hk hR
  have hRk : Rel (k + 1) σ τ := hR.up (Nat.le_succ k)
  obtain ⟨n, ss, pz, nc, tm, fz, ct, st, h⟩ := hR
  obtain ⟨e1, e2, e3, e4, e5, e6⟩ := h.2.2.2.2.2.2.2.1
  unfold fA_caught fM_caught
  rcases pk_ix a (n := 12) (by decide) with ha | ha | ⟨j, ha, rfl⟩
  · rw [A_below0 e4 (Or.inl ha), M_in0 (n := 11) (c := 11) rfl (by decide) (Or.inl ha)]
    exact ⟨-1, rfl, rfl, hRk⟩
  · rw [A_below0 e4 (Or.inr (Int32.le_trans (nI_le (by omega) (by omega)) ha)), M_in0 (n := 11) (c := 11) rfl (by decide) (Or.inr ha)]
    exact ⟨-1, rfl, rfl, hRk⟩
  rw [M_in1 (n := 11) (c := 11) rfl rfl (by omega) (by decide), if_neg n10]
  by_cases hj : j < ct
  · rw [A_below1 rfl e4 (by omega) (by omega), if_neg n10, if_neg (fun q => by have := (cLe e3 (y := nI j) rfl).mp q; omega)]
    have m1 : τ 30 0 36 - 1 - nI j = nI (ct - 1 - j) := by rw [e3, show (1 : Int32) = nI 1 from rfl, pk_sub (by omega), pk_sub (by omega)]
    rw [m1, show (12 : Int32) = nI 12 from rfl, pk_rem (by omega) (by decide) (by decide), if_pos (cIn rfl (Nat.mod_lt _ (by decide))), cCl rfl (by have := Nat.mod_lt (ct - 1 - j) (show 0 < 12 by decide); omega)]
    unfold fC_beforeLatest
    have hmod := Nat.mod_lt ct (show 0 < 12 by decide)
    have hd := Nat.div_add_mod ct 12
    by_cases hq : j + 1 ≤ ct % 12
    · have m2 : σ.1 12 0 1 - 1 - nI j = nI (ct % 12 - 1 - j) := by rw [e5, show (1 : Int32) = nI 1 from rfl, pk_sub (by omega), pk_sub (by omega)]
      have m3 : (ct - 1 - j) % 12 = ct % 12 - 1 - j := by omega
      rw [m2, if_neg (nI_pos (by omega)), if_pos (cIn rfl), cCl rfl, xp_e, m3, e6 _ (by omega) (by omega)]
      exact ⟨_, rfl, rfl, hRk⟩
    · have m2 : σ.1 12 0 1 - 1 - nI j < 0 ∧ σ.1 12 0 1 - 1 - nI j + 12 = nI (ct % 12 + 11 - j) := by
        have e9 : σ.1 12 0 1 - 1 - nI j = nI (ct % 12) - nI (1 + j) := by
          rw [e5, show (1 : Int32) = nI 1 from rfl, ← nI_add, Int32.sub_sub]
        rw [e9]
        refine ⟨pk_sneg (by omega) (by omega), ?_⟩
        have e10 : ct % 12 + 11 - j + (1 + j) = ct % 12 + 12 := by omega
        have e11 : nI (ct % 12) + 12 = nI (ct % 12 + 11 - j) + nI (1 + j) := by rw [nI_add, e10, ← nI_add]; rfl
        rw [show nI (ct % 12) - nI (1 + j) + 12 = nI (ct % 12) + 12 - nI (1 + j) by rw [Int32.sub_eq_add_neg, Int32.sub_eq_add_neg, Int32.add_assoc, Int32.add_comm (-nI (1 + j)) 12, ← Int32.add_assoc], e11, Int32.add_sub_cancel]
      have m3 : (ct - 1 - j) % 12 = ct % 12 + 11 - j := by omega
      rw [if_pos m2.1, m2.2, if_pos (cIn rfl), cCl rfl, xp_e, m3, e6 _ (by omega) (by omega)]
      exact ⟨_, rfl, rfl, hRk⟩
  · rw [A_below0 e4 (Or.inr (nI_le (by omega) (by omega))), if_pos rfl, if_pos ((cLe e3 (y := nI j) rfl).mpr (by omega))]
    exact ⟨-1, rfl, rfl, hRk⟩
theorem A_never {σ : xS} {τ : yS} {tm n kk N : Nat} (h : P5 tm n kk (σ.1 0 0 8) (τ 30 0 29) (σ.1 16) (σ.1 17) (σ.1 18) (σ.1 19) (σ.1 20) (σ.2.1 17) (σ.1 21) (σ.2.1 21) σ.2.2.1 (τ 35 0) (τ 36 0) (τ 37 0) (τ 31 0) (τ 33 0) (τ 45 0) (τ 46 0) (τ 47 0) (τ 48 0) (τ 49 0) (τ 50 0) (τ 51 0)) (hk : kk < 2147483648) (a : Int32) : ∀ (f i : Nat) (c : Int32), i ≤ tm → tm + 1 ≤ i + f → ∃ v, fA_tellingsNeverUsed_4 N σ f c (nI i) = some v ∧ fM_count_4 N τ f a c (nI i) = fM_count_4b N (fun _ _ _ => none) τ a v (nI tm) := by
  obtain ⟨e1, e2, e3, e4, e5⟩ := h
  intro f
  induction f with
  | zero => intro i c h1 h2; omega
  | succ f ih =>
    intro i c h1 h2
    show ∃ v, fA_tellingsNeverUsed_4b N (fA_tellingsNeverUsed_4 N σ f) σ c (nI i) = some v ∧ fM_count_4b N (fM_count_4 N τ f) τ a c (nI i) = _
    unfold fA_tellingsNeverUsed_4b fA_tellingsNeverUsed_42
    by_cases hi : tm ≤ i
    · have hi' : i = tm := by omega
      subst hi'
      refine ⟨c, by rw [if_pos ((cLe e2 (y := nI i) rfl).mpr hi)], ?_⟩
      unfold fM_count_4b
      rw [if_pos ((cLe e3 (y := nI i) rfl).mpr hi), if_pos ((cLe e3 (y := nI i) rfl).mpr hi)]
    · rw [if_neg (fun q => hi ((cLe e2 (y := nI i) rfl).mp q)), if_pos (cIn rfl), cCl rfl, if_pos (by omega)]
      obtain ⟨az, us, -, f1, f2, f3, -, f5, f6, f7, -⟩ := e4 i (by omega)
      have eM : ∀ c, fM_count_4b N (fM_count_4 N τ f) τ a c (nI i) = if az ≤ 0 then fM_count_4 N τ f a c (nI (i + 1)) else if us = 0 then fM_count_4 N τ f a (c + 1) (nI (i + 1)) else fM_count_4 N τ f a c (nI (i + 1)) := by
        intro c
        conv => lhs; unfold fM_count_4b fM_count_33
        rw [if_neg (fun q => hi ((cLe e3 (y := nI i) rfl).mp q)), if_pos (cIn rfl), cCl rfl, show nI i + 1 = nI (i + 1) from nI_1 i]
        by_cases hz : az ≤ 0
        · rw [if_pos ((cLe f3 (y := 0) (b := 0) rfl).mpr hz), if_pos hz]
        · rw [if_neg (fun q => hz ((cLe f3 (y := 0) (b := 0) rfl).mp q)), if_neg hz, if_pos cIn']
          by_cases hu : us = 0
          · rw [if_pos ((cEq f7 (y := 0) (b := 0) rfl).mpr hu), if_pos hu]
          · rw [if_neg (fun q => hu ((cEq f7 (y := 0) (b := 0) rfl).mp q)), if_neg hu]
      rw [eM, show nI i + 1 = nI (i + 1) from nI_1 i]
      by_cases hz : az ≤ 0
      · rw [if_pos ((cLe f2 (y := 0) (b := 0) rfl).mpr hz), if_pos hz]
        exact ih (i + 1) c (by omega) (by omega)
      · rw [if_neg (fun q => hz ((cLe f2 (y := 0) (b := 0) rfl).mp q)), if_neg hz]
        by_cases hu : us = 0
        · rw [if_pos ((cEq f6 (y := 0) (b := 0) rfl).mpr hu), if_pos hu]
          exact ih (i + 1) (c + 1) (by omega) (by omega)
        · rw [if_neg (fun q => hu ((cEq f6 (y := 0) (b := 0) rfl).mp q)), if_neg hu]
          exact ih (i + 1) c (by omega) (by omega)
theorem op_count {N : Nat} (hN : 64 ≤ N) : xg_count N Rel := by
  intro k σ τ a hk hR
  have hRk : Rel (k + 1) σ τ := hR.up (Nat.le_succ k)
  obtain ⟨n, ss, pz, nc, tm, fz, ct, st, h0, h1, h2, h3, h4, h5, h6, h7, h8, h9⟩ := hR
  obtain ⟨v, r1, r2⟩ := A_never (N := N) h5 (by omega) a N 0 0 (Nat.zero_le _) (by have := h5.1; omega)
  rw [nI_0] at r1 r2
  unfold fA_count fM_count fA_tellingsNeverUsed
  rw [r1, r2]
  unfold fM_count_4b
  rw [if_pos ((cLe h5.2.2.1 (y := nI tm) rfl (by have := h5.1; omega) (by have := h5.1; omega)).mpr (Nat.le_refl _)), c16]
  rw [h1.2.1, h1.2.2.1, h4.2.1, h4.2.2.1, h5.2.1, h5.2.2.1, h2.2.1, h2.2.2.1, h9.2.1, h9.2.2.1, h3.2.1, h3.2.2.1, h7.2.1, h7.2.2.1, h8.1, h8.2]
  simp only [xp_e]
  refine both_some ?_ hRk
  repeat' split
  all_goals exact ⟨_, rfl⟩
