/-! make, told, check, noMore. -/
theorem P9.stand {n n' nc tm pz : Nat} {a12 t9 : Int32} {a13 a14 a15 t10 t11 t12 : Int32} {x17 : Nat → Nat → Int32} {p17 : Nat → Nat → Option Nat} {I : Nat → Nat → Int32} {P : Nat → Nat → Option Nat} {L : List Nat} {sz kd vl t31 t33 t39 t40 t45 t46 t48 t51 : Nat → Int32} (h1 : a12 = 0) (h2 : t9 = 0) : P9 0 n' nc tm pz a12 a13 a14 a15 t9 t10 t11 t12 x17 p17 I P L sz kd vl t31 t33 t39 t40 t45 t46 t48 t51 := P9_idle h1 h2
theorem P5.more {tm n n' kk : Nat} (hn : n ≤ n') {a8 t29 : Int32} {x16 x17 x18 x19 x20 : Nat → Nat → Int32} {p17 : Nat → Nat → Option Nat} {I : Nat → Nat → Int32} {P : Nat → Nat → Option Nat} {L : List Nat} {sz kd vl t31 t33 t45 t46 t47 t48 t49 t50 t51 : Nat → Int32} (h : P5 tm n kk a8 t29 x16 x17 x18 x19 x20 p17 I P L sz kd vl t31 t33 t45 t46 t47 t48 t49 t50 t51) : P5 tm n' kk a8 t29 x16 x17 x18 x19 x20 p17 I P L sz kd vl t31 t33 t45 t46 t47 t48 t49 t50 t51 := by
  obtain ⟨e1, e2, e3, e4, e5⟩ := h
  refine ⟨e1, e2, e3, fun t ht => ?_, e5⟩
  obtain ⟨az, us, ⟨s, m, g1, g2⟩, f⟩ := e4 t ht
  exact ⟨az, us, ⟨s, m, by omega, g2⟩, f⟩
theorem P4.more {kk nc n n' : Nat} (hn : n ≤ n') {b1 t20 b2 t21 : Int32} {x15 : Nat → Nat → Int32} {t38 t39 t40 t41 t42 t43 t44 : Nat → Int32} (h : P4 kk nc n b1 t20 b2 t21 x15 t38 t39 t40 t41 t42 t43 t44) : P4 kk nc n' b1 t20 b2 t21 x15 t38 t39 t40 t41 t42 t43 t44 := by
  obtain ⟨e1, e2, e3, e4, e5⟩ := h
  refine ⟨e1, e2, e3, e4, fun i hi => ?_⟩
  obtain ⟨g1, g2, ⟨s, g3, g4⟩, g⟩ := e5 i hi
  exact ⟨g1, g2, ⟨s, by omega, g4⟩, g⟩
theorem op_make (N : Nat) : xg_make N Rel := by
  intro k σ τ a b hk hR
  obtain ⟨n, ss, pz, nc, tm, fz, ct, st, h⟩ := hR
  have hup : ∀ σ τ, Rel k σ τ → Rel (k + 1) σ τ := fun _ _ => Rel.up (Nat.le_succ k)
  obtain ⟨p1, p2, p3, p4, p5⟩ := h.2.1
  unfold fA_make fM_make
  rcases pk_ix a (n := 3) (by decide) with ha | ha | ⟨ja, ha, rfl⟩
  · rw [A_below0 (n := 3) (c := 3) rfl (Or.inl ha), M_in0 (n := 2) (c := 2) rfl (by decide) (Or.inl ha)]
    exact ⟨-1, σ, τ, rfl, rfl, hup _ _ ⟨_, _, _, _, _, _, _, _, h⟩⟩
  · rw [A_below0 (n := 3) (c := 3) rfl (Or.inr ha), M_in0 (n := 2) (c := 2) rfl (by decide) (Or.inr ha)]
    exact ⟨-1, σ, τ, rfl, rfl, hup _ _ ⟨_, _, _, _, _, _, _, _, h⟩⟩
  rw [A_below1 (n := 3) (c := 3) rfl rfl ha (by decide), M_in1 (n := 2) (c := 2) rfl rfl (by omega) (by decide), if_neg n10, if_neg n10]
  rcases pk_ix b (n := 3) (by decide) with hb | hb | ⟨jb, hb, rfl⟩
  · rw [if_pos hb, M_in0 (n := 2) (c := 2) rfl (by decide) (Or.inl hb)]
    exact ⟨-1, σ, τ, rfl, rfl, hup _ _ ⟨_, _, _, _, _, _, _, _, h⟩⟩
  · have hb0 : ¬ b < 0 := fun q => by
      have h1 := Int32.le_iff_toInt_le.mp hb
      have h2 := Int32.lt_iff_toInt_lt.mp q
      rw [nI_toInt (by decide)] at h1
      rw [show (0 : Int32).toInt = 0 from rfl] at h2
      omega
    have hb2 : ¬ b ≤ 2 := fun q => by
      have h1 := Int32.le_iff_toInt_le.mp hb
      have h2 := Int32.le_iff_toInt_le.mp q
      rw [nI_toInt (by decide)] at h1
      rw [show (2 : Int32).toInt = 2 from rfl] at h2
      omega
    rw [if_neg hb0, if_neg hb2, M_in0 (n := 2) (c := 2) rfl (by decide) (Or.inr hb)]
    exact ⟨-1, σ, τ, rfl, rfl, hup _ _ ⟨_, _, _, _, _, _, _, _, h⟩⟩
  rw [if_neg (nI_pos (by omega)), if_pos ((cLe (x := nI jb) rfl (y := 2) (b := 2) rfl).mpr (by omega)), M_in1 (n := 2) (c := 2) rfl rfl (by omega) (by decide), if_neg n10]
  by_cases hn : n < 6
  · rw [if_pos ((cLt p2 (y := 6) (b := 6) rfl).mpr hn), if_neg (fun q => by have := (cEq p3 (y := 6) (b := 6) rfl).mp q; omega)]
    rcases plain h false with ⟨e, σ', τ', e0, e1, e2, e3⟩ | ⟨e1, e2, e3, -⟩
    · rw [b01f] at e1 e2
      rw [e1, e2, xb_e, xb_e, if_neg (ge0 e0).1, if_neg (ge0 e0).2]
      exact ⟨e, σ', τ', rfl, rfl, hup _ _ ⟨_, _, _, _, _, _, _, _, e3⟩⟩
    · rw [b01f] at e1 e2
      have f1 : (y_si τ 30 0 9 0) 30 0 4 = nI n := by simp [yi_1, u3_j]; exact p3
      rw [e1, e2, xb_e, xb_e, if_pos rfl, if_pos pos0, f1, p2, if_pos (cIn rfl), if_pos (cIn rfl), cCl rfl]
      simp only [xl_e]
      have f2 : (x_si σ 2 0 n (nI ja)).1 0 0 3 = nI n := by simp [si_1, u3_r]; exact p2
      have f3 : (y_si (y_si τ 30 0 9 0) 33 0 n (nI ja)) 30 0 4 = nI n := by simp [yi_1, u3_r, u3_j]; exact p3
      rw [f2, f3, if_pos (cIn rfl), if_pos (cIn rfl), cCl rfl]
      have f4 : (x_si (x_si σ 2 0 n (nI ja)) 3 0 n (nI jb)).1 0 0 3 = nI n := by simp [si_1, u3_r]; exact p2
      have f5 : (y_si (y_si (y_si τ 30 0 9 0) 33 0 n (nI ja)) 34 0 n (nI jb)) 30 0 4 = nI n := by simp [yi_1, u3_r, u3_j]; exact p3
      rw [f4, f5, show (1 : Int32) = nI 1 from rfl, nI_add]
      have f6 : (x_si (x_si (x_si σ 2 0 n (nI ja)) 3 0 n (nI jb)) 0 0 3 (nI (n + 1))).1 0 0 3 - nI 1 = nI n := by
        rw [si_1, u3_e, pk_sub (by omega)]; rfl
      have f7 : (y_si (y_si (y_si (y_si τ 30 0 9 0) 33 0 n (nI ja)) 34 0 n (nI jb)) 30 0 4 (nI (n + 1))) 30 0 4 - nI 1 = nI n := by
        rw [yi_1, u3_e, pk_sub (by omega)]; rfl
      rw [f6, f7]
      simp only [idle_e]
      refine ⟨_, _, _, rfl, rfl, hup _ _ ⟨n + 1, ss, pz, nc, tm, fz, ct, 0, ?_⟩⟩
      obtain ⟨h0, h1, h2, h3, h4, h5, h6, h7, h8, h9⟩ := h
      have g33 : ∀ i, (y_si (y_si (y_si (y_si τ 30 0 9 0) 33 0 n (nI ja)) 34 0 n (nI jb)) 30 0 4 (nI (n + 1))) 33 0 i = if i = n then nI ja else τ 33 0 i := fun i => by
        simp [yi_1, u3_r, u3_self, u1]
      have g34 : ∀ i, (y_si (y_si (y_si (y_si τ 30 0 9 0) 33 0 n (nI ja)) 34 0 n (nI jb)) 30 0 4 (nI (n + 1))) 34 0 i = if i = n then nI jb else τ 34 0 i := fun i => by
        simp [yi_1, u3_r, u3_self, u1]
      have g2 : ∀ i, (x_si (x_si (x_si (x_si σ 2 0 n (nI ja)) 3 0 n (nI jb)) 0 0 3 (nI (n + 1))) 0 0 12 0).1 2 0 i = if i = n then nI ja else σ.1 2 0 i := fun i => by
        simp [si_1, u3_r, u3_self, u1]
      have g3 : ∀ i, (x_si (x_si (x_si (x_si σ 2 0 n (nI ja)) 3 0 n (nI jb)) 0 0 3 (nI (n + 1))) 0 0 12 0).1 3 0 i = if i = n then nI jb else σ.1 3 0 i := fun i => by
        simp [si_1, u3_r, u3_self, u1]
      refine ⟨h0, ⟨by omega, ?_, ?_, ?_, fun i hi => ?_⟩, ?_, ?_, ?_, ?_, ?_, ?_, ?_, P9_idle ?_ ?_⟩
      · simp [si_1, u3_r, u3_j, u3_e]
      · simp [yi_1, u3_r, u3_j, u3_e]
      · simpa [si_1, si_2, yi_1, u3_r, u3_j] using p4
      · rw [g2, g3, g33, g34]
        by_cases hq : i = n
        · simp [hq]
          exact ⟨ja, ha, rfl⟩
        · simp [hq]
          exact p5 i (by omega)
      · simpa [si_1, si_2, yi_1, u3_r, u3_j] using h2
      · simpa [si_1, si_2, yi_1, u3_r, u3_j] using h3
      · simpa [si_1, si_2, yi_1, u3_r, u3_j] using P4.more (Nat.le_succ n) h4
      · have h5' := P5.congr (t33' := (y_si (y_si (y_si (y_si τ 30 0 9 0) 33 0 n (nI ja)) 34 0 n (nI jb)) 30 0 4 (nI (n + 1))) 33 0) (t31' := τ 31 0) h5 (fun _ _ => rfl) (fun _ _ => rfl) (fun _ _ => rfl) (fun _ _ => rfl) (fun _ _ => rfl) (fun _ _ => rfl) (fun _ _ _ _ _ _ q => q) (fun s m hs _ => by unfold pm; rw [g33, if_neg (by omega)]) (fun _ _ => rfl) (fun _ _ => rfl) (fun _ _ => rfl) (fun _ _ => rfl) (fun _ _ => rfl) (fun _ _ => rfl) (fun _ _ => rfl)
        simpa [si_1, si_2, yi_1, u3_r, u3_j] using P5.more (Nat.le_succ n) h5'
      · simpa [si_1, si_2, yi_1, u3_r, u3_j] using h6
      · simpa [si_1, si_2, yi_1, u3_r, u3_j] using h7
      · simpa [si_1, si_2, yi_1, u3_r, u3_j] using h8
      · simp [si_1, u3_e]
      · simp [yi_1, u3_r, u3_j, u3_e]
  · rw [if_neg (fun q => hn ((cLt p2 (y := 6) (b := 6) rfl).mp q)), if_pos ((cEq p3 (y := 6) (b := 6) rfl).mpr (by omega))]
    exact ⟨-2, σ, τ, rfl, rfl, hup _ _ ⟨_, _, _, _, _, _, _, _, h⟩⟩
theorem op_told (N : Nat) : xg_told N Rel := by
  intro k σ τ a hk hR
  obtain ⟨n, ss, pz, nc, tm, fz, ct, st, h⟩ := hR
  have hup : ∀ σ τ, Rel k σ τ → Rel (k + 1) σ τ := fun _ _ => Rel.up (Nat.le_succ k)
  obtain ⟨p1, p2, p3, p4, p5⟩ := h.2.1
  obtain ⟨q1, q2, q3, q4⟩ := h.2.2.2.1
  unfold fA_told fM_told fA_isStandIn
  rcases pk_ix a (n := n) (by omega) with ha | ha | ⟨ja, ha, rfl⟩
  · rw [A_below0 p2 (Or.inl ha), M_inN p3 (by omega) (Or.inl ha)]
    exact ⟨-1, σ, τ, rfl, rfl, hup _ _ ⟨_, _, _, _, _, _, _, _, h⟩⟩
  · rw [A_below0 p2 (Or.inr ha), M_inN p3 (by omega) (Or.inr ha)]
    exact ⟨-1, σ, τ, rfl, rfl, hup _ _ ⟨_, _, _, _, _, _, _, _, h⟩⟩
  rw [A_below1 rfl p2 ha (by omega), M_inS p3 rfl ha (by omega), if_neg n10, if_neg n10, c16]
  have both : ∀ w : Bool, (w = false → 1 ≤ pz) → ∃ (r : Int32) (σ' : xS) (τ' : yS), fA_told_26 σ (nI ja) (b01 w) = some (r, σ') ∧ fM_told_32 τ (nI ja) (b01 w) = some (r, τ') ∧ Rel (k + 1) σ' τ' := by
    intro w hw
    unfold fA_told_26 fM_told_32
    rcases plain h w with ⟨e, σ', τ', e0, e1, e2, e3⟩ | ⟨e1, e2, e3, e4⟩
    · rw [e1, e2, xb_e, xb_e, if_neg (ge0 e0).1, if_neg (ge0 e0).2]
      exact ⟨e, σ', τ', rfl, rfl, hup _ _ ⟨_, _, _, _, _, _, _, _, e3⟩⟩
    · have hpz := hw e4
      rw [e1, e2, xb_e, xb_e, if_pos rfl, if_pos pos0]
      simp only [xl_e, c16]
      have f1 : (x_si (x_si σ 0 0 12 2) 0 0 13 (nI ja)).1 18 16 2 = nI pz := by simp [si_1, u3_r]; exact q2
      have f2 : (y_si (y_si (y_si τ 30 0 9 0) 30 0 9 2) 30 0 10 (nI ja)) 47 0 16 = nI pz := by simp [yi_1, u3_r]; exact q3
      rw [f1, f2]
      obtain ⟨h0, h1, h2, h3, h4, h5, h6, h7, h8, h9⟩ := h
      refine ⟨_, _, _, rfl, rfl, hup _ _ ⟨n, ss, pz, nc, tm, fz, ct, 2, h0, ?_, ?_, ?_, ?_, ?_, ?_, ?_, ?_, ⟨by decide, ?_, ?_, fun q => absurd q (by decide), fun _ => ⟨ja, ha, ?_, ?_⟩, fun _ => hpz, fun q => absurd q (by decide), fun q => absurd q (by decide)⟩⟩⟩
      · simpa [si_1, si_2, yi_1, u3_r, u3_j] using h1
      · simpa [si_1, si_2, yi_1, u3_r, u3_j] using h2
      · simpa [si_1, si_2, yi_1, u3_r, u3_j] using h3
      · simpa [si_1, si_2, yi_1, u3_r, u3_j] using h4
      · simpa [si_1, si_2, yi_1, u3_r, u3_j] using h5
      · simpa [si_1, si_2, yi_1, u3_r, u3_j] using h6
      · simpa [si_1, si_2, yi_1, u3_r, u3_j] using h7
      · simpa [si_1, si_2, yi_1, u3_r, u3_j] using h8
      · simp [si_1, u3_j, u3_e]; rfl
      · simp [yi_1, u3_j, u3_e]; rfl
      · simp [si_1, u3_e]
      · simp [yi_1, u3_e]
  by_cases hp : pz = 0
  · rw [if_pos ((cEq q2 (y := 0) (b := 0) rfl).mpr hp), if_pos ((cEq q3 (y := 0) (b := 0) rfl).mpr hp)]
    exact both true (fun q => by cases q)
  · rw [if_neg (fun q => hp ((cEq q2 (y := 0) (b := 0) rfl).mp q)), if_neg (fun q => hp ((cEq q3 (y := 0) (b := 0) rfl).mp q))]
    exact both false (fun _ => by omega)
theorem op_check (N : Nat) : xg_check N Rel := by
  intro k σ τ a b c hk hR
  obtain ⟨n, ss, pz, nc, tm, fz, ct, st, h⟩ := hR
  have hup : ∀ σ τ, Rel k σ τ → Rel (k + 1) σ τ := fun _ _ => Rel.up (Nat.le_succ k)
  have hRk : Rel (k + 1) σ τ := hup _ _ ⟨_, _, _, _, _, _, _, _, h⟩
  obtain ⟨p1, p2, p3, p4, p5⟩ := h.2.1
  have bad : ∀ t0 : Int32, fA_isStandIn σ a = 0 → fA_check_10 σ a b c t0 = some (-1, σ) := by
    intro t0 q
    unfold fA_check_10
    rw [if_pos q]
  unfold fA_check fM_check_I3
  rcases pk_ix a (n := n) (by omega) with ha | ha | ⟨ja, ha, rfl⟩
  · rw [bad 1 (A_below0 p2 (Or.inl ha)), bad 0 (A_below0 p2 (Or.inl ha)), M_inN p3 (by omega) (Or.inl ha)]
    exact ⟨-1, σ, τ, by split <;> rfl, rfl, hRk⟩
  · rw [bad 1 (A_below0 p2 (Or.inr ha)), bad 0 (A_below0 p2 (Or.inr ha)), M_inN p3 (by omega) (Or.inr ha)]
    exact ⟨-1, σ, τ, by split <;> rfl, rfl, hRk⟩
  have hs : fA_isStandIn σ (nI ja) = 1 := A_below1 rfl p2 ha (by omega)
  rw [M_inS p3 rfl ha (by omega), if_neg n10]
  rcases pk_ix b (n := 5) (by decide) with hb | hb | ⟨jb, hb, rfl⟩
  · rw [M_in0 (n := 4) (c := 4) rfl (by decide) (Or.inl hb), if_neg (fun q => by rw [q] at hb; exact absurd hb (by decide))]
    unfold fA_check_10
    rw [hs, if_neg n10, if_pos hb]
    exact ⟨-1, σ, τ, rfl, rfl, hRk⟩
  · have hb0 : ¬ b < 0 := fun q => by
      have h1 := Int32.le_iff_toInt_le.mp hb
      have h2 := Int32.lt_iff_toInt_lt.mp q
      rw [nI_toInt (by decide)] at h1
      rw [show (0 : Int32).toInt = 0 from rfl] at h2
      omega
    have hb4 : 4 < b := by
      have h1 := Int32.le_iff_toInt_le.mp hb
      rw [nI_toInt (by decide)] at h1
      rw [Int32.lt_iff_toInt_lt, show (4 : Int32).toInt = 4 from rfl]
      omega
    rw [M_in0 (n := 4) (c := 4) rfl (by decide) (Or.inr hb), if_neg (fun q => by rw [q] at hb4; exact absurd hb4 (by decide))]
    unfold fA_check_10
    rw [hs, if_neg n10, if_neg hb0, if_pos hb4]
    exact ⟨-1, σ, τ, rfl, rfl, hRk⟩
  rw [M_in1 (n := 4) (c := 4) rfl rfl (by omega) (by decide), if_neg n10]
  have go : ∀ (lo : Nat) (t0 : Int32), t0 = nI lo → lo ≤ 1 → (jb = 4 → lo = 1) → ∃ (r : Int32) (σ' : xS) (τ' : yS), fA_check_10 σ (nI ja) (nI jb) c t0 = some (r, σ') ∧ fM_check_I3_34 τ (nI ja) (nI jb) c t0 c = some (r, τ') ∧ Rel (k + 1) σ' τ' := by
    intro lo t0 ht0 hlo hlo4
    unfold fA_check_10 fM_check_I3_34
    rw [hs, if_neg n10, if_neg (nI_pos (by omega)), if_neg (fun q => by have := (cLt (x := 4) (a := 4) rfl (y := nI jb) rfl).mp q; omega)]
    unfold fM_in
    by_cases hc1 : c < t0
    · rw [if_pos hc1, if_pos hc1]
      exact ⟨-1, σ, τ, rfl, rfl, hRk⟩
    · rw [if_neg hc1, if_neg hc1]
      by_cases hc2 : c ≤ 40
      · have hc3 : ¬ (40 : Int32) < c := Int32.not_lt.mpr hc2
        rw [if_pos hc2, if_neg hc3, if_neg n10]
        obtain ⟨jc, hjc, rfl⟩ : ∃ j, j ≤ 40 ∧ c = nI j := by
          refine nI_of2 (M := 40) (n := 40) rfl (fun q => hc1 ?_) hc2
          rw [ht0]
          have h1 := Int32.lt_iff_toInt_lt.mp q
          rw [Int32.lt_iff_toInt_lt, nI_toInt (by omega)]
          rw [show (0 : Int32).toInt = 0 from rfl] at h1
          omega
        have hlc : lo ≤ jc := by
          rw [ht0] at hc1
          rcases Nat.lt_or_ge jc lo with q | q
          · exact absurd (nI_lt q (by omega)) hc1
          · exact q
        rcases plain h false with ⟨e, σ', τ', e0, e1, e2, e3⟩ | ⟨e1, e2, e3, -⟩
        · rw [b01f] at e1 e2
          rw [e1, e2, xb_e, xb_e, if_neg (ge0 e0).1, if_neg (ge0 e0).2]
          exact ⟨e, σ', τ', rfl, rfl, hup _ _ ⟨_, _, _, _, _, _, _, _, e3⟩⟩
        · rw [b01f] at e1 e2
          rw [e1, e2, xb_e, xb_e, if_pos rfl, if_pos pos0]
          simp only [xl_e]
          obtain ⟨h0, h1, h2, h3, h4, h5, h6, h7, h8, h9⟩ := h
          refine ⟨_, _, _, rfl, rfl, hup _ _ ⟨n, ss, pz, nc, tm, fz, ct, 3, h0, ?_, ?_, ?_, ?_, ?_, ?_, ?_, ?_, ⟨by decide, ?_, ?_, fun q => absurd q (by decide), fun _ => ⟨ja, ha, ?_, ?_⟩, fun q => absurd q (by decide), fun _ => ⟨jb, jc, hb, hjc, fun q => by have := hlo4 q; omega, ?_, ?_, ?_, ?_⟩, fun q => absurd q (by decide)⟩⟩⟩
          · simpa [si_1, si_2, yi_1, u3_r, u3_j] using h1
          · simpa [si_1, si_2, yi_1, u3_r, u3_j] using h2
          · simpa [si_1, si_2, yi_1, u3_r, u3_j] using h3
          · simpa [si_1, si_2, yi_1, u3_r, u3_j] using h4
          · simpa [si_1, si_2, yi_1, u3_r, u3_j] using h5
          · simpa [si_1, si_2, yi_1, u3_r, u3_j] using h6
          · simpa [si_1, si_2, yi_1, u3_r, u3_j] using h7
          · simpa [si_1, si_2, yi_1, u3_r, u3_j] using h8
          · simp [si_1, u3_j, u3_e]; rfl
          · simp [yi_1, u3_j, u3_e]; rfl
          · simp [si_1, u3_j, u3_e]
          · simp [yi_1, u3_j, u3_e]
          · simp [si_1, u3_j, u3_e]
          · simp [yi_1, u3_j, u3_e]
          · simp [si_1, u3_e]
          · simp [yi_1, u3_e]
      · have hc3 : (40 : Int32) < c := Int32.not_le.mp hc2
        rw [if_neg hc2, if_pos hc3]
        exact ⟨-1, σ, τ, rfl, rfl, hRk⟩
  by_cases h4 : jb = 4
  · rw [if_pos ((cEq (x := nI jb) rfl (y := 4) (b := 4) rfl).mpr h4), if_pos ((cEq (x := nI jb) rfl (y := 4) (b := 4) rfl).mpr h4)]
    exact go 1 1 rfl (by decide) (fun _ => rfl)
  · rw [if_neg (fun q => h4 ((cEq (x := nI jb) rfl (y := 4) (b := 4) rfl).mp q)), if_neg (fun q => h4 ((cEq (x := nI jb) rfl (y := 4) (b := 4) rfl).mp q))]
    exact go 0 0 rfl (by decide) (fun q => absurd q h4)
