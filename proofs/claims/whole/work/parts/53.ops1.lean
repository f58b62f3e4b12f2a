/-! define, make, told, check, restart. -/
theorem M_inN {x t : Int32} {n : Nat} (ht : t = nI n) (hn : n < 2147483647) (h : x < 0 ∨ nI n ≤ x) : fM_in x 0 (t - 1) = 0 := by
  rcases Nat.eq_zero_or_pos n with h0 | h0
  · subst h0
    unfold fM_in
    by_cases hx : x < 0
    · rw [if_pos hx]
    · rw [if_neg hx, ht, if_pos]
      have h1 : ¬ x.toInt < 0 := fun q => hx (Int32.lt_iff_toInt_lt.mpr q)
      rw [Int32.lt_iff_toInt_lt, show (nI 0 - 1 : Int32).toInt = -1 from by decide]
      omega
  · have e : t - 1 = nI (n - 1) := by rw [ht, show (1 : Int32) = nI 1 from rfl, pk_sub h0]
    rw [e]
    refine M_in0 rfl (by omega) ?_
    rw [show n - 1 + 1 = n by omega]
    exact h
theorem M_inS {x t : Int32} {n s : Nat} (ht : t = nI n) (hx : x = nI s) (h : s < n) (hn : n < 2147483647) : fM_in x 0 (t - 1) = 1 := by
  have e : t - 1 = nI (n - 1) := by rw [ht, show (1 : Int32) = nI 1 from rfl, pk_sub (by omega)]
  rw [e]
  exact M_in1 hx rfl (by omega) (by omega)
theorem n10 : ¬ (1 : Int32) = 0 := by decide
theorem b01f : b01 false = 0 := rfl
theorem idle_e (σ : xS) (a : Int32) : fA_idleWith σ a = (a, x_si σ 0 0 12 0) := rfl
theorem pos0 : (0 : Int32) ≤ 0 := by decide
theorem ge0 {c : Int32} (h : c < 0) : ¬ c = 0 ∧ ¬ 0 ≤ c := ⟨fun q => by subst q; exact absurd h (by decide), fun q => Int32.not_lt.mpr q h⟩
/-- the state at rest, behind a plain step -/
theorem Rl.rest {kk : Nat} {σ : xS} {τ : yS} {n ss pz nc tm fz ct st : Nat} (h : Rl kk σ τ n ss pz nc tm fz ct st) : Rl kk (x_si σ 0 0 12 0) (y_si τ 30 0 9 0) n ss pz nc tm fz ct 0 := by
  obtain ⟨h0, h1, h2, h3, h4, h5, h6, h7, h8, h9⟩ := h
  refine ⟨h0, ?_, ?_, ?_, ?_, ?_, ?_, ?_, ?_, P9_idle ?_ ?_⟩
  · simpa [si_1, si_2, yi_1, u3_r, u3_j] using h1
  · simpa [si_1, si_2, yi_1, u3_r, u3_j] using h2
  · simpa [si_1, si_2, yi_1, u3_r, u3_j] using h3
  · simpa [si_1, si_2, yi_1, u3_r, u3_j] using h4
  · simpa [si_1, si_2, yi_1, u3_r, u3_j] using h5
  · simpa [si_1, si_2, yi_1, u3_r, u3_j] using h6
  · simpa [si_1, si_2, yi_1, u3_r, u3_j] using h7
  · simpa [si_1, si_2, yi_1, u3_r, u3_j] using h8
  · simp [si_1, u3_e]
  · simp [yi_1, u3_e]
theorem op_define (N : Nat) : xg_define N Rel := by
  intro k σ τ a b c d hk hd hR
  obtain ⟨n, ss, pz, nc, tm, fz, ct, st, h⟩ := hR
  have hup : ∀ σ τ, Rel k σ τ → Rel (k + 1) σ τ := fun _ _ => Rel.up (Nat.le_succ k)
  obtain ⟨p1, p2, p3, p4, p5⟩ := h.2.1
  unfold fA_define fM_define
  rcases pk_ix a (n := 3) (by decide) with ha | ha | ⟨ja, ha, rfl⟩
  · rw [A_below0 (n := 3) (c := 3) rfl (Or.inl ha), M_in0 (n := 2) (c := 2) rfl (by decide) (Or.inl ha)]
    exact ⟨-1, σ, τ, rfl, rfl, hup _ _ ⟨_, _, _, _, _, _, _, _, h⟩⟩
  · rw [A_below0 (n := 3) (c := 3) rfl (Or.inr ha), M_in0 (n := 2) (c := 2) rfl (by decide) (Or.inr ha)]
    exact ⟨-1, σ, τ, rfl, rfl, hup _ _ ⟨_, _, _, _, _, _, _, _, h⟩⟩
  rw [A_below1 (n := 3) (c := 3) rfl rfl ha (by decide), M_in1 (n := 2) (c := 2) rfl rfl (by omega) (by decide), if_neg n10, if_neg n10]
  rcases pk_ix b (n := 4) (by decide) with hb | hb | ⟨jb, hb, rfl⟩
  · rw [A_below0 (n := 4) (c := 4) rfl (Or.inl hb), M_in0 (n := 3) (c := 3) rfl (by decide) (Or.inl hb)]
    exact ⟨-1, σ, τ, rfl, rfl, hup _ _ ⟨_, _, _, _, _, _, _, _, h⟩⟩
  · rw [A_below0 (n := 4) (c := 4) rfl (Or.inr hb), M_in0 (n := 3) (c := 3) rfl (by decide) (Or.inr hb)]
    exact ⟨-1, σ, τ, rfl, rfl, hup _ _ ⟨_, _, _, _, _, _, _, _, h⟩⟩
  rw [A_below1 (n := 4) (c := 4) rfl rfl hb (by decide), M_in1 (n := 3) (c := 3) rfl rfl (by omega) (by decide), if_neg n10, if_neg n10]
  rcases pk_ix c (n := 3) (by decide) with hc | hc | ⟨jc, hc, rfl⟩
  · rw [A_below0 (n := 3) (c := 3) rfl (Or.inl hc), M_in0 (n := 2) (c := 2) rfl (by decide) (Or.inl hc)]
    exact ⟨-1, σ, τ, rfl, rfl, hup _ _ ⟨_, _, _, _, _, _, _, _, h⟩⟩
  · rw [A_below0 (n := 3) (c := 3) rfl (Or.inr hc), M_in0 (n := 2) (c := 2) rfl (by decide) (Or.inr hc)]
    exact ⟨-1, σ, τ, rfl, rfl, hup _ _ ⟨_, _, _, _, _, _, _, _, h⟩⟩
  rw [A_below1 (n := 3) (c := 3) rfl rfl hc (by decide), M_in1 (n := 2) (c := 2) rfl rfl (by omega) (by decide), if_neg n10, if_neg n10]
  by_cases hn : n ≤ 0
  · rw [if_pos ((cLe p2 (y := 0) (b := 0) rfl).mpr hn), if_pos ((cLe p3 (y := 0) (b := 0) rfl).mpr hn)]
    rcases plain h false with ⟨e, σ', τ', e0, e1, e2, e3⟩ | ⟨e1, e2, e3, -⟩
    · rw [b01f] at e1 e2
      rw [e1, e2, xb_e, xb_e, if_neg (ge0 e0).1, if_neg (ge0 e0).2]
      exact ⟨e, σ', τ', rfl, rfl, hup _ _ ⟨_, _, _, _, _, _, _, _, e3⟩⟩
    · rw [b01f] at e1 e2
      have i1 : nI ja * 4 + nI jb = nI (4 * ja + jb) := by rw [show (4 : Int32) = nI 4 from rfl, pk_mul, nI_add, Nat.mul_comm ja 4]
      have i2 : 4 * nI ja + nI jb = nI (4 * ja + jb) := by rw [show (4 : Int32) = nI 4 from rfl, pk_mul, nI_add]
      rw [e1, e2, xb_e, xb_e, if_pos rfl, if_pos pos0, i1, i2, if_pos (cIn rfl), if_pos (cIn rfl), cCl rfl]
      simp only [xl_e, if_pos hd, idle_e]
      refine ⟨1, _, _, rfl, rfl, hup _ _ ⟨0, ss, pz, nc, tm, fz, ct, 0, ?_⟩⟩
      have hn0 : n = 0 := by omega
      subst hn0
      obtain ⟨h0, h1, h2, h3, h4, h5, h6, h7, h8, h9⟩ := h
      have g31 : ∀ i, (y_si (y_si (y_si τ 30 0 9 0) 31 0 (4 * ja + jb) (nI jc)) 32 0 (4 * ja + jb) d) 31 0 i = if i = 4 * ja + jb then nI jc else τ 31 0 i := fun i => by
        simp [yi_1, u3_r, u3_self, u1]
      have g32 : ∀ i, (y_si (y_si (y_si τ 30 0 9 0) 31 0 (4 * ja + jb) (nI jc)) 32 0 (4 * ja + jb) d) 32 0 i = if i = 4 * ja + jb then d else τ 32 0 i := fun i => by
        simp [yi_1, u3_r, u3_self, u1]
      have g14 : ∀ i j, (x_si (x_si (x_si σ 14 (4 * ja + jb) 0 (nI jc)) 14 (4 * ja + jb) 1 d) 0 0 12 0).1 14 i j = if i = 4 * ja + jb ∧ j = 1 then d else if i = 4 * ja + jb ∧ j = 0 then nI jc else σ.1 14 i j := fun i j => by
        simp only [si_1]
        rw [u3_r (by decide)]
        simp [u3]
      refine ⟨h0, ⟨by decide, ?_, ?_, fun i hi => ?_, fun i hi => absurd hi (by omega)⟩, ?_, ?_, ?_, ?_, ?_, ?_, ?_, P9_idle ?_ ?_⟩
      · simp [si_1, u3_r, u3_j]; exact p2
      · simp [yi_1, u3_r, u3_j]; exact p3
      · obtain ⟨q1, q2, q3, q4⟩ := p4 i hi
        rw [g14, g14, g31, g32]
        by_cases hq : i = 4 * ja + jb
        · simp [hq, hd]
          exact ⟨jc, by omega, rfl⟩
        · simp [hq, q1, q3, q4]
          exact q2
      · simpa [si_1, si_2, yi_1, u3_r, u3_j] using h2
      · simpa [si_1, si_2, yi_1, u3_r, u3_j] using h3
      · simpa [si_1, si_2, yi_1, u3_r, u3_j] using h4
      · have := P5.congr (t31' := (y_si (y_si (y_si τ 30 0 9 0) 31 0 (4 * ja + jb) (nI jc)) 32 0 (4 * ja + jb) d) 31 0) h5 (fun _ _ => rfl) (fun _ _ => rfl) (fun _ _ => rfl) (fun _ _ => rfl) (fun _ _ => rfl) (fun _ _ => rfl) (fun _ _ _ _ _ _ q => q) (t33' := τ 33 0) (fun s m hs => absurd hs (by omega)) (fun _ _ => rfl) (fun _ _ => rfl) (fun _ _ => rfl) (fun _ _ => rfl) (fun _ _ => rfl) (fun _ _ => rfl) (fun _ _ => rfl)
        simpa [si_1, si_2, yi_1, u3_r, u3_j] using this
      · simpa [si_1, si_2, yi_1, u3_r, u3_j] using h6
      · simpa [si_1, si_2, yi_1, u3_r, u3_j] using h7
      · simpa [si_1, si_2, yi_1, u3_r, u3_j] using h8
      · simp [si_1, u3_e]
      · simp [yi_1, u3_r, u3_e]
  · rw [if_neg (fun q => hn ((cLe p2 (y := 0) (b := 0) rfl).mp q)), if_neg (fun q => hn ((cLe p3 (y := 0) (b := 0) rfl).mp q))]
    exact ⟨-2, σ, τ, rfl, rfl, hup _ _ ⟨_, _, _, _, _, _, _, _, h⟩⟩
theorem op_restart (N : Nat) : xg_restart N Rel := by
  intro k σ τ hk hR
  obtain ⟨n, ss, pz, nc, tm, fz, ct, st, h⟩ := hR
  have hup : ∀ σ τ, Rel k σ τ → Rel (k + 1) σ τ := fun _ _ => Rel.up (Nat.le_succ k)
  unfold fA_restart fM_restart
  rcases plain h false with ⟨e, σ', τ', e0, e1, e2, e3⟩ | ⟨e1, e2, e3, -⟩
  · rw [b01f] at e1 e2
    rw [e1, e2, xb_e, xb_e, if_neg (ge0 e0).1, if_neg (ge0 e0).2]
    exact ⟨e, σ', τ', rfl, rfl, hup _ _ ⟨_, _, _, _, _, _, _, _, e3⟩⟩
  · rw [b01f] at e1 e2
    rw [e1, e2, xb_e, xb_e, if_pos rfl, if_pos pos0]
    simp only [xl_e, idle_e]
    obtain ⟨h0, h1, h2, h3, h4, h5, h6, h7, h8, h9⟩ := h
    rw [show y_si τ 30 0 9 0 30 0 31 = σ.1 0 0 16 by simp [yi_1, u3_j]; exact h8.1.symm]
    refine ⟨_, _, _, rfl, rfl, hup _ _ ⟨n, ss, pz, nc, tm, fz, ct, 0, h0, ?_, ?_, ?_, ?_, ?_, ?_, ?_, ⟨?_, ?_⟩, P9_idle ?_ ?_⟩⟩
    · simpa [si_1, si_2, yi_1, u3_r, u3_j] using h1
    · simpa [si_1, si_2, yi_1, u3_r, u3_j] using h2
    · simpa [si_1, si_2, yi_1, u3_r, u3_j] using h3
    · simpa [si_1, si_2, yi_1, u3_r, u3_j] using h4
    · simpa [si_1, si_2, yi_1, u3_r, u3_j] using h5
    · simpa [si_1, si_2, yi_1, u3_r, u3_j] using h6
    · simpa [si_1, si_2, yi_1, u3_r, u3_j] using h7
    · simp [si_1, yi_1, u3_j, u3_e]
    · simpa [si_1, si_2, yi_1, u3_r, u3_j] using h8.2
    · simp [si_1, u3_e]
    · simp [yi_1, u3_j, u3_e]
