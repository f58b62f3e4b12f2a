/-! answer: the step. -/
theorem P5.write {tm n kk t0 az : Nat} {a8 t29 a b : Int32} {x16 x17 x18 x19 x20 : Nat → Nat → Int32} {p17 : Nat → Nat → Option Nat} {I : Nat → Nat → Int32} {P : Nat → Nat → Option Nat} {L : List Nat} {sz kd vl t31 t33 t45 t46 t47 t48 t49 t50 t51 t49' t50' : Nat → Int32} (h : P5 tm n kk a8 t29 x16 x17 x18 x19 x20 p17 I P L sz kd vl t31 t33 t45 t46 t47 t48 t49 t50 t51) (h18 : t0 < 16 → x18 t0 2 = nI az) (haz : az < 4)
    (e49 : ∀ j, j < 64 → t49' j = if j = 4 * t0 + az then a else t49 j) (e50 : ∀ j, j < 64 → t50' j = if j = 4 * t0 + az then b else t50 j) : P5 tm n kk a8 t29 x16 x17 x18 x19 x20 p17 I P L sz kd vl t31 t33 t45 t46 t47 t48 t49' t50' t51 := by
  obtain ⟨g1, g2, g3, g4, g5⟩ := h
  refine ⟨g1, g2, g3, fun t ht => ?_, g5⟩
  obtain ⟨az', us, f0, f1, f2, f3, f4, f⟩ := g4 t ht
  refine ⟨az', us, f0, f1, f2, f3, fun j hj => ?_, f⟩
  have hne : ¬ 4 * t + j = 4 * t0 + az := by
    intro q
    have ht0 : t = t0 ∧ j = az := by omega
    have := h18 (by omega)
    rw [← ht0.1, f2] at this
    have := (nI_eq (by omega) (by omega)).mp this
    omega
  rw [e49 _ (by omega), if_neg hne, e50 _ (by omega), if_neg hne]
  exact f4 j hj
theorem Rl_write {kk : Nat} {σ : xS} {τ : yS} {n ss pz nc tm fz ct st t az : Nat} {a b : Int32} (h : Rl kk σ τ n ss pz nc tm fz ct st) (ht : t < 17) (h18 : σ.1 18 t 2 = nI az) (haz : az < 4) : Rl kk σ (y_si (y_si τ 49 0 (4 * t + az) a) 50 0 (4 * t + az) b) n ss pz nc tm fz ct st := by
  obtain ⟨h0, h1, h2, h3, h4, h5, h6, h7, h8, h9⟩ := h
  have g49 : ∀ j, (y_si (y_si τ 49 0 (4 * t + az) a) 50 0 (4 * t + az) b) 49 0 j = if j = 4 * t + az then a else τ 49 0 j := fun j => by simp [yi_1, u3_r, u3_self, u1]
  have g50 : ∀ j, (y_si (y_si τ 49 0 (4 * t + az) a) 50 0 (4 * t + az) b) 50 0 j = if j = 4 * t + az then b else τ 50 0 j := fun j => by simp [yi_1, u3_r, u3_self, u1]
  have e5 := P5.write (t49' := (y_si (y_si τ 49 0 (4 * t + az) a) 50 0 (4 * t + az) b) 49 0) (t50' := (y_si (y_si τ 49 0 (4 * t + az) a) 50 0 (4 * t + az) b) 50 0) h5 (t0 := t) (fun _ => h18) haz (fun j _ => g49 j) (fun j _ => g50 j)
  obtain ⟨q1, q2, q3, q4⟩ := h3
  refine ⟨h0, ?_, ?_, ⟨q1, q2, ?_, fun j hj => ?_⟩, ?_, ?_, ?_, ?_, ?_, ?_⟩
  · simpa [yi_1, u3_r] using h1
  · simpa [yi_1, u3_r] using h2
  · simpa [yi_1, u3_r] using q3
  · have hne : ¬ 64 + j = 4 * t + az := by
      intro q
      have : t = 16 := by omega
      rw [this, q2] at h18
      have := (nI_eq (by omega) (by omega)).mp h18
      omega
    rw [g49, g50, if_neg hne, if_neg hne]
    exact q4 j hj
  · simpa [yi_1, u3_r] using h4
  · simpa [yi_1, u3_r] using e5
  · simpa [yi_1, u3_r] using h6
  · simpa [yi_1, u3_r] using h7
  · simpa [yi_1, u3_r] using h8
  · simpa [yi_1, u3_r] using h9
theorem ans_go {k : Nat} {σ : xS} {τ : yS} {n ss pz nc tm fz ct st t az : Nat} {a b : Int32} (h : Rl k σ τ n ss pz nc tm fz ct st) (hk : k < 512) (ht : t < 17) (h18 : σ.1 18 t 2 = nI az) (haz : az ≤ 4) (h47 : τ 47 0 t = nI az) (hc : (st = 4 ∧ t + 1 = tm) ∨ (¬ st = 4 ∧ t = 16)) : ∃ (r : Int32) (σ' : xS) (τ' : yS), fA_answer_32 σ a b t = some (r, σ') ∧ fM_answer_60 τ a b (nI t) = some (r, τ') ∧ Rel (k + 1) σ' τ' := by
  have hup : ∀ σ τ, Rel k σ τ → Rel (k + 1) σ τ := fun _ _ => Rel.up (Nat.le_succ k)
  obtain ⟨s1, s2, s3, s4, s5, s6, s7, s8⟩ := h.2.2.2.2.2.2.2.2.2
  obtain ⟨k1, k2, k3, k4⟩ := h.2.2.1
  unfold fA_answer_32 fM_answer_60
  rw [if_pos ht, if_pos (cIn rfl), cCl rfl]
  by_cases hz : az < 4
  · have n47 : ¬ τ 47 0 t = 4 := fun q => by have := (cEq h47 (y := 4) (b := 4) rfl).mp q; omega
    rw [if_pos ((cLt h18 (y := 4) (b := 4) rfl).mpr hz), if_neg n47]
    have ei : (4 : Int32) * nI t + nI az = nI (4 * t + az) := by rw [show (4 : Int32) = nI 4 from rfl, pk_mul, nI_add]
    have e47 : (y_si τ 49 0 (4 * t + az) a) 47 0 t = nI az := by simp [yi_1, u3_r]; exact h47
    rw [h47, ei, if_pos (cIn rfl), cCl rfl]
    simp only [xl_e]
    rw [e47, ei, if_pos (cIn rfl), cCl rfl]
    have hw := Rl_write (a := a) (b := b) h ht h18 hz
    have e47' : (y_si (y_si τ 49 0 (4 * t + az) a) 50 0 (4 * t + az) b) 47 0 t = nI az := by simp [yi_1, u3_r]; exact h47
    -- the rest, for any judgement
    have go : ∀ w : Bool, ∃ (r : Int32) (σ' : xS) (τ' : yS), fA_answer_83 σ a b t (b01 w) = some (r, σ') ∧ fM_answer_147 (y_si (y_si τ 49 0 (4 * t + az) a) 50 0 (4 * t + az) b) (nI t) (b01 w) = some (r, τ') ∧ Rel (k + 1) σ' τ' := by
      intro w
      have eX : fA_answer_83 σ a b t (b01 w) = fA_answer_105 σ a b t (b01 w) (b01 (decide (0 < ss))) (b01 (decide (st = 2) || decide (st = 3))) := by
        unfold fA_answer_83
        rw [A_awaits s2 s1]
        have ea : (if st = 2 ∨ st = 3 then (1 : Int32) else 0) = b01 (decide (st = 2) || decide (st = 3)) := by
          unfold b01
          by_cases q : st = 2 ∨ st = 3
          · rw [if_pos q, if_pos (by simpa using q)]
          · rw [if_neg q, if_neg (by simpa using q)]
        rw [ea]
        by_cases hz : ss = 0
        · rw [if_pos ((cLe k2 (y := 0) (b := 0) rfl).mpr (by omega))]
          simp [hz, b01]
        · have hz' : 0 < ss := by omega
          rw [if_neg (fun q => hz (by have := (cLe k2 (y := 0) (b := 0) rfl).mp q; omega))]
          simp [hz', b01]
      rw [eX]
      unfold fA_answer_105 fM_answer_147
      rcases misG hw (isM := false) (isA := true) (w := w) (cof := -1) (u := (decide (st = 2) || decide (st = 3))) (v := decide (0 < ss)) (by simp) (by simp) with ⟨c, σ', τ', c0, c1, c2, c3⟩ | ⟨c1, c2, u0, v0, w0⟩
      · rw [show b01 false = 0 from rfl, show b01 true = 1 from rfl] at c2
        rw [c1, c2, xb_e, xb_e, if_neg (ge0 c0).1, if_neg (ge0 c0).2]
        exact ⟨c, σ', τ', rfl, rfl, hup _ _ ⟨_, _, _, _, _, _, _, _, c3⟩⟩
      · rw [show b01 false = 0 from rfl, show b01 true = 1 from rfl] at c2
        rw [c1, c2, xb_e, xb_e, if_pos rfl, if_pos pos0, Q_add_e ht h18 hz, xp_e, if_pos ht, if_pos (cIn rfl), cCl rfl, e47', show (1 : Int32) = nI 1 from rfl, nI_add]
        simp only [xl_e, idle_e]
        rw [show (x_si (x_si (x_si σ 19 t az a) 20 t az b) 18 t 2 (nI (az + 1))).1 0 0 12 = nI st by simp [si_1, u3_r]; exact s2]
        obtain ⟨h0, h1, h2, h3, h4, h5, h6, h7, h8, h9⟩ := h
        rcases hc with ⟨hs, htm⟩ | ⟨hs, htm⟩
        · rw [if_pos ((cEq (x := nI st) rfl (y := 4) (b := 4) rfl).mpr hs), if_neg (fun q => by have := (cEq (x := nI t) rfl (y := 16) (b := 16) rfl).mp q; have := h5.1; omega)]
          obtain ⟨z1, z2, z3, z4, z5⟩ := s8 hs
          have htt : tm - 1 = t := by omega
          have e5 := P5.add (a := a) (b := b) h5 (t0 := t) (by omega) h18 hz (by rw [← htt]; exact z4) (by rw [← htt]; exact z5) (by omega) (x18' := (x_si (x_si (x_si σ 19 t az a) 20 t az b) 18 t 2 (nI (az + 1))).1 18) (x19' := (x_si (x_si (x_si σ 19 t az a) 20 t az b) 18 t 2 (nI (az + 1))).1 19) (x20' := (x_si (x_si (x_si σ 19 t az a) 20 t az b) 18 t 2 (nI (az + 1))).1 20) (t47' := (y_si (y_si (y_si τ 49 0 (4 * t + az) a) 50 0 (4 * t + az) b) 47 0 t (nI (az + 1))) 47 0) (t49' := (y_si (y_si (y_si τ 49 0 (4 * t + az) a) 50 0 (4 * t + az) b) 47 0 t (nI (az + 1))) 49 0) (t50' := (y_si (y_si (y_si τ 49 0 (4 * t + az) a) 50 0 (4 * t + az) b) 47 0 t (nI (az + 1))) 50 0)
            (fun t' j => by simp [si_1, u3]) (fun t' j => by simp [si_1, u3]) (fun t' j => by simp [si_1, u3]) (fun t' _ => by simp [yi_1, u3]) (fun t' _ => by simp [yi_1, u3]) (fun t' _ => by simp [yi_1, u3])
          obtain ⟨q1, q2, q3, q4⟩ := h3
          have ht16 : ¬ 16 = t := by have := h5.1; omega
          have n49 : ∀ j, j < pz → ¬ 64 + j = 4 * t + az := fun j _ => by have := h5.1; omega
          have v1 : (x_si (x_si (x_si σ 19 t az a) 20 t az b) 18 t 2 (nI (az + 1))).1 18 t 2 = nI (az + 1) := by simp [si_1, u3_e]
          have v2 : (y_si (y_si (y_si τ 49 0 (4 * t + az) a) 50 0 (4 * t + az) b) 47 0 t (nI (az + 1))) 47 0 t = nI (az + 1) := by simp [yi_1, u3_e]
          rw [v1, v2]
          refine ⟨_, _, _, rfl, rfl, hup _ _ ⟨n, ss, pz, nc, tm, fz, ct, 4, h0, ?_, ?_, ⟨q1, ?_, ?_, fun j hj => ?_⟩, ?_, ?_, ?_, ?_, ?_, ?_⟩⟩
          · simpa [si_1, si_2, yi_1, u3_r] using h1
          · simpa [si_1, si_2, yi_1, u3_r] using h2
          · simpa [si_1, si_2, yi_1, u3_r, u3_k ht16] using q2
          · simpa [si_1, si_2, yi_1, u3_r, u3_j ht16] using q3
          · have := q4 j hj
            simpa [si_1, si_2, yi_1, u3_r, u3_k ht16, u3_j (n49 j hj)] using this
          · simpa [si_1, si_2, yi_1, u3_r] using h4
          · simpa [si_1, si_2, yi_1, u3_r] using e5
          · simpa [si_1, si_2, yi_1, u3_r] using h6
          · simpa [si_1, si_2, yi_1, u3_r] using h7
          · simpa [si_1, si_2, yi_1, u3_r] using h8
          · rw [hs] at h9
            simpa [si_1, si_2, yi_1, u3_r] using h9
        · rw [if_neg (fun q => hs ((cEq (x := nI st) rfl (y := 4) (b := 4) rfl).mp q)), if_pos ((cEq (x := nI t) rfl (y := 16) (b := 16) rfl).mpr htm)]
          subst htm
          obtain ⟨q1, q2, q3, q4⟩ := h3
          have hpz : az = pz := by
            rw [q2] at h18
            exact ((nI_eq (by omega) (by omega)).mp h18).symm
          subst hpz
          have v1 : (x_si (x_si (x_si σ 19 16 az a) 20 16 az b) 18 16 2 (nI (az + 1))).1 18 16 2 = nI (az + 1) := by simp [si_1, u3_e]
          have v2 : (y_si (y_si (y_si (y_si τ 49 0 (4 * 16 + az) a) 50 0 (4 * 16 + az) b) 47 0 16 (nI (az + 1))) 30 0 9 0) 47 0 16 = nI (az + 1) := by simp [yi_1, u3_r, u3_e]
          rw [v1, v2]
          refine ⟨_, _, _, rfl, rfl, hup _ _ ⟨n, ss, az + 1, nc, tm, fz, ct, 0, h0, ?_, ?_, ⟨by omega, ?_, ?_, fun j hj => ?_⟩, ?_, ?_, ?_, ?_, ?_, P9_idle ?_ ?_⟩⟩
          · simpa [si_1, si_2, yi_1, u3_r, u3_j] using h1
          · simpa [si_1, si_2, yi_1, u3_r, u3_j] using h2
          · simp [si_1, si_2, yi_1, u3_r, u3_e]
          · simp [si_1, si_2, yi_1, u3_r, u3_e]
          · by_cases hj2 : j = az
            · subst hj2
              simp [si_1, si_2, yi_1, u3_r, u3_e]
            · have := q4 j (by omega)
              have hj3 : ¬ 64 + j = 64 + az := by omega
              simpa [si_1, si_2, yi_1, u3_r, u3_j hj2, u3_j hj3] using this
          · simpa [si_1, si_2, yi_1, u3_r, u3_j] using h4
          · have e5 := P5.congr (x18' := (x_si (x_si (x_si σ 19 16 az a) 20 16 az b) 18 16 2 (nI (az + 1))).1 18) (x19' := (x_si (x_si (x_si σ 19 16 az a) 20 16 az b) 18 16 2 (nI (az + 1))).1 19) (x20' := (x_si (x_si (x_si σ 19 16 az a) 20 16 az b) 18 16 2 (nI (az + 1))).1 20) (t47' := (y_si (y_si (y_si τ 49 0 (4 * 16 + az) a) 50 0 (4 * 16 + az) b) 47 0 16 (nI (az + 1))) 47 0) (t49' := (y_si (y_si (y_si τ 49 0 (4 * 16 + az) a) 50 0 (4 * 16 + az) b) 47 0 16 (nI (az + 1))) 49 0) (t50' := (y_si (y_si (y_si τ 49 0 (4 * 16 + az) a) 50 0 (4 * 16 + az) b) 47 0 16 (nI (az + 1))) 50 0) h5 (fun _ _ => rfl) (fun _ _ => rfl) (fun t' q => by simp [si_1, u3_r, u3_k (show ¬ t' = 16 by omega)]) (fun t' q => by simp [si_1, u3_r, u3_k (show ¬ t' = 16 by omega)]) (fun t' q => by simp [si_1, u3_r, u3_k (show ¬ t' = 16 by omega)]) (fun _ _ => rfl) (fun _ _ _ _ _ _ q => q) (fun _ _ _ _ => rfl) (fun _ _ => rfl) (fun _ _ => rfl) (fun t' q => by simp [yi_1, u3_r, u3_j (show ¬ t' = 16 by omega)]) (fun _ _ => rfl) (fun t' q => by simp [yi_1, u3_r, u3_j (show ¬ t' = 64 + az by omega)]) (fun t' q => by simp [yi_1, u3_r, u3_j (show ¬ t' = 64 + az by omega)]) (fun _ _ => rfl)
            simpa [si_1, si_2, yi_1, u3_r, u3_j] using e5
          · simpa [si_1, si_2, yi_1, u3_r, u3_j] using h6
          · simpa [si_1, si_2, yi_1, u3_r, u3_j] using h7
          · simpa [si_1, si_2, yi_1, u3_r, u3_j] using h8
          · simp [si_1, u3_e]
          · simp [yi_1, u3_e]
    rcases hc with ⟨hs, htm⟩ | ⟨hs, htm⟩
    · have htl : t < 16 := by have := h.2.2.2.2.2.1.1; omega
      obtain ⟨z1, z2, z3, z4, z5⟩ := s8 hs
      have htt : tm - 1 = t := by omega
      rw [htt] at z2 z3
      obtain ⟨az', us, ⟨s, m, f1, f2, f3, f4, f5, f6, f7⟩, -⟩ := h.2.2.2.2.2.1.2.2.2.1 t (by omega)
      obtain ⟨ty, m1, m2, m3⟩ := A_method h.2.1 f1 f2
      have hidx : 4 * ty + m < 12 := by omega
      have x1 : (y_si (y_si τ 49 0 (4 * t + az) a) 50 0 (4 * t + az) b) 45 0 t = nI s := by simp [yi_1, u3_r]; exact f4
      have x2 : (y_si (y_si τ 49 0 (4 * t + az) a) 50 0 (4 * t + az) b) 46 0 t = nI m := by simp [yi_1, u3_r]; exact f6
      have x3 : (y_si (y_si τ 49 0 (4 * t + az) a) 50 0 (4 * t + az) b) 33 0 s = nI ty := by simp [yi_1, u3_r]; exact m2
      have x4 : (y_si (y_si τ 49 0 (4 * t + az) a) 50 0 (4 * t + az) b) 49 0 (4 * t + az) = a := by simp [yi_1, u3_r, u3_e]
      have x5 : (y_si (y_si τ 49 0 (4 * t + az) a) 50 0 (4 * t + az) b) 50 0 (4 * t + az) = b := by simp [yi_1, u3_e]
      have x6 : (y_si (y_si τ 49 0 (4 * t + az) a) 50 0 (4 * t + az) b) 31 0 = τ 31 0 := by simp [yi_1, u3_r]
      have x7 : (y_si (y_si τ 49 0 (4 * t + az) a) 50 0 (4 * t + az) b) 32 0 = τ 32 0 := by simp [yi_1, u3_r]
      obtain ⟨y1, y2, y3, y4⟩ := h.2.1.2.2.2.1 (4 * ty + m) hidx
      have hn6 := h.2.1.1
      have n16 : ¬ (16 : Int32) ≤ nI t := fun q => by have := (cLe (x := 16) (a := 16) rfl (y := nI t) rfl).mp q; omega
      rw [if_pos ((cEq s2 (y := 4) (b := 4) rfl).mpr hs), z2, z3, f4, f6, m3, xp_e, D_can hidx, xp_e, if_pos hidx, if_neg n16, if_pos (cIn' htl), x1, x2, M_shape_e (by omega) x3, xp_e, e47', M_wnd (by omega) hidx, xp_e, x4, x5, x6, x7, y1, y3]
      cases hwd : wnd (τ 31 0 (4 * ty + m)) (τ 32 0 (4 * ty + m)) a b
      · rw [show b01 (!false) = 1 from rfl, if_neg n10, show b01 false = 0 from rfl, if_pos rfl]
        exact go false
      · rw [show b01 (!true) = 0 from rfl, if_pos rfl, show b01 true = 1 from rfl, if_neg n10]
        exact go true
    · rw [if_neg (fun q => hs ((cEq s2 (y := 4) (b := 4) rfl).mp q)), if_pos ((cLe (x := 16) (a := 16) rfl (y := nI t) rfl).mpr (by omega))]
      exact go false
  · have haz4 : az = 4 := by omega
    rw [if_neg (fun q => hz ((cLt h18 (y := 4) (b := 4) rfl).mp q)), if_pos ((cEq h47 (y := 4) (b := 4) rfl).mpr haz4)]
    exact ⟨-2, σ, τ, rfl, rfl, hup _ _ ⟨_, _, _, _, _, _, _, _, h⟩⟩
theorem op_answer (N : Nat) : xg_answer N Rel := by
  intro k σ τ a b hk hR
  obtain ⟨n, ss, pz, nc, tm, fz, ct, st, h⟩ := hR
  have hup : ∀ σ τ, Rel k σ τ → Rel (k + 1) σ τ := fun _ _ => Rel.up (Nat.le_succ k)
  rcases ans_ok (τ := τ) a b with ⟨e1, e2⟩ | ⟨e1, e2⟩
  · unfold fA_answer
    rw [e1, e2, if_pos rfl]
    exact ⟨-1, σ, τ, rfl, rfl, hup _ _ ⟨_, _, _, _, _, _, _, _, h⟩⟩
  rw [e2]
  unfold fA_answer fM_answer_41
  rw [e1, if_neg n10]
  obtain ⟨s1, s2, s3, s4, s5, s6, s7, s8⟩ := h.2.2.2.2.2.2.2.2.2
  obtain ⟨g1, g2, g3, g4, g5⟩ := h.2.2.2.2.2.1
  by_cases h4 : st = 4
  · have ht := (s8 h4).1
    have e : τ 30 0 29 - 1 = nI (tm - 1) := by rw [g3, show (1 : Int32) = nI 1 from rfl, pk_sub ht]
    rw [if_pos ((cEq s2 (y := 4) (b := 4) rfl).mpr h4), if_pos ((cEq s3 (y := 4) (b := 4) rfl).mpr h4), A_latest g2 ht g1, xp_e, if_pos (by omega), e]
    obtain ⟨az, us, -, f1, f2, f3, -⟩ := g4 (tm - 1) (by omega)
    exact ans_go h hk (by omega) f2 f1 f3 (Or.inl ⟨h4, by omega⟩)
  · rw [if_neg (fun q => h4 ((cEq s2 (y := 4) (b := 4) rfl).mp q)), if_neg (fun q => h4 ((cEq s3 (y := 4) (b := 4) rfl).mp q))]
    obtain ⟨q1, q2, q3, q4⟩ := h.2.2.2.1
    exact ans_go h hk (by omega) q2 q1 q3 (Or.inr ⟨h4, rfl⟩)
