/-! Plain steps. -/
theorem P5.gone {tm n kk : Nat} {a8 t29 : Int32} {x16 x17 x18 x19 x20 : Nat → Nat → Int32} {p17 : Nat → Nat → Option Nat} {I : Nat → Nat → Int32} {P : Nat → Nat → Option Nat} {L : List Nat} {sz kd vl t31 t33 t45 t46 t47 t48 t49 t50 t51 : Nat → Int32} (h : P5 tm n kk a8 t29 x16 x17 x18 x19 x20 p17 I P L sz kd vl t31 t33 t45 t46 t47 t48 t49 t50 t51) (h1 : 1 ≤ tm) (h0 : x18 (tm - 1) 2 = 0) {x16' : Nat → Nat → Int32} {t51' : Nat → Int32} (hx : ∀ t j, x16' t j = if t = tm - 1 ∧ j = 4 then 1 else x16 t j) (ht : ∀ t, t51' t = if t = tm - 1 then 1 else t51 t) : P5 tm n kk a8 t29 x16' x17 x18 x19 x20 p17 I P L sz kd vl t31 t33 t45 t46 t47 t48 t49 t50 t51' := by
  obtain ⟨e1, e2, e3, e4, e5⟩ := h
  refine ⟨e1, e2, e3, fun t htm => ?_, fun t g1 g2 => ?_⟩
  · obtain ⟨az, us, g1, f1, f2, f3, f4, f5, f6, f7, f8, f9, f10, f11⟩ := e4 t htm
    by_cases hq : t = tm - 1
    · have haz : az = 0 := by
        rw [hq, h0] at f2
        have := (nI_eq (a := 0) (b := az) (by omega) (by omega)).mp f2
        omega
      refine ⟨az, us, g1, f1, f2, f3, f4, f5, ?_, f7, ?_, f9, ?_, ?_⟩
      · rw [hx, if_neg (by omega)]; exact f6
      · rw [hx, if_neg (by omega)]; exact f8
      · rw [hx, if_pos ⟨hq, rfl⟩, ht, if_pos hq]
      · rw [ht, if_pos hq]; exact Or.inr ⟨rfl, haz⟩
    · refine ⟨az, us, g1, f1, f2, f3, f4, f5, ?_, f7, ?_, f9, ?_, ?_⟩
      · rw [hx, if_neg (by omega)]; exact f6
      · rw [hx, if_neg (by omega)]; exact f8
      · rw [hx, if_neg (by omega), ht, if_neg hq]; exact f10
      · rw [ht, if_neg hq]; exact f11
  · obtain ⟨f1, f2, f3, f4, f5⟩ := e5 t g1 g2
    rw [hx, if_neg (by omega), hx, if_neg (by omega), hx, if_neg (by omega), ht, if_neg (by omega)]
    exact ⟨f1, f2, f3, f4, f5⟩
theorem lack_eq {kk : Nat} {σ : xS} {τ : yS} {n ss pz nc tm fz ct st : Nat} (h : Rl kk σ τ n ss pz nc tm fz ct st) : (decide (st = 4) && decide (τ 47 0 (tm - 1) = 0)) = lack st tm (σ.1 18) := by
  obtain ⟨-, -, -, -, -, ⟨h1, -, -, h4, -⟩, -, -, -, h9⟩ := h
  unfold lack
  by_cases hs : st = 4
  · have ht := (h9.2.2.2.2.2.2.2 hs).1
    obtain ⟨az, us, -, -, f2, f3, -⟩ := h4 (tm - 1) (by omega)
    rw [f2, f3]
  · simp [hs]
/-- all groups but that of the STATE -/
def R8 (kk : Nat) (σ : xS) (τ : yS) (n ss pz nc tm fz ct : Nat) : Prop :=
  P0 σ.2.2.1 σ.2.2.2 ∧
  P1 n (σ.1 0 0 3) (τ 30 0 4) (σ.1 14) (σ.1 2 0) (σ.1 3 0) (τ 31 0) (τ 32 0) (τ 33 0) (τ 34 0) ∧
  P2 ss (σ.1 4 0 1) (τ 30 0 8) (σ.1 21) (σ.2.1 21) σ.2.2.1 (σ.2.1 5 0) (τ 35 0) (τ 36 0) (τ 37 0) ∧
  P3 pz (σ.1 18 16 2) (σ.1 19 16) (σ.1 20 16) (τ 47 0) (τ 49 0) (τ 50 0) ∧
  P4 kk nc n (σ.1 6 0 1) (τ 30 0 20) (σ.1 6 0 2) (τ 30 0 21) (σ.1 15) (τ 38 0) (τ 39 0) (τ 40 0) (τ 41 0) (τ 42 0) (τ 43 0) (τ 44 0) ∧
  P5 tm n kk (σ.1 0 0 8) (τ 30 0 29) (σ.1 16) (σ.1 17) (σ.1 18) (σ.1 19) (σ.1 20) (σ.2.1 17) (σ.1 21) (σ.2.1 21) σ.2.2.1 (τ 35 0) (τ 36 0) (τ 37 0) (τ 31 0) (τ 33 0) (τ 45 0) (τ 46 0) (τ 47 0) (τ 48 0) (τ 49 0) (τ 50 0) (τ 51 0) ∧
  P6 fz (σ.1 9 0 2) (σ.1 9 0 3) (σ.1 9 0 4) (τ 30 0 35) (τ 30 0 37) (τ 30 0 38) (σ.1 11 0) (τ 53 0) ∧
  P7 ct kk (σ.1 12 0 1) (σ.1 12 0 2) (σ.1 12 0 3) (τ 30 0 36) (σ.1 13 0) (τ 54 0) ∧
  P8 (σ.1 0 0 16) (τ 30 0 31) (σ.1 0 0 17) (τ 30 0 30)
theorem Rl_mis1 {kk : Nat} {σ : xS} {τ : yS} {n ss pz nc tm fz ct : Nat} (h : R8 kk σ τ n ss pz nc tm fz ct) : Rl kk (xmE σ) (ymE τ) n 0 0 nc tm fz ct 0 := by
  obtain ⟨h0, h1, h2, h3, h4, h5, h6, h7, h8⟩ := h
  have e47 : ymE τ 47 0 = u1 (τ 47 0) 16 0 := by
    unfold ymE
    simp [yi_1, u3_r, u3_self]
  refine ⟨?_, ?_, ⟨by decide, ?_, ?_, fun i h => absurd h (by omega)⟩, ⟨by decide, ?_, ?_, fun i h => absurd h (by omega)⟩, ?_, ?_, ?_, ?_, ?_, P9_idle ?_ ?_⟩
  · exact h0
  · simpa [xmE, ymE, si_1, yi_1, u3_r, u3_j] using h1
  · simp [xmE, si_1, u3_r, u3_e]; rfl
  · simp [ymE, yi_1, u3_r, u3_j, u3_e]; rfl
  · simp [xmE, si_1, u3_r, u3_e]; rfl
  · rw [e47, u1_e]; rfl
  · simpa [xmE, ymE, si_1, yi_1, u3_r, u3_j] using h4
  · have e8 : (xmE σ).1 0 0 8 = σ.1 0 0 8 := by simp [xmE, si_1, u3_r, u3_j]
    have e29 : ymE τ 30 0 29 = τ 30 0 29 := by simp [ymE, yi_1, u3_r, u3_j]
    rw [e8, e29, e47]
    refine P5.congr h5 ?_ ?_ ?_ ?_ ?_ ?_ (fun _ _ _ _ _ _ q => q) ?_ ?_ ?_ ?_ ?_ ?_ ?_ ?_
    · intro t ht; simp [xmE, si_1, u3_r]
    · intro t ht; simp [xmE, si_1, u3_r]
    · intro t ht; simp [xmE, si_1, u3_r, u3_k (show ¬ t = 16 by omega)]
    · intro t ht; simp [xmE, si_1, u3_r]
    · intro t ht; simp [xmE, si_1, u3_r]
    · intro t ht; rfl
    · intro s m _ _; simp [ymE, yi_1, u3_r]
    · intro t ht; simp [ymE, yi_1, u3_r]
    · intro t ht; simp [ymE, yi_1, u3_r]
    · intro t ht; exact u1_n (by omega)
    · intro t ht; simp [ymE, yi_1, u3_r]
    · intro t ht; simp [ymE, yi_1, u3_r]
    · intro t ht; simp [ymE, yi_1, u3_r]
    · intro t ht; simp [ymE, yi_1, u3_r]
  · simpa [xmE, ymE, si_1, yi_1, u3_r, u3_j] using h6
  · simpa [xmE, ymE, si_1, yi_1, u3_r, u3_j] using h7
  · obtain ⟨g1, g2⟩ := h8
    refine ⟨?_, ?_⟩
    · simpa [xmE, ymE, si_1, yi_1, u3_r, u3_j] using g1
    · simp [xmE, ymE, si_1, yi_1, u3_r, u3_j, u3_e, g2]
  · simp [xmE, si_1, u3_r, u3_j, u3_e]
  · simp [ymE, yi_1, u3_r, u3_j, u3_e]
theorem Rl.r8 {kk : Nat} {σ : xS} {τ : yS} {n ss pz nc tm fz ct st : Nat} (h : Rl kk σ τ n ss pz nc tm fz ct st) : R8 kk σ τ n ss pz nc tm fz ct := by
  obtain ⟨h0, h1, h2, h3, h4, h5, h6, h7, h8, h9⟩ := h
  exact ⟨h0, h1, h2, h3, h4, h5, h6, h7, h8⟩
theorem Rl_mis0 {kk : Nat} {σ : xS} {τ : yS} {n ss pz nc tm fz ct st : Nat} (h : Rl kk σ τ n ss pz nc tm fz ct st) : Rl kk (xmE σ) (ymE τ) n 0 0 nc tm fz ct 0 := Rl_mis1 h.r8
theorem Rl_mis {kk : Nat} {σ : xS} {τ : yS} {n ss pz nc tm fz ct st : Nat} (h : Rl kk σ τ n ss pz nc tm fz ct st) : Rl kk (xm (lack st tm (σ.1 18)) (tm - 1) σ) (ym (lack st tm (σ.1 18)) (tm - 1) τ) n 0 0 nc tm fz ct 0 := by
  unfold xm ym
  by_cases hl : lack st tm (σ.1 18) = true
  · rw [if_pos hl, if_pos hl]
    have hs : st = 4 ∧ σ.1 18 (tm - 1) 2 = 0 := by unfold lack at hl; simpa using hl
    obtain ⟨h0, h1, h2, h3, h4, h5, h6, h7, h8, h9⟩ := h
    have ht := (h9.2.2.2.2.2.2.2 hs.1).1
    refine Rl_mis1 (ss := ss) (pz := pz) ⟨h0, ?_, ?_, ?_, ?_, ?_, ?_, ?_, ?_⟩
    · simpa [si_1, yi_1, u3_r] using h1
    · simpa [si_1, si_2, yi_1, u3_r] using h2
    · simpa [si_1, si_2, yi_1, u3_r] using h3
    · simpa [si_1, si_2, yi_1, u3_r] using h4
    · have := P5.gone h5 ht hs.2 (x16' := (x_si σ 16 (tm - 1) 4 1).1 16) (t51' := y_si τ 51 0 (tm - 1) 1 51 0) (fun t j => by simp [si_1, u3]) (fun t => by simp [yi_1, u3])
      simpa [si_1, si_2, yi_1, u3_r] using this
    · simpa [si_1, si_2, yi_1, u3_r] using h6
    · simpa [si_1, si_2, yi_1, u3_r] using h7
    · simpa [si_1, si_2, yi_1, u3_r] using h8
  · rw [if_neg hl, if_neg hl]
    exact Rl_mis0 h
/-- a plain step: both look at MISUSE alike -/
theorem plain {kk : Nat} {σ : xS} {τ : yS} {n ss pz nc tm fz ct st : Nat} (h : Rl kk σ τ n ss pz nc tm fz ct st) (w : Bool) :
    (∃ (c : Int32) (σ' : xS) (τ' : yS), c < 0 ∧ fA_misuseOfPlainStep σ (b01 w) = some (c, σ') ∧ fM_other τ (b01 w) = some (c, τ') ∧ Rl kk σ' τ' n 0 0 nc tm fz ct 0) ∨
    (fA_misuseOfPlainStep σ (b01 w) = some (0, σ) ∧ fM_other τ (b01 w) = some (0, y_si τ 30 0 9 0) ∧ ss = 0 ∧ w = false) := by
  have hlk := lack_eq h
  have hm := Rl_mis h
  obtain ⟨h0, h1, h2, h3, h4, h5, h6, h7, h8, h9⟩ := id h
  obtain ⟨s1, s2, s3, s4, s5, s6, s7, s8⟩ := h9
  obtain ⟨k1, k2, k3, k4⟩ := h2
  have ht4 : st = 4 → 1 ≤ tm := fun q => (s8 q).1
  have eX : fA_misuseOfPlainStep σ (b01 w) = if (decide (st = 2) || decide (st = 3) || lack st tm (σ.1 18)) = false ∧ ss = 0 ∧ w = false then some (0, σ) else some (if (decide (st = 2) || decide (st = 3) || lack st tm (σ.1 18)) = true then -3 else if 0 < ss then -4 else -5, xm (lack st tm (σ.1 18)) (tm - 1) σ) := by
    have e35 : ∀ (u v : Bool), fA_misuseOfPlainStep_35 σ (b01 w) (b01 v) (b01 u) = if u = false ∧ v = false ∧ w = false then some (0, σ) else some (if u = true then -3 else if v = true then -4 else -5, xm (lack st tm (σ.1 18)) (tm - 1) σ) := by
      intro u v
      unfold fA_misuseOfPlainStep_35
      rw [A_misuse s2 s1 h5.2.1 ht4 h5.1]
      cases u <;> cases v <;> cases w <;> simp [b01, mcode, xb_e]
    have e20 : ∀ u : Bool, fA_misuseOfPlainStep_20 σ (b01 w) (b01 u) = if u = false ∧ ss = 0 ∧ w = false then some (0, σ) else some (if u = true then -3 else if 0 < ss then -4 else -5, xm (lack st tm (σ.1 18)) (tm - 1) σ) := by
      intro u
      unfold fA_misuseOfPlainStep_20
      by_cases hz : ss = 0
      · rw [if_pos ((cLe k2 (y := 0) (b := 0) rfl).mpr (by omega)), show (0 : Int32) = b01 false from rfl, e35]
        simp [hz, b01]
      · have hz' : 0 < ss := by omega
        rw [if_neg (fun q => hz (by have := (cLe k2 (y := 0) (b := 0) rfl).mp q; omega)), show (1 : Int32) = b01 true from rfl, e35]
        simp [hz, hz']
    unfold fA_misuseOfPlainStep fA_misuseOfPlainStep_15
    rw [A_awaits s2 s1, A_lacks s2 s1 h5.2.1 ht4 h5.1, xp_e]
    by_cases ha : st = 2 ∨ st = 3
    · rw [if_pos ha, if_neg (by decide), show (1 : Int32) = b01 true from rfl, e20]
      have : (decide (st = 2) || decide (st = 3) || lack st tm (σ.1 18)) = true := by rcases ha with q | q <;> simp [q]
      rw [this]
    · have ha1 : ¬ st = 2 := fun q => ha (Or.inl q)
      have ha2 : ¬ st = 3 := fun q => ha (Or.inr q)
      rw [if_neg ha, if_pos rfl]
      by_cases hb : lack st tm (σ.1 18) = true
      · rw [if_pos hb, if_neg (by decide), show (1 : Int32) = b01 true from rfl, e20]
        simp [hb]
      · rw [if_neg hb, if_pos rfl, show (0 : Int32) = b01 false from rfl, e20]
        have hb' : lack st tm (σ.1 18) = false := by simpa using hb
        simp [hb', ha1, ha2, b01]
  have eM : fM_misuse τ 0 (-1) 0 (b01 w) = if (decide (st = 2) || decide (st = 3) || lack st tm (σ.1 18)) = false ∧ ss = 0 ∧ w = false then some (0, τ) else some (if (decide (st = 2) || decide (st = 3) || lack st tm (σ.1 18)) = true then -3 else if 0 < ss then -4 else -5, ym (lack st tm (σ.1 18)) (tm - 1) τ) := by
    have := M_misuse (isM := false) (isA := false) (w := w) (cof := -1) s3 s1 h5.2.2.1 ht4 h5.1 k3 k1 rfl rfl rfl rfl
    rw [hlk] at this
    rw [show (0 : Int32) = b01 false from rfl, this]
    have hneg : decide ((-1 : Int32) < 0) = true := by decide
    by_cases hz : ss = 0
    · simp [hneg, hz, b01]
    · have hz' : 0 < ss := by omega
      simp [hneg, hz, hz', b01]
  unfold fM_other
  by_cases hc : (decide (st = 2) || decide (st = 3) || lack st tm (σ.1 18)) = false ∧ ss = 0 ∧ w = false
  · right
    rw [eX, eM, if_pos hc, if_pos hc, xb_e, xl_e]
    exact ⟨rfl, rfl, hc.2.1, hc.2.2⟩
  · left
    rw [eX, eM, if_neg hc, if_neg hc, xb_e, xl_e]
    refine ⟨_, _, _, ?_, rfl, rfl, ?_⟩
    · split
      · decide
      · split <;> decide
    · obtain ⟨g0, g1, g2, g3, g4, g5, g6, g7, g8, g9⟩ := hm
      refine ⟨g0, ?_, ?_, ?_, ?_, ?_, ?_, ?_, ?_, P9_idle g9.2.1 ?_⟩
      · simpa [yi_1, u3_r, u3_j] using g1
      · simpa [yi_1, u3_r, u3_j] using g2
      · simpa [yi_1, u3_r, u3_j] using g3
      · simpa [yi_1, u3_r, u3_j] using g4
      · simpa [yi_1, u3_r, u3_j] using g5
      · simpa [yi_1, u3_r, u3_j] using g6
      · simpa [yi_1, u3_r, u3_j] using g7
      · simpa [yi_1, u3_r, u3_j] using g8
      · simp [yi_1, u3_e]
