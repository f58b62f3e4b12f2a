/-! answer. -/
def wnd (p g a b : Int32) : Bool := (decide (a = 2) && decide (p ≤ b)) || (!decide (a = 1) && decide (g = 0))
theorem D_can {σ : xS} {idx : Nat} (hk : idx < 12) (a b : Int32) : fD_canDo σ idx a b = some (b01 (!wnd (σ.1 14 idx 0) (σ.1 14 idx 1) a b)) := by
  have e15 : fD_canDo_15 σ idx a = some (b01 (!(!decide (a = 1) && decide (σ.1 14 idx 1 = 0)))) := by
    unfold fD_canDo_15 fD_canDo_27
    rw [if_pos hk]
    by_cases h1 : σ.1 14 idx 1 = 0
    · rw [if_pos h1]
      by_cases h2 : a = 1
      · rw [if_pos h2]; simp [h2, b01]
      · rw [if_neg h2]; simp [h1, h2, b01]
    · rw [if_neg h1]; simp [h1, b01]
  unfold fD_canDo wnd
  rw [e15]
  by_cases h2 : a = 2
  · rw [if_pos h2, if_pos hk]
    by_cases h3 : b < σ.1 14 idx 0
    · have h3' : ¬ σ.1 14 idx 0 ≤ b := Int32.not_le.mpr h3
      rw [if_pos h3]; simp [h3']
    · have h3' : σ.1 14 idx 0 ≤ b := Int32.not_lt.mp h3
      rw [if_neg h3]; simp [h2, h3', b01]
  · rw [if_neg h2]; simp [h2]
theorem M_wnd {τ : yS} {t k idx : Nat} (ht : 4 * t + k < 68) (hi : idx < 12) : fM_willNotDo τ (nI t) (nI k) (nI idx) = some (b01 (wnd (τ 31 0 idx) (τ 32 0 idx) (τ 49 0 (4 * t + k)) (τ 50 0 (4 * t + k)))) := by
  have e37 : ∀ a : Int32, fM_willNotDo_37 τ (nI idx) a = some (b01 (!decide (a = 1) && decide (τ 32 0 idx = 0))) := by
    intro a
    unfold fM_willNotDo_37 fM_willNotDo_52
    by_cases h1 : a = 1
    · rw [if_pos h1]; simp [h1, b01]
    · rw [if_neg h1, if_pos (cIn rfl), cCl rfl]
      by_cases h2 : τ 32 0 idx = 0
      · rw [if_pos h2]; simp [h1, h2, b01]
      · rw [if_neg h2]; simp [h2, b01]
  have ei : 4 * nI t + nI k = nI (4 * t + k) := by rw [show (4 : Int32) = nI 4 from rfl, pk_mul, nI_add]
  unfold fM_willNotDo wnd
  rw [ei, if_pos (cIn rfl), cCl rfl, e37]
  by_cases h2 : τ 49 0 (4 * t + k) = 2
  · rw [if_pos h2, if_pos (cIn rfl), cCl rfl]
    by_cases h3 : τ 31 0 idx ≤ τ 50 0 (4 * t + k)
    · rw [if_pos h3]; unfold fM_willNotDo_52; simp [h2, h3, b01]
    · rw [if_neg h3]; simp [h3]
  · rw [if_neg h2]; simp [h2]
theorem A_method {σ : xS} {τ : yS} {n s m : Nat} (h : P1 n (σ.1 0 0 3) (τ 30 0 4) (σ.1 14) (σ.1 2 0) (σ.1 3 0) (τ 31 0) (τ 32 0) (τ 33 0) (τ 34 0)) (hs : s < n) (hm : m < 4) : ∃ ty, ty < 3 ∧ τ 33 0 s = nI ty ∧ fA_methodOf σ (nI s) (nI m) = some (4 * ty + m) := by
  obtain ⟨p1, p2, p3, p4, p5⟩ := h
  obtain ⟨g1, ⟨ty, g2, g3⟩, -⟩ := p5 s hs
  refine ⟨ty, g2, g3, ?_⟩
  unfold fA_methodOf
  rw [if_pos (cIn rfl), cCl rfl, g1, g3]
  have ei : nI ty * 4 + nI m = nI (4 * ty + m) := by rw [show (4 : Int32) = nI 4 from rfl, pk_mul, nI_add, Nat.mul_comm ty 4]
  rw [ei, if_pos (cIn rfl), cCl rfl]
theorem M_shape_e {τ : yS} {s m ty : Nat} (hs : s < 6) (h : τ 33 0 s = nI ty) : fM_shape τ (nI s) (nI m) = some (nI (4 * ty + m)) := by
  unfold fM_shape
  rw [if_pos (cIn rfl), cCl rfl, h, show (4 : Int32) = nI 4 from rfl, pk_mul, nI_add]
theorem misG {kk : Nat} {σ : xS} {τ : yS} {n ss pz nc tm fz ct st : Nat} (h : Rl kk σ τ n ss pz nc tm fz ct st) {isM isA w : Bool} {cof : Int32} {u v : Bool} (hu : u = (((decide (st = 2) || decide (st = 3)) && !(isM || (!decide (cof < 0) && decide (cof = τ 30 0 10)))) || (lack st tm (σ.1 18) && !isA))) (hv : v = (decide (0 < ss) && !isM && decide (cof < 0))) :
    (∃ (c : Int32) (σ' : xS) (τ' : yS), c < 0 ∧ fA_misuseIf σ (b01 u) (b01 v) (b01 w) = some (c, σ') ∧ fM_misuse τ (b01 isM) cof (b01 isA) (b01 w) = some (c, τ') ∧ Rl kk σ' τ' n 0 0 nc tm fz ct 0) ∨
    (fA_misuseIf σ (b01 u) (b01 v) (b01 w) = some (0, σ) ∧ fM_misuse τ (b01 isM) cof (b01 isA) (b01 w) = some (0, τ) ∧ u = false ∧ v = false ∧ w = false) := by
  have hlk := lack_eq h
  have hm := Rl_mis h
  obtain ⟨h0, h1, h2, h3, h4, h5, h6, h7, h8, h9⟩ := h
  obtain ⟨s1, s2, s3, s4, s5, s6, s7, s8⟩ := h9
  obtain ⟨k1, k2, k3, k4⟩ := h2
  have ht4 : st = 4 → 1 ≤ tm := fun q => (s8 q).1
  have eM := M_misuse (isM := isM) (isA := isA) (w := w) (cof := cof) s3 s1 h5.2.2.1 ht4 h5.1 k3 k1 rfl hlk.symm hu hv
  have eX := A_misuse (a := b01 u) (b := b01 v) (c := b01 w) s2 s1 h5.2.1 ht4 h5.1
  rw [eM, eX]
  cases u
  · cases v
    · cases w
      · right; simp [b01]
      · left
        refine ⟨-5, _, _, by decide, ?_, ?_, hm⟩
        · simp [b01, mcode]
        · simp
    · left
      refine ⟨-4, _, _, by decide, ?_, ?_, hm⟩
      · simp [b01, mcode]
      · simp
  · left
    refine ⟨-3, _, _, by decide, ?_, ?_, hm⟩
    · simp [b01, mcode]
    · simp
theorem P5.add {tm n kk t0 az : Nat} {a8 t29 a b : Int32} {x16 x17 x18 x19 x20 x18' x19' x20' : Nat → Nat → Int32} {p17 : Nat → Nat → Option Nat} {I : Nat → Nat → Int32} {P : Nat → Nat → Option Nat} {L : List Nat} {sz kd vl t31 t33 t45 t46 t47 t48 t49 t50 t51 t47' t49' t50' : Nat → Int32} (h : P5 tm n kk a8 t29 x16 x17 x18 x19 x20 p17 I P L sz kd vl t31 t33 t45 t46 t47 t48 t49 t50 t51) (ht0 : t0 < tm) (h18 : x18 t0 2 = nI az) (haz : az < 4) (h48 : t48 t0 = 0) (h51 : t51 t0 = 0) (hkk : kk < 1000000)
    (e18 : ∀ t j, x18' t j = if t = t0 ∧ j = 2 then nI (az + 1) else x18 t j) (e19 : ∀ t j, x19' t j = if t = t0 ∧ j = az then a else x19 t j) (e20 : ∀ t j, x20' t j = if t = t0 ∧ j = az then b else x20 t j) (e47 : ∀ t, t < 16 → t47' t = if t = t0 then nI (az + 1) else t47 t) (e49 : ∀ j, j < 64 → t49' j = if j = 4 * t0 + az then a else t49 j) (e50 : ∀ j, j < 64 → t50' j = if j = 4 * t0 + az then b else t50 j) : P5 tm n kk a8 t29 x16 x17 x18' x19' x20' p17 I P L sz kd vl t31 t33 t45 t46 t47' t48 t49' t50' t51 := by
  obtain ⟨g1, g2, g3, g4, g5⟩ := h
  refine ⟨g1, g2, g3, fun t ht => ?_, fun t q1 q2 => ?_⟩
  · obtain ⟨az', us, f0, f1, f2, f3, f4, f5, f6, f7, f8, f9, f10, f11⟩ := g4 t ht
    by_cases hq : t = t0
    · have ha : az' = az := by
        rw [hq, h18] at f2
        exact ((nI_eq (by omega) (by omega)).mp f2).symm
      have hu : us = 0 := by
        rw [hq, h48] at f7
        have := (nI_eq (a := 0) (b := us) (by omega) (by omega)).mp f7
        omega
      subst ha
      subst hu
      refine ⟨az' + 1, 0, f0, by omega, ?_, ?_, fun j hj => ⟨?_, ?_⟩, by omega, f6, f7, ?_, fun q => absurd q (by omega), f10, ?_⟩
      · rw [e18, if_pos ⟨hq, rfl⟩]
      · rw [e47 t (by omega), if_pos hq]
      · rw [e19, e49 _ (by omega)]
        by_cases hj2 : j = az'
        · rw [if_pos ⟨hq, hj2⟩, if_pos (by rw [hq, hj2])]
        · rw [if_neg (fun q => hj2 q.2), if_neg (by rw [hq]; omega)]
          exact (f4 j (by omega)).1
      · rw [e20, e50 _ (by omega)]
        by_cases hj2 : j = az'
        · rw [if_pos ⟨hq, hj2⟩, if_pos (by rw [hq, hj2])]
        · rw [if_neg (fun q => hj2 q.2), if_neg (by rw [hq]; omega)]
          exact (f4 j (by omega)).2
      · rw [f8]; congr 1
      · rw [hq, h51]; exact Or.inl rfl
    · refine ⟨az', us, f0, f1, ?_, ?_, fun j hj => ⟨?_, ?_⟩, f5, f6, f7, f8, f9, f10, f11⟩
      · rw [e18, if_neg (fun q => hq q.1)]; exact f2
      · rw [e47 t (by omega), if_neg hq]; exact f3
      · rw [e19, if_neg (fun q => hq q.1), e49 _ (by omega), if_neg (by omega)]; exact (f4 j hj).1
      · rw [e20, if_neg (fun q => hq q.1), e50 _ (by omega), if_neg (by omega)]; exact (f4 j hj).2
  · obtain ⟨f1, f2, f3, f4, f5⟩ := g5 t q1 q2
    refine ⟨?_, f2, f3, f4, f5⟩
    rw [e18, if_neg (by omega)]; exact f1
theorem Q_add_e {σ : xS} {t az : Nat} (ht : t < 17) (h : σ.1 18 t 2 = nI az) (haz : az < 4) (a b : Int32) : fQ_add σ t a b = some (x_si (x_si (x_si σ 19 t az a) 20 t az b) 18 t 2 (nI (az + 1))) := by
  unfold fQ_add
  have f1 : (x_si σ 19 t az a).1 18 t 2 = nI az := by simp [si_1, u3_r]; exact h
  have f2 : (x_si (x_si σ 19 t az a) 20 t az b).1 18 t 2 = nI az := by simp [si_1, u3_r]; exact h
  rw [if_pos ht, if_neg (fun q => by have := (cLe (x := 4) (a := 4) rfl h).mp q; omega), if_pos (cIn h), cCl h]
  simp only [xl_e]
  rw [f1, if_pos (cIn rfl), cCl rfl, f2, show (1 : Int32) = nI 1 from rfl, nI_add]
theorem ans_ok {τ : yS} (a b : Int32) : (fA_isAnswer a b = 0 ∧ fM_answer τ a b = some (-1, τ)) ∨ (fA_isAnswer a b = 1 ∧ fM_answer τ a b = fM_answer_41 τ a b) := by
  unfold fA_isAnswer fM_answer fM_answer_25
  rcases pk_ix a (n := 4) (by decide) with ha | ha | ⟨j, ha, rfl⟩
  · left
    rw [M_in0 (n := 3) (c := 3) rfl (by decide) (Or.inl ha), if_neg (fun q => by rw [q] at ha; exact absurd ha (by decide)), if_neg (fun q => by rw [q] at ha; exact absurd ha (by decide)), if_neg (fun q => by rw [q] at ha; exact absurd ha (by decide)), if_neg (fun q => by rw [q] at ha; exact absurd ha (by decide))]
    exact ⟨rfl, rfl⟩
  · left
    rw [M_in0 (n := 3) (c := 3) rfl (by decide) (Or.inr ha), if_neg (fun q => by rw [q] at ha; exact absurd ha (by decide)), if_neg (fun q => by rw [q] at ha; exact absurd ha (by decide)), if_neg (fun q => by rw [q] at ha; exact absurd ha (by decide)), if_neg (fun q => by rw [q] at ha; exact absurd ha (by decide))]
    exact ⟨rfl, rfl⟩
  · rw [M_in1 (n := 3) (c := 3) rfl rfl (by omega) (by decide), if_neg n10]
    rcases (show j = 0 ∨ j = 1 ∨ j = 2 ∨ j = 3 by omega) with rfl | rfl | rfl | rfl
    · right; exact ⟨rfl, rfl⟩
    · rw [if_neg (show ¬ nI 1 = 0 by decide), if_pos (show nI 1 = 1 from rfl), if_pos (show nI 1 = 1 from rfl), if_neg (show ¬ nI 1 = 2 by decide)]
      rcases pk_ix b (n := 1000) (by decide) with hb | hb | ⟨jb, hb, rfl⟩
      · left; rw [A_below0 (n := 1000) (c := 1000) rfl (Or.inl hb), M_in0 (n := 999) (c := 999) rfl (by decide) (Or.inl hb)]; exact ⟨rfl, rfl⟩
      · left; rw [A_below0 (n := 1000) (c := 1000) rfl (Or.inr hb), M_in0 (n := 999) (c := 999) rfl (by decide) (Or.inr hb)]; exact ⟨rfl, rfl⟩
      · right; rw [A_below1 (n := 1000) (c := 1000) rfl rfl hb (by decide), M_in1 (n := 999) (c := 999) rfl rfl (by omega) (by decide), if_neg n10]; exact ⟨rfl, rfl⟩
    · rw [if_neg (show ¬ nI 2 = 0 by decide), if_neg (show ¬ nI 2 = 1 by decide), if_pos (show nI 2 = 2 from rfl), if_neg (show ¬ nI 2 = 1 by decide), if_pos (show nI 2 = 2 from rfl)]
      rcases pk_ix b (n := 2) (by decide) with hb | hb | ⟨jb, hb, rfl⟩
      · left; rw [A_below0 (n := 2) (c := 2) rfl (Or.inl hb), M_in0 (n := 1) (c := 1) rfl (by decide) (Or.inl hb)]; exact ⟨rfl, rfl⟩
      · left; rw [A_below0 (n := 2) (c := 2) rfl (Or.inr hb), M_in0 (n := 1) (c := 1) rfl (by decide) (Or.inr hb)]; exact ⟨rfl, rfl⟩
      · right; rw [A_below1 (n := 2) (c := 2) rfl rfl hb (by decide), M_in1 (n := 1) (c := 1) rfl rfl (by omega) (by decide), if_neg n10]; exact ⟨rfl, rfl⟩
    · right; exact ⟨rfl, rfl⟩
