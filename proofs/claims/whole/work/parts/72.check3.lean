/-! call: a check, to its end. -/
theorem b01_01 (P : Bool) : b01 P = 0 ∨ b01 P = 1 := by
  cases P
  · exact Or.inl rfl
  · exact Or.inr rfl
def ps (md q f c : Nat) : Bool := if md = 0 then decide (f = q) else if md = 2 then decide (f ≤ q) else if md = 3 then (decide (f = 1) && decide (c = 1)) else decide (q ≤ f)
theorem pass_e {N : Nat} {σ : xS} {md q f c : Nat} {a : Int32} (hmd : md < 5) (hq : q ≤ 40) (hf : f ≤ 40) (hc : c ≤ 40) (h14 : σ.1 0 0 14 = nI md) (h15 : σ.1 0 0 15 = nI q) (h9 : σ.1 9 0 2 = nI f) (h17 : σ.1 17 16 0 = a) (hm : fB_manyOf N σ a = some (nI c)) : fA_passes N σ = some (b01 (ps md q f c)) := by
  have e60 : fA_passes_60 N σ = some (b01 (decide (q ≤ f))) := by
    unfold fA_passes_60
    by_cases z : f < q
    · rw [if_pos ((by rw [cLt h9 h15]; exact z) : σ.1 9 0 2 < σ.1 0 0 15)]; simp [b01, show ¬ q ≤ f by omega]
    · rw [if_neg (fun z' => z (by rw [cLt h9 h15] at z'; exact z'))]; simp [b01, show q ≤ f by omega]
  have e100 : fA_passes_100 N σ = some (b01 (decide (f = 1) && decide (c = 1))) := by
    unfold fA_passes_100
    rw [h17, hm, xp_e]
    by_cases z : f = 1
    · rw [if_pos ((cEq h9 (y := 1) (b := 1) rfl).mpr z)]
      by_cases y : c = 1
      · rw [if_pos ((cEq (x := nI c) rfl (y := 1) (b := 1) rfl).mpr y)]; simp [b01, z, y]
      · rw [if_neg (fun y' => y ((cEq (x := nI c) rfl (y := 1) (b := 1) rfl).mp y'))]; simp [b01, y]
    · rw [if_neg (fun z' => z ((cEq h9 (y := 1) (b := 1) rfl).mp z'))]; simp [b01, z]
  unfold fA_passes
  rw [e60, e100, h14]
  rcases (show md = 0 ∨ md = 1 ∨ md = 2 ∨ md = 3 ∨ md = 4 by omega) with rfl | rfl | rfl | rfl | rfl
  · rw [if_pos (show nI 0 = 0 from rfl)]
    by_cases z : f = q
    · rw [if_pos ((by rw [cEq h9 h15]; exact z) : σ.1 9 0 2 = σ.1 0 0 15)]; simp [ps, b01, z]
    · rw [if_neg (fun z' => z (by rw [cEq h9 h15] at z'; exact z'))]; simp [ps, b01, z]
  · rw [if_neg (show ¬ nI 1 = 0 by decide), if_pos (show nI 1 = 1 from rfl)]; simp [ps]
  · rw [if_neg (show ¬ nI 2 = 0 by decide), if_neg (show ¬ nI 2 = 1 by decide), if_pos (show nI 2 = 2 from rfl)]
    by_cases z : q < f
    · rw [if_pos ((by rw [cLt h15 h9]; exact z) : σ.1 0 0 15 < σ.1 9 0 2)]; simp [ps, b01, show ¬ f ≤ q by omega]
    · rw [if_neg (fun z' => z (by rw [cLt h15 h9] at z'; exact z'))]; simp [ps, b01, show f ≤ q by omega]
  · rw [if_neg (show ¬ nI 3 = 0 by decide), if_neg (show ¬ nI 3 = 1 by decide), if_neg (show ¬ nI 3 = 2 by decide), if_pos (show nI 3 = 3 from rfl)]; simp [ps]
  · rw [if_neg (show ¬ nI 4 = 0 by decide), if_neg (show ¬ nI 4 = 1 by decide), if_neg (show ¬ nI 4 = 2 by decide), if_neg (show ¬ nI 4 = 3 by decide), if_pos (show nI 4 = 4 from rfl)]; simp [ps]
theorem chkEnd_e {N : Nat} {τ : yS} {md q f c : Nat} {a3 : Int32} (hmd : md < 5) (hq : q ≤ 40) (hf : f ≤ 40) (hc : c ≤ 40) (h11 : τ 30 0 11 = nI md) (h12 : τ 30 0 12 = nI q) (h35 : τ 30 0 35 = nI f) : chkEnd N τ a3 (nI c) = fM_check_Z2_272 N (y_si τ 30 0 37 1) a3 (b01 (ps md q f c)) := by
  have e11 : (y_si τ 30 0 37 1) 30 0 11 = nI md := by rw [yi_1, u3_j (by decide)]; exact h11
  have e12 : (y_si τ 30 0 37 1) 30 0 12 = nI q := by rw [yi_1, u3_j (by decide)]; exact h12
  have e35 : (y_si τ 30 0 37 1) 30 0 35 = nI f := by rw [yi_1, u3_j (by decide)]; exact h35
  unfold chkEnd fM_check_Z2_252
  rw [xl_e, e11, e12, e35]
  have hlt : (nI f < nI q) = (f < q) := cLt rfl rfl
  have hlt' : (nI q < nI f) = (q < f) := cLt rfl rfl
  rcases (show md = 0 ∨ md = 1 ∨ md = 2 ∨ md = 3 ∨ md = 4 by omega) with rfl | rfl | rfl | rfl | rfl
  · rw [if_pos (show nI 0 = 0 from rfl)]
    by_cases z : f = q
    · rw [if_pos ((cEq (x := nI f) rfl (y := nI q) rfl).mpr z)]; simp [ps, b01, z]
    · rw [if_neg (fun z' => z ((cEq (x := nI f) rfl (y := nI q) rfl).mp z'))]; simp [ps, b01, z]
  · rw [if_neg (show ¬ nI 1 = 0 by decide), if_neg (show ¬ nI 1 = 2 by decide), if_neg (show ¬ nI 1 = 3 by decide)]
    by_cases z : f < q
    · rw [if_pos (by rw [hlt]; exact z)]; simp [ps, b01, show ¬ q ≤ f by omega]
    · rw [if_neg (by rw [hlt]; exact z)]; simp [ps, b01, show q ≤ f by omega]
  · rw [if_neg (show ¬ nI 2 = 0 by decide), if_pos (show nI 2 = 2 from rfl)]
    by_cases z : q < f
    · rw [if_pos (by rw [hlt']; exact z)]; simp [ps, b01, show ¬ f ≤ q by omega]
    · rw [if_neg (by rw [hlt']; exact z)]; simp [ps, b01, show f ≤ q by omega]
  · rw [if_neg (show ¬ nI 3 = 0 by decide), if_neg (show ¬ nI 3 = 2 by decide), if_pos (show nI 3 = 3 from rfl)]
    by_cases z : f = 1
    · rw [if_pos ((cEq (x := nI f) rfl (y := 1) (b := 1) rfl).mpr z)]
      by_cases y : c = 1
      · rw [if_pos ((cEq (x := nI c) rfl (y := 1) (b := 1) rfl).mpr y)]; simp [ps, b01, z, y]
      · rw [if_neg (fun y' => y ((cEq (x := nI c) rfl (y := 1) (b := 1) rfl).mp y'))]; simp [ps, b01, y]
    · rw [if_neg (fun z' => z ((cEq (x := nI f) rfl (y := 1) (b := 1) rfl).mp z'))]; simp [ps, b01, z]
  · rw [if_neg (show ¬ nI 4 = 0 by decide), if_neg (show ¬ nI 4 = 2 by decide), if_neg (show ¬ nI 4 = 3 by decide)]
    by_cases z : f < q
    · rw [if_pos (by rw [hlt]; exact z)]; simp [ps, b01, show ¬ q ≤ f by omega]
    · rw [if_neg (by rw [hlt]; exact z)]; simp [ps, b01, show q ≤ f by omega]
theorem chk_fin {k : Nat} {σ σ' : xS} {T τ' : yS} {n pz nc tm fz ct f ct' : Nat} (h : R8 k σ T n 0 pz nc tm fz ct) (t9 : T 30 0 9 = 0)
    (e1 : ∀ r, (¬ r = 0 ∧ ¬ r = 9 ∧ ¬ r = 10 ∧ ¬ r = 11 ∧ ¬ r = 12 ∧ ¬ r = 13 ∧ ¬ r = 15) → σ'.1 r = σ.1 r) (e0 : ∀ j, ¬ j = 12 → ¬ j = 16 → σ'.1 0 0 j = σ.1 0 0 j) (e12 : σ'.1 0 0 12 = 0) (e16 : σ'.1 0 0 16 = τ' 30 0 31) (e2 : σ'.2 = σ.2) (e15 : ∀ c j, ¬ j = 5 → σ'.1 15 c j = σ.1 15 c j) (sn : ∀ c, c < nc → σ'.1 15 c 5 = τ' 44 0 c ∧ (τ' 44 0 c = 0 ∨ τ' 44 0 c = 1))
    (f1 : ∀ r, (¬ r = 30 ∧ ¬ r = 44 ∧ ¬ r = 52 ∧ ¬ r = 53 ∧ ¬ r = 54) → τ' r = T r) (f30 : ∀ j, (¬ j = 31 ∧ ¬ j = 35 ∧ ¬ j = 36 ∧ ¬ j = 37 ∧ ¬ j = 38) → τ' 30 0 j = T 30 0 j)
    (p6 : P6 f (σ'.1 9 0 2) (σ'.1 9 0 3) (σ'.1 9 0 4) (τ' 30 0 35) (τ' 30 0 37) (τ' 30 0 38) (σ'.1 11 0) (τ' 53 0)) (p7 : Q7 ct' (σ'.1 12 0 1) (σ'.1 12 0 2) (σ'.1 12 0 3) (τ' 30 0 36) (σ'.1 13 0) (τ' 54 0)) (hct : ct' ≤ ct + 80) : Rl (k + 1) σ' τ' n 0 pz nc tm f ct' 0 := by
  obtain ⟨h0, h1, h2, h3, h4, h5, h6, h7, h8⟩ := h
  refine ⟨by rw [e2]; exact h0, ?_, ⟨by decide, ?_, ?_, fun i hi => absurd hi (by omega)⟩, ?_, ?_, ?_, p6, ⟨?_, p7⟩, ⟨e16, ?_⟩, P9_idle e12 ?_⟩
  · rw [e0 3 (by decide) (by decide), f30 4 (by decide), e1 14 (by decide), e1 2 (by decide), e1 3 (by decide), f1 31 (by decide), f1 32 (by decide), f1 33 (by decide), f1 34 (by decide)]; exact h1
  · rw [e1 4 (by decide)]; exact h2.2.1
  · rw [f30 8 (by decide)]; exact h2.2.2.1
  · rw [e1 18 (by decide), e1 19 (by decide), e1 20 (by decide), f1 47 (by decide), f1 49 (by decide), f1 50 (by decide)]; exact h3
  · rw [e1 6 (by decide), f30 20 (by decide), f30 21 (by decide), f1 38 (by decide), f1 39 (by decide), f1 40 (by decide), f1 41 (by decide), f1 42 (by decide), f1 43 (by decide)]
    obtain ⟨b1, b2, b3, ⟨b4, nx, b5, b6⟩, b7⟩ := h4
    refine ⟨b1, b2, b3, ⟨b4, nx, by omega, b6⟩, fun i hi => ?_⟩
    obtain ⟨d0, d1, d1', d2, d2', d3, d4, -, -, d6⟩ := b7 i hi
    rw [e15 i 0 (by decide), e15 i 1 (by decide), e15 i 2 (by decide), e15 i 3 (by decide), e15 i 4 (by decide), e15 i 6 (by decide)]
    exact ⟨d0, d1, d1', d2, d2', d3, d4, (sn i hi).1, (sn i hi).2, d6⟩
  · rw [e0 8 (by decide) (by decide), f30 29 (by decide), e1 16 (by decide), e1 17 (by decide), e1 18 (by decide), e1 19 (by decide), e1 20 (by decide), e1 21 (by decide), e2, f1 31 (by decide), f1 33 (by decide), f1 35 (by decide), f1 36 (by decide), f1 37 (by decide), f1 45 (by decide), f1 46 (by decide), f1 47 (by decide), f1 48 (by decide), f1 49 (by decide), f1 50 (by decide), f1 51 (by decide)]
    exact h5.up (Nat.le_succ k)
  · have := h7.1
    omega
  · rw [e0 17 (by decide) (by decide), f30 30 (by decide)]; exact h8.2
  · rw [f30 9 (by decide)]; exact t9
theorem call_check {N k : Nat} (hN : 64 ≤ N) (hk : k < 512) {σ : xS} {T : yS} {n pz nc tm fz ct s m ty md q : Nat} (h : R8 k σ T n 0 pz nc tm fz ct) (hs : s < n) (hm : m < 4) (hty : ty < 3) (h33 : T 33 0 s = nI ty) (h31 : T 31 0 (4 * ty + m) = nI (pm (T 31 0) (T 33 0) s m)) (hp : pm (T 31 0) (T 33 0) s m ≤ 2) (x0 : σ.1 17 16 0 = nI s) (x1 : σ.1 17 16 1 = nI m) (t9 : T 30 0 9 = 0) (hP : Pat (σ.1 21) (σ.2.1 21) σ.2.2.1 (T 35 0) (T 36 0) (T 37 0) (σ.2.1 17 16 2) (σ.2.1 17 16 3) (pm (T 31 0) (T 33 0) s m) 6) (hmd : md < 5) (hq : q ≤ 40) (hq1 : md = 4 → 1 ≤ q) (a14 : σ.1 0 0 14 = nI md) (t11 : T 30 0 11 = nI md) (a15 : σ.1 0 0 15 = nI q) (t12 : T 30 0 12 = nI q) :
    ∃ (r : Int64) (σ' : xS) (τ' : yS), (xb (fA_doCheck N σ) fun r44 s45 => some (r44, s45)) = some (r, σ') ∧ (xb (fM_check_Z2 N T (nI s) (nI m)) fun r61 s62 => if r61 = 0 then (some (8796093022208, s62)) else (some (4398046511104, s62))) = some (r, τ') ∧ Rel (k + 1) σ' τ' := by
  obtain ⟨h0, h1, h2, h3, h4, h5, h6, h7, h8⟩ := id h
  obtain ⟨b1, b2, b3, b4, b5⟩ := id h4
  have hn6 := h1.1
  have hidx : 4 * ty + m < 12 := by omega
  have hct := h7.1
  obtain ⟨num, hnum⟩ : ∃ num : Int32, num = if md = 4 then T 30 0 31 else -1 := ⟨_, rfl⟩
  have hF0 : Fnd σ T (x_si σ 9 0 2 0) (y_si T 30 0 35 0) nc 0 0 := by
    refine ⟨fun r q9 _ _ => ?_, fun j hj => ?_, rfl, fun r q30 _ _ => ?_, fun j hj => ?_, Nat.le_refl 0, ?_, ?_, fun j hj => absurd hj (by omega)⟩
    · funext k j; rw [si_1, u3_r q9]
    · rw [si_1, u3_j hj]
    · funext k j; rw [yi_1, u3_r q30]
    · rw [yi_1, u3_j hj]
    · rw [si_1, u3_e]; rfl
    · rw [yi_1, u3_e]; rfl
  obtain ⟨Sf, Tf, f, w1, w2, w3⟩ := find_loop hN h4 x0 x1 hP hidx hp h31 hmd t11 hnum nc 0 N _ _ 0 0 (by omega) (by omega) hF0
  obtain ⟨c, hc⟩ : ∃ c, c = cn (T 39 0) (nI s) 0 nc := ⟨_, rfl⟩
  have hc40 : c ≤ 40 := by rw [hc]; have := cn_le (T 39 0) (nI s) nc 0; omega
  rw [Nat.zero_add, ← hc] at w2
  obtain ⟨g1, g2, g3, g4, g5, g6, g7, g8, g9⟩ := id w3
  have hf40 : f ≤ 40 := by omega
  obtain ⟨P, hPs⟩ : ∃ P, P = ps md q f c := ⟨_, rfl⟩
  -- the class up to the finding
  have eX : fA_doCheck N σ = fA_doCheck_17 N σ num := by
    unfold fA_doCheck
    by_cases z : md = 4
    · rw [if_pos ((cEq a14 (y := 4) (b := 4) rfl).mpr z), hnum, if_pos z, h8.1]
    · rw [if_neg (fun z' => z ((cEq a14 (y := 4) (b := 4) rfl).mp z')), hnum, if_neg z]
  have eF : fA_findAbove N σ num = some Sf := by
    unfold fA_findAbove
    rw [xl_e]; exact w1
  have S1r : ∀ r, ¬ r = 9 → (x_si Sf 9 0 3 1).1 r = Sf.1 r := fun r hr => by funext k j; rw [si_1, u3_r hr]
  have ePass : fA_passes N (x_si Sf 9 0 3 1) = some (b01 P) := by
    rw [hPs]
    refine pass_e (a := nI s) hmd hq hf40 hc40 ?_ ?_ ?_ ?_ ?_
    · rw [S1r 0 (by decide), g1 0 (by decide) (by decide) (by decide)]; exact a14
    · rw [S1r 0 (by decide), g1 0 (by decide) (by decide) (by decide)]; exact a15
    · rw [si_1, u3_j (by decide)]; exact g7
    · rw [S1r 17 (by decide), g1 17 (by decide) (by decide) (by decide)]; exact x0
    · unfold fB_manyOf
      have := B_many (N := N) (σ := x_si Sf 9 0 3 1) (t39 := T 39 0) (nc := nc) (a := nI s) b1 (by rw [S1r 6 (by decide), g1 6 (by decide) (by decide) (by decide)]; exact b2) (fun i hi => by rw [S1r 15 (by decide), g1 15 (by decide) (by decide) (by decide)]; exact (b5 i hi).2.1) nc 0 N 0 (by omega) (by omega)
      rw [Nat.zero_add, ← hc] at this
      exact this
  have P01 := b01_01 P
  have s94 : (x_si (x_si Sf 9 0 3 1) 9 0 4 (b01 P)).1 9 0 4 = b01 P := by rw [si_1, u3_e]
  -- the model up to the finding
  have eM : fM_check_Z2 N T (nI s) (nI m) = fM_check_Z2_272 N (y_si Tf 30 0 37 1) (nI (4 * ty + m)) (b01 P) := by
    unfold fM_check_Z2
    rw [M_shape_e (by omega) h33, xp_e, xl_e]
    have w2' : fM_check_Z2_18 N N (y_si T 30 0 35 0) (nI s) (nI m) (nI (4 * ty + m)) 0 0 = _ := w2
    rw [w2', chkEnd_e hmd hq hf40 hc40 (by rw [g5 11 (by decide)]; exact t11) (by rw [g5 12 (by decide)]; exact t12) g8, hPs]
  have u38 : (y_si (y_si Tf 30 0 37 1) 30 0 38 (b01 P)) 30 0 38 = b01 P := by rw [yi_1, u3_e]
  rw [eX, eM]
  unfold fA_doCheck_17 fM_check_Z2_272
  rw [eF, xp_e, xl_e, ePass, xp_e, if_pos P01, if_pos P01, xl_e, xl_e (y_si (y_si Tf 30 0 37 1) 30 0 38 (b01 P)), s94, u38]
  obtain ⟨S2, hS2⟩ : ∃ S2, S2 = x_si (x_si Sf 9 0 3 1) 9 0 4 (b01 P) := ⟨_, rfl⟩
  obtain ⟨U2, hU2⟩ : ∃ U2, U2 = y_si (y_si Tf 30 0 37 1) 30 0 38 (b01 P) := ⟨_, rfl⟩
  rw [← hS2, ← hU2]
  have a1 : ∀ r, ¬ r = 9 → S2.1 r = Sf.1 r := fun r hr => by rw [hS2]; funext k j; rw [si_1, u3_r hr, si_1, u3_r hr]
  have a2 : S2.2 = σ.2 := by rw [hS2]; exact g3
  have a92 : S2.1 9 0 2 = nI f := by rw [hS2, si_1, u3_j (by decide), si_1, u3_j (by decide)]; exact g7
  have a93 : S2.1 9 0 3 = 1 := by rw [hS2, si_1, u3_j (by decide), si_1, u3_e]
  have a94 : S2.1 9 0 4 = b01 P := by rw [hS2]; exact s94
  have c1 : ∀ r, ¬ r = 30 → U2 r = Tf r := fun r hr => by rw [hU2]; funext k j; rw [yi_1, u3_r hr, yi_1, u3_r hr]
  have c30 : ∀ j, ¬ j = 35 → ¬ j = 37 → ¬ j = 38 → U2 30 0 j = T 30 0 j := fun j q5 q7 q8 => by rw [hU2, yi_1, u3_j q8, yi_1, u3_j q7]; exact g5 j q5
  have c35 : U2 30 0 35 = nI f := by rw [hU2, yi_1, u3_j (by decide), yi_1, u3_j (by decide)]; exact g8
  have c37 : U2 30 0 37 = 1 := by rw [hU2, yi_1, u3_j (by decide), yi_1, u3_e]
  have c38 : U2 30 0 38 = b01 P := by rw [hU2]; exact u38
  clear hS2 hU2
  have seen0 : ∀ c, c < nc → S2.1 15 c 5 = U2 44 0 c ∧ (U2 44 0 c = 0 ∨ U2 44 0 c = 1) := fun c hc => by
    obtain ⟨-, -, -, -, -, -, -, d5, d5', -⟩ := b5 c hc
    rw [a1 15 (by decide), g1 15 (by decide) (by decide) (by decide), c1 44 (by decide), g4 44 (by decide) (by decide) (by decide)]
    exact ⟨d5, d5'⟩
  have q70 : Q7 ct (S2.1 12 0 1) (S2.1 12 0 2) (S2.1 12 0 3) (U2 30 0 36) (S2.1 13 0) (U2 54 0) := by
    rw [a1 12 (by decide), g1 12 (by decide) (by decide) (by decide), a1 13 (by decide), g1 13 (by decide) (by decide) (by decide), c30 36 (by decide) (by decide) (by decide), c1 54 (by decide), g4 54 (by decide) (by decide) (by decide)]
    exact h7.2
  cases hPP : P
  · -- broken
    rw [hPP] at a94 c38
    rw [show b01 false = 0 from rfl] at a94 c38 ⊢
    rw [if_pos rfl, if_pos rfl]
    unfold fA_doCheck_90
    have z94 : (x_si S2 0 0 12 0).1 9 0 4 = 0 := by rw [si_1, u3_r (by decide)]; exact a94
    rw [xl_e, z94, if_pos rfl, xb_e, xb_e, if_pos rfl]
    refine ⟨_, _, _, rfl, rfl, ⟨n, 0, pz, nc, tm, f, ct, 0, chk_fin h t9 (fun r q => ?_) (fun j q12 q16 => ?_) ?_ ?_ a2 (fun c j hj => ?_) (fun c hc => ?_) (fun r q => ?_) (fun j q => ?_) ?_ ?_ (by omega)⟩⟩
    · obtain ⟨q0, q9, q10, q11, q12, q13, q15⟩ := q
      rw [← g1 r q9 q10 q11, ← a1 r q9]; funext k j; rw [si_1, u3_r q0]
    · rw [si_1, u3_j q12, a1 0 (by decide), g1 0 (by decide) (by decide) (by decide)]
    · rw [si_1, u3_e]
    · rw [si_1, u3_j (by decide), a1 0 (by decide), g1 0 (by decide) (by decide) (by decide), c30 31 (by decide) (by decide) (by decide)]; exact h8.1
    · rw [si_1, u3_r (by decide), a1 15 (by decide), g1 15 (by decide) (by decide) (by decide)]
    · rw [si_1, u3_r (by decide)]; exact seen0 c hc
    · rw [c1 r q.1, g4 r q.1 q.2.2.1 q.2.2.2.1]
    · exact c30 j q.2.1 q.2.2.2.1 q.2.2.2.2
    · refine ⟨hf40, ?_, c35, ?_, Or.inr c37, ?_, Or.inl c38, fun j hj => ?_⟩
      · rw [si_1, u3_r (by decide)]; exact a92
      · rw [si_1, u3_r (by decide), c37]; exact a93
      · rw [si_1, u3_r (by decide), c38]; exact a94
      · obtain ⟨c, d1, d2, d3, d4, d5⟩ := g9 j hj
        rw [si_1, u3_r (by decide), a1 11 (by decide), c1 53 (by decide), d4, d5]
    · rw [si_1, u3_r (by decide), u3_r (by decide)]; exact q70
  · -- passed
    rw [hPP] at a94 c38 hPs
    rw [show b01 true = 1 from rfl] at a94 c38 ⊢
    rw [if_neg n10, if_neg n10]
    have go : ∀ (S4 : xS) (U4 : yS) (f4 : Nat), f4 ≤ f → (∀ r, ¬ r = 0 → ¬ r = 9 → S4.1 r = S2.1 r) → (∀ j, ¬ j = 16 → S4.1 0 0 j = σ.1 0 0 j) → S4.2 = σ.2 → S4.1 9 0 2 = nI f4 → S4.1 9 0 3 = 1 → S4.1 9 0 4 = 1 → (∀ r, ¬ r = 30 → U4 r = U2 r) → (∀ j, ¬ j = 31 → ¬ j = 35 → U4 30 0 j = U2 30 0 j) → U4 30 0 35 = nI f4 → S4.1 0 0 16 = U4 30 0 31 → ∃ (r : Int64) (σ' : xS) (τ' : yS), (xb (fA_doCheck_86 N S4) fun r44 s45 => some (r44, s45)) = some (r, σ') ∧ (xb (fM_check_Z2_320 N U4 (nI (4 * ty + m))) fun r61 s62 => if r61 = 0 then (some (8796093022208, s62)) else (some (4398046511104, s62))) = some (r, τ') ∧ Rel (k + 1) σ' τ' := by
      intro S4 U4 f4 hf4 x1' x0' x2' x92 x93 x94 y1 y30 y35 y31
      have xx : ∀ r, (¬ r = 0 ∧ ¬ r = 9 ∧ ¬ r = 10 ∧ ¬ r = 11) → S4.1 r = σ.1 r := fun r q => by rw [x1' r q.1 q.2.1, a1 r q.2.1, g1 r q.2.1 q.2.2.1 q.2.2.2]
      have yy : ∀ r, (¬ r = 30 ∧ ¬ r = 52 ∧ ¬ r = 53) → U4 r = T r := fun r q => by rw [y1 r q.1, c1 r q.1, g4 r q.1 q.2.1 q.2.2]
      have hSn : Sn S4 U4 S4 U4 nc ct := by
        refine ⟨fun _ _ _ _ => rfl, rfl, fun _ _ _ => rfl, fun _ _ _ _ => rfl, fun _ _ => rfl, fun c hc => ?_, ?_⟩
        · rw [x1' 15 (by decide) (by decide), y1 44 (by decide)]; exact seen0 c hc
        · rw [x1' 12 (by decide) (by decide), x1' 13 (by decide) (by decide), y30 36 (by decide) (by decide), y1 54 (by decide)]; exact q70
      obtain ⟨S5, U5, ct', v1, v2, v3, v4⟩ := see_loop hN (σ := S4) (τ := U4) (idx := 4 * ty + m) (p := pm (T 31 0) (T 33 0) s m) (nc := nc) (f := f4) b1 (by omega) hidx hp (by rw [yy 31 (by decide)]; exact h31) (by rw [xx 21 (by decide), x2', yy 35 (by decide), yy 36 (by decide), yy 37 (by decide)]; exact hP) (fun c hc => by
          obtain ⟨-, -, -, -, -, d3, d4, -⟩ := b5 c hc
          rw [xx 15 (by decide), yy 41 (by decide), yy 42 (by decide)]; exact ⟨d3, d4⟩) x92 y35 (fun j hj => by
          obtain ⟨c, d1, d2, d3, -⟩ := g9 j (by omega)
          exact ⟨c, d1, by rw [x1' 10 (by decide) (by decide), a1 10 (by decide)]; exact d2, by rw [y1 52 (by decide), c1 52 (by decide)]; exact d3⟩) f4 0 N S4 U4 ct (by omega) (by omega) (by omega) hSn
      obtain ⟨z1, z2, z3, z4, z5, z6, z7⟩ := v4
      unfold fA_doCheck_86 fA_seeAndCatch fM_check_Z2_320 fA_doCheck_90
      have v2' : fA_seeAndCatch_2 N N S4 0 = some S5 := v2
      have v3' : fM_check_Z2_323 N N U4 (nI (4 * ty + m)) 0 = some (1, U5) := v3
      have z94 : (x_si S5 0 0 12 0).1 9 0 4 = 1 := by rw [si_1, u3_r (by decide), z1 9 (by decide) (by decide) (by decide)]; exact x94
      rw [v2', xp_e, xl_e, z94, if_neg n10, xb_e, v3', xb_e, if_neg n10]
      refine ⟨_, _, _, rfl, rfl, ⟨n, 0, pz, nc, tm, f4, ct', 0, chk_fin h t9 (fun r q => ?_) (fun j q12 q16 => ?_) ?_ ?_ ?_ (fun c j hj => ?_) (fun c hc => ?_) (fun r q => ?_) (fun j q => ?_) ?_ ?_ (by omega)⟩⟩
      · obtain ⟨q0, q9, q10, q11, q12, q13, q15⟩ := q
        rw [← xx r ⟨q0, q9, q10, q11⟩, ← z1 r q12 q13 q15]; funext k j; rw [si_1, u3_r q0]
      · rw [si_1, u3_j q12, z1 0 (by decide) (by decide) (by decide)]; exact x0' j q16
      · rw [si_1, u3_e]
      · rw [si_1, u3_j (by decide), z1 0 (by decide) (by decide) (by decide), z5 31 (by decide)]; exact y31
      · rw [si_2, z2]; exact x2'
      · rw [si_1, u3_r (by decide), z3 c j hj, xx 15 (by decide)]
      · rw [si_1, u3_r (by decide)]; exact z6 c hc
      · rw [z4 r q.1 q.2.1 q.2.2.2.2, yy r ⟨q.1, q.2.2.1, q.2.2.2.1⟩]
      · rw [z5 j q.2.2.1, y30 j q.1 q.2.1, c30 j q.2.1 q.2.2.2.1 q.2.2.2.2]
      · have u37 : U5 30 0 37 = 1 := by rw [z5 37 (by decide), y30 37 (by decide) (by decide)]; exact c37
        have u38 : U5 30 0 38 = 1 := by rw [z5 38 (by decide), y30 38 (by decide) (by decide)]; exact c38
        refine ⟨by omega, ?_, ?_, ?_, Or.inr u37, ?_, Or.inr u38, fun j hj => ?_⟩
        · rw [si_1, u3_r (by decide), z1 9 (by decide) (by decide) (by decide)]; exact x92
        · rw [z5 35 (by decide)]; exact y35
        · rw [si_1, u3_r (by decide), z1 9 (by decide) (by decide) (by decide), u37]; exact x93
        · rw [si_1, u3_r (by decide), z1 9 (by decide) (by decide) (by decide), u38]; exact x94
        · obtain ⟨c, d1, d2, d3, d4, d5⟩ := g9 j (by omega)
          rw [si_1, u3_r (by decide), z1 11 (by decide) (by decide) (by decide), x1' 11 (by decide) (by decide), a1 11 (by decide), z4 53 (by decide) (by decide) (by decide), y1 53 (by decide), c1 53 (by decide), d4, d5]
      · rw [si_1, u3_r (by decide), u3_r (by decide)]; exact z7
    have e14 : S2.1 0 0 14 = nI md := by rw [a1 0 (by decide), g1 0 (by decide) (by decide) (by decide)]; exact a14
    have e15 : S2.1 0 0 15 = nI q := by rw [a1 0 (by decide), g1 0 (by decide) (by decide) (by decide)]; exact a15
    have e11 : U2 30 0 11 = nI md := by rw [c30 11 (by decide) (by decide) (by decide)]; exact t11
    have e12 : U2 30 0 12 = nI q := by rw [c30 12 (by decide) (by decide) (by decide)]; exact t12
    have e0 : ∀ j, S2.1 0 0 j = σ.1 0 0 j := fun j => by rw [a1 0 (by decide), g1 0 (by decide) (by decide) (by decide)]
    by_cases z : md = 4
    · have hqf : q ≤ f := by
        have := hPs
        rw [z] at this
        simp [ps] at this
        exact this
      have hq1' := hq1 z
      obtain ⟨cc, d1, d2, d3, d4, d5⟩ := g9 (q - 1) (by omega)
      rw [if_pos ((cEq e14 (y := 4) (b := 4) rfl).mpr z), if_pos ((cEq e11 (y := 4) (b := 4) rfl).mpr z), e15, e12]
      simp only [xl_e]
      have k15 : (x_si S2 9 0 2 (nI q)).1 0 0 15 - 1 = nI (q - 1) := by rw [si_1, u3_r (by decide), e15, show (1 : Int32) = nI 1 from rfl, pk_sub hq1']
      have k35 : (y_si U2 30 0 35 (nI q)) 30 0 35 - 1 = nI (q - 1) := by rw [yi_1, u3_e, show (1 : Int32) = nI 1 from rfl, pk_sub hq1']
      have k11 : (x_si S2 9 0 2 (nI q)).1 11 0 (q - 1) = T 38 0 cc := by rw [si_1, u3_r (by decide), a1 11 (by decide)]; exact d4
      have k52 : (y_si U2 30 0 35 (nI q)) 52 0 (q - 1) = nI cc := by rw [yi_1, u3_r (by decide), c1 52 (by decide)]; exact d3
      have k38 : (y_si U2 30 0 35 (nI q)) 38 0 cc = T 38 0 cc := by rw [yi_1, u3_r (by decide), c1 38 (by decide), g4 38 (by decide) (by decide) (by decide)]
      rw [k15, k35, if_pos (cIn rfl), if_pos (cIn rfl), cCl (a := q - 1) rfl, k11, k52, if_pos (cIn rfl), cCl (a := cc) rfl, k38]
      refine go _ _ q hqf (fun r q0 q9 => ?_) (fun j hj => ?_) ?_ ?_ ?_ ?_ (fun r q30 => ?_) (fun j q31 q35 => ?_) ?_ ?_
      · funext k j; rw [si_1, u3_r q0, si_1, u3_r q9]
      · rw [si_1, u3_j hj, si_1, u3_r (by decide)]; exact e0 j
      · exact a2
      · rw [si_1, u3_r (by decide), si_1, u3_e]
      · rw [si_1, u3_r (by decide), si_1, u3_j (by decide)]; exact a93
      · rw [si_1, u3_r (by decide), si_1, u3_j (by decide)]; exact a94
      · funext k j; rw [yi_1, u3_r q30, yi_1, u3_r q30]
      · rw [yi_1, u3_j q31, yi_1, u3_j q35]
      · rw [yi_1, u3_j (by decide), yi_1, u3_e]
      · rw [si_1, u3_e, yi_1, u3_e]
    · rw [if_neg (fun z' => z ((cEq e14 (y := 4) (b := 4) rfl).mp z')), if_neg (fun z' => z ((cEq e11 (y := 4) (b := 4) rfl).mp z'))]
      refine go S2 U2 f (Nat.le_refl f) (fun _ _ _ => rfl) (fun j _ => e0 j) a2 a92 a93 a94 (fun _ _ => rfl) (fun _ _ _ => rfl) c35 ?_
      rw [e0, c30 31 (by decide) (by decide) (by decide)]; exact h8.1
