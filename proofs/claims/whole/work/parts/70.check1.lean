/-! call: a check; what is found. -/
def cn (t39 : Nat → Int32) (a : Int32) : Nat → Nat → Nat
  | _, 0 => 0
  | i, j + 1 => (if t39 i = a then 1 else 0) + cn t39 a (i + 1) j
theorem cn_le (t39 : Nat → Int32) (a : Int32) : ∀ j i, cn t39 a i j ≤ j := by
  intro j
  induction j with
  | zero => intro i; exact Nat.le_refl 0
  | succ j ih =>
    intro i
    have := ih (i + 1)
    show (if t39 i = a then 1 else 0) + cn t39 a (i + 1) j ≤ j + 1
    split <;> omega
theorem B_many {N : Nat} {σ : xS} {t39 : Nat → Int32} {nc : Nat} {a : Int32} (hnc : nc ≤ 40) (h6 : σ.1 6 0 1 = nI nc) (h : ∀ i, i < nc → σ.1 15 i 1 = t39 i) : ∀ (j i fuel c : Nat), i + j = nc → j < fuel → fB_manyOf_4 N σ fuel a (nI c) (nI i) = some (nI (c + cn t39 a i j)) := by
  intro j
  induction j with
  | zero =>
    intro i fuel c hij hf
    obtain ⟨e, rfl⟩ : ∃ e, fuel = e + 1 := ⟨fuel - 1, by omega⟩
    unfold fB_manyOf_4 fB_manyOf_4b cn
    rw [if_pos ((cLe h6 (y := nI i) rfl).mpr (by omega)), Nat.add_zero]
  | succ j ih =>
    intro i fuel c hij hf
    obtain ⟨e, rfl⟩ : ∃ e, fuel = e + 1 := ⟨fuel - 1, by omega⟩
    unfold fB_manyOf_4 fB_manyOf_4b fB_manyOf_28 cn
    rw [if_neg (fun h => by have := (cLe h6 (y := nI i) rfl).mp h; omega), if_pos (cIn rfl), cCl rfl, h i (by omega), nI_1, nI_1]
    by_cases q : t39 i = a
    · rw [if_pos q, if_pos q, ih (i + 1) e (c + 1) (by omega) (by omega), Nat.add_assoc]
    · rw [if_neg q, if_neg q, ih (i + 1) e c (by omega) (by omega), Nat.zero_add]
def chkEnd (N : Nat) (τ : yS) (a3 a4 : Int32) : Option (Int32 × yS) :=
  xl (y_si τ 30 0 37 1) fun s90 =>
  if (s90 30 0 11) = 0 then
  (if (s90 30 0 35) = (s90 30 0 12) then
  (fM_check_Z2_272 N s90 a3 1)
  else
  (fM_check_Z2_272 N s90 a3 0))
  else
  (if (s90 30 0 11) = 2 then
  (if (s90 30 0 12) < (s90 30 0 35) then
  (fM_check_Z2_272 N s90 a3 0)
  else
  (fM_check_Z2_272 N s90 a3 1))
  else
  (if (s90 30 0 11) = 3 then
  (if (s90 30 0 35) = 1 then
  (if a4 = 1 then
  (fM_check_Z2_272 N s90 a3 1)
  else
  (fM_check_Z2_252 N s90 a3))
  else
  (fM_check_Z2_252 N s90 a3))
  else
  (if (s90 30 0 35) < (s90 30 0 12) then
  (fM_check_Z2_272 N s90 a3 0)
  else
  (fM_check_Z2_272 N s90 a3 1))))
/-- what both have found so far -/
def Fnd (σ : xS) (T : yS) (σi : xS) (τi : yS) (nc f i : Nat) : Prop := (∀ r, ¬ r = 9 → ¬ r = 10 → ¬ r = 11 → σi.1 r = σ.1 r) ∧ (∀ j, ¬ j = 2 → σi.1 9 0 j = σ.1 9 0 j) ∧ σi.2 = σ.2 ∧ (∀ r, ¬ r = 30 → ¬ r = 52 → ¬ r = 53 → τi r = T r) ∧ (∀ j, ¬ j = 35 → τi 30 0 j = T 30 0 j) ∧ f ≤ i ∧ σi.1 9 0 2 = nI f ∧ τi 30 0 35 = nI f ∧ ∀ j, j < f → ∃ c, c < nc ∧ σi.1 10 0 j = nI c ∧ τi 52 0 j = nI c ∧ σi.1 11 0 j = T 38 0 c ∧ τi 53 0 j = T 38 0 c
theorem F_add_e {σ : xS} {f : Nat} {a v : Int32} (h : σ.1 9 0 2 = nI f) (hf : f < 40) : fF_add σ a v = some (x_si (x_si (x_si σ 10 0 f a) 11 0 f v) 9 0 2 (nI (f + 1))) := by
  have e1 : (x_si σ 10 0 f a).1 9 0 2 = nI f := by rw [si_1, u3_r (by decide)]; exact h
  have e2 : (x_si (x_si σ 10 0 f a) 11 0 f v).1 9 0 2 = nI f := by rw [si_1, u3_r (by decide)]; exact e1
  unfold fF_add
  rw [if_neg (fun q => by have := (cLe (x := 40) (a := 40) rfl h).mp q; omega), h, if_pos (cIn rfl), cCl rfl, xl_e, e1, if_pos (cIn rfl), cCl rfl, xl_e, e2, nI_1, xl_e]
theorem Fnd.add {σ σi : xS} {T τi : yS} {nc f i c : Nat} (h : Fnd σ T σi τi nc f i) (hc : c < nc) : Fnd σ T (x_si (x_si (x_si σi 10 0 f (nI c)) 11 0 f (T 38 0 c)) 9 0 2 (nI (f + 1))) (y_si (y_si (y_si τi 52 0 f (nI c)) 53 0 f (T 38 0 c)) 30 0 35 (nI (f + 1))) nc (f + 1) (i + 1) := by
  obtain ⟨h1, h2, h3, h4, h5, h6, h7, h8, h9⟩ := h
  refine ⟨fun r q9 q10 q11 => ?_, fun j hj => ?_, h3, fun r q30 q52 q53 => ?_, fun j hj => ?_, by omega, ?_, ?_, fun j hj => ?_⟩
  · rw [← h1 r q9 q10 q11]; funext k j; rw [si_1, u3_r q9, si_1, u3_r q11, si_1, u3_r q10]
  · rw [si_1, u3_j hj, si_1, u3_r (by decide), si_1, u3_r (by decide)]; exact h2 j hj
  · rw [← h4 r q30 q52 q53]; funext k j; rw [yi_1, u3_r q30, yi_1, u3_r q53, yi_1, u3_r q52]
  · rw [yi_1, u3_j hj, yi_1, u3_r (by decide), yi_1, u3_r (by decide)]; exact h5 j hj
  · rw [si_1, u3_e]
  · rw [yi_1, u3_e]
  · by_cases hq : j = f
    · subst hq
      refine ⟨c, hc, ?_, ?_, ?_, ?_⟩
      · rw [si_1, u3_r (by decide), si_1, u3_r (by decide), si_1, u3_e]
      · rw [yi_1, u3_r (by decide), yi_1, u3_r (by decide), yi_1, u3_e]
      · rw [si_1, u3_r (by decide), si_1, u3_e]
      · rw [yi_1, u3_r (by decide), yi_1, u3_e]
    · obtain ⟨c', c1, c2, c3, c4, c5⟩ := h9 j (by omega)
      refine ⟨c', c1, ?_, ?_, ?_, ?_⟩
      · rw [si_1, u3_r (by decide), si_1, u3_r (by decide), si_1, u3_j hq]; exact c2
      · rw [yi_1, u3_r (by decide), yi_1, u3_r (by decide), yi_1, u3_j hq]; exact c3
      · rw [si_1, u3_r (by decide), si_1, u3_j hq, si_1, u3_r (by decide)]; exact c4
      · rw [yi_1, u3_r (by decide), yi_1, u3_j hq, yi_1, u3_r (by decide)]; exact c5
theorem Fnd.next {σ σi : xS} {T τi : yS} {nc f i : Nat} (h : Fnd σ T σi τi nc f i) : Fnd σ T σi τi nc f (i + 1) := by
  obtain ⟨h1, h2, h3, h4, h5, h6, h7⟩ := h
  exact ⟨h1, h2, h3, h4, h5, by omega, h7⟩
theorem find_loop {N kk : Nat} (hN : 64 ≤ N) {σ : xS} {T : yS} {n nc s m idx p md : Nat} {num : Int32} (h4 : P4 kk nc n (σ.1 6 0 1) (T 30 0 20) (σ.1 6 0 2) (T 30 0 21) (σ.1 15) (T 38 0) (T 39 0) (T 40 0) (T 41 0) (T 42 0) (T 43 0) (T 44 0)) (x0 : σ.1 17 16 0 = nI s) (x1 : σ.1 17 16 1 = nI m) (hP : Pat (σ.1 21) (σ.2.1 21) σ.2.2.1 (T 35 0) (T 36 0) (T 37 0) (σ.2.1 17 16 2) (σ.2.1 17 16 3) p 6) (hi : idx < 12) (hp : p ≤ 2) (h31 : T 31 0 idx = nI p) (hmd : md < 5) (t11 : T 30 0 11 = nI md) (hnum : num = if md = 4 then T 30 0 31 else -1) :
    ∀ (j i fuel : Nat) (σi : xS) (τi : yS) (f c : Nat), i + j = nc → j < fuel → Fnd σ T σi τi nc f i → ∃ (σf : xS) (τf : yS) (f' : Nat), fA_findAbove_10 N fuel σi num (nI i) = some σf ∧ fM_check_Z2_18 N fuel τi (nI s) (nI m) (nI idx) (nI c) (nI i) = chkEnd N τf (nI idx) (nI (c + cn (T 39 0) (nI s) i j)) ∧ Fnd σ T σf τf nc f' nc := by
  obtain ⟨b1, b2, b3, b4, b5⟩ := h4
  intro j
  induction j with
  | zero =>
    intro i fuel σi τi f c hij hf hF
    obtain ⟨e, rfl⟩ : ∃ e, fuel = e + 1 := ⟨fuel - 1, by omega⟩
    have hiq : i = nc := by omega
    subst hiq
    obtain ⟨h1, h2, h3, h4, h5, h6, h7⟩ := id hF
    have e6 : σi.1 6 0 1 = nI i := by rw [h1 6 (by decide) (by decide) (by decide)]; exact b2
    have e20 : τi 30 0 20 = nI i := by rw [h5 20 (by decide)]; exact b3
    refine ⟨σi, τi, f, ?_, ?_, hF⟩
    · unfold fA_findAbove_10 fA_findAbove_10b
      rw [if_pos ((cLe e6 (y := nI i) rfl).mpr (by omega))]
    · unfold fM_check_Z2_18 fM_check_Z2_18b cn chkEnd
      rw [if_pos ((cLe e20 (y := nI i) rfl).mpr (by omega)), Nat.add_zero]
  | succ j ih =>
    intro i fuel σi τi f c hij hf hF
    obtain ⟨e, rfl⟩ : ∃ e, fuel = e + 1 := ⟨fuel - 1, by omega⟩
    obtain ⟨h1, h2, h3, h4, h5, h6, h7, h8, h9⟩ := id hF
    obtain ⟨⟨d0, qn, dq, d38⟩, d1, ⟨s', ds, d39⟩, d2, ⟨m', dm, d40⟩, d3, d4, -⟩ := b5 i (by omega)
    have e6 : σi.1 6 0 1 = nI nc := by rw [h1 6 (by decide) (by decide) (by decide)]; exact b2
    have e20 : τi 30 0 20 = nI nc := by rw [h5 20 (by decide)]; exact b3
    have e15 : σi.1 15 = σ.1 15 := h1 15 (by decide) (by decide) (by decide)
    have e17 : σi.1 17 = σ.1 17 := h1 17 (by decide) (by decide) (by decide)
    have t38 : τi 38 = T 38 := h4 38 (by decide) (by decide) (by decide)
    have t39 : τi 39 = T 39 := h4 39 (by decide) (by decide) (by decide)
    have t40 : τi 40 = T 40 := h4 40 (by decide) (by decide) (by decide)
    have t41 : τi 41 = T 41 := h4 41 (by decide) (by decide) (by decide)
    have t42 : τi 42 = T 42 := h4 42 (by decide) (by decide) (by decide)
    have P' : Pat (σi.1 21) (σi.2.1 21) σi.2.2.1 (τi 35 0) (τi 36 0) (τi 37 0) (σi.2.1 17 16 2) (σi.2.1 17 16 3) p 6 := by
      rw [h1 21 (by decide) (by decide) (by decide), h3, h4 35 (by decide) (by decide) (by decide), h4 36 (by decide) (by decide) (by decide), h4 37 (by decide) (by decide) (by decide)]
      exact hP
    obtain ⟨v, v1, v2⟩ := pat_both hN (idx := idx) (σ := σi) (τ := τi) (by omega) hi hp (by rw [h4 31 (by decide) (by decide) (by decide)]; exact h31) P' (T 41 0 i) (T 42 0 i)
    have v2' : fM_matchesCall N τi 6 (nI idx) (T 41 0 i) (T 42 0 i) = some (b01 v) := v2
    have key : ∀ c' : Nat, c' = c + (if T 39 0 i = nI s then 1 else 0) → ∃ (σf : xS) (τf : yS) (f' : Nat), fA_findAbove_10 N (e + 1) σi num (nI i) = some σf ∧ fM_check_Z2_41 N (fM_check_Z2_18 N e) τi (nI s) (nI m) (nI idx) (nI c') (nI i) = chkEnd N τf (nI idx) (nI (c + cn (T 39 0) (nI s) i (j + 1))) ∧ Fnd σ T σf τf nc f' nc := by
      intro c' hc'
      have ecn : c + cn (T 39 0) (nI s) i (j + 1) = c' + cn (T 39 0) (nI s) (i + 1) j := by
        rw [hc']; show c + ((if T 39 0 i = nI s then 1 else 0) + cn (T 39 0) (nI s) (i + 1) j) = _
        omega
      rw [ecn]
      have e41 : fA_findAbove_10 N (e + 1) σi num (nI i) = fA_findAbove_10b N (fA_findAbove_10 N e) σi num (nI i) := rfl
      rw [e41]
      unfold fA_findAbove_10b fA_findAbove_62 fM_check_Z2_41 fM_check_Z2_113 fM_check_Z2_85 fM_check_Z2_113 fM_check_Z2_114 fM_check_Z2_161
      rw [if_neg (fun h => by have := (cLe e6 (y := nI i) rfl).mp h; omega), cCl (a := i) rfl, if_pos (cIn' (n := 40) (by omega)), if_pos (cIn' (n := 40) (by omega)), if_pos (cIn' (n := 40) (by omega)), e15, d0, t38, t39, t40, t41, t42, h5 11 (by decide), t11, h5 31 (by decide), v2', xp_e, if_pos rfl, nI_1]
      have skip : ∃ (σf : xS) (τf : yS) (f' : Nat), fA_findAbove_10 N e σi num (nI (i + 1)) = some σf ∧ fM_check_Z2_18 N e τi (nI s) (nI m) (nI idx) (nI c') (nI (i + 1)) = chkEnd N τf (nI idx) (nI (c' + cn (T 39 0) (nI s) (i + 1) j)) ∧ Fnd σ T σf τf nc f' nc := ih (i + 1) e σi τi f c' (by omega) (by omega) hF.next
      unfold fP_matches
      rw [if_pos (show i < 40 by omega), if_pos (show 16 < 17 by decide), e15, e17, d1, d2, d3, d4, x0, x1]
      by_cases hn : T 38 0 i ≤ num
      · rw [if_pos hn]
        have hmd4 : md = 4 := by
          by_cases q : md = 4
          · exact q
          · rw [if_neg q] at hnum
            rw [hnum, d38] at hn
            have := Int32.le_iff_toInt_le.mp hn
            rw [nI_toInt (by omega), show (-1 : Int32).toInt = -1 from rfl] at this
            omega
        rw [if_pos hmd4] at hnum
        rw [← hnum, if_pos hn, if_pos ((cEq (x := nI md) rfl (y := 4) (b := 4) rfl).mpr hmd4)]
        obtain ⟨σf, τf, f', w1, w2, w3⟩ := skip
        refine ⟨σf, τf, f', w1, ?_, w3⟩
        rw [← w2]
        split
        · split <;> rfl
        · rfl
      · rw [if_neg hn]
        by_cases hss : T 39 0 i = nI s
        · rw [if_pos hss, if_pos hss]
          by_cases hmm : T 40 0 i = nI m
          · rw [if_pos hmm, if_pos hmm, v1, xp_e]
            have e85 : ∀ X Y : Option (Int32 × yS), (if nI md = 4 then (if T 38 0 i ≤ T 30 0 31 then X else Y) else Y) = Y := by
              intro X Y
              by_cases q : md = 4
              · rw [if_pos ((cEq (x := nI md) rfl (y := 4) (b := 4) rfl).mpr q)]
                rw [if_pos q] at hnum
                rw [← hnum, if_neg hn]
              · rw [if_neg (fun q' => q ((cEq (x := nI md) rfl (y := 4) (b := 4) rfl).mp q'))]
            rw [e85]
            cases v
            · rw [show b01 false = 0 from rfl, if_pos rfl, if_pos rfl]
              exact skip
            · rw [show b01 true = 1 from rfl, if_neg n10, if_neg n10, if_neg n10, F_add_e h7 (by omega), xp_e, h8, if_pos (cIn rfl), cCl rfl, xl_e]
              have w35 : (y_si τi 52 0 f (nI i)) 30 0 35 = nI f := by rw [yi_1, u3_r (by decide)]; exact h8
              have w38 : (y_si τi 52 0 f (nI i)) 38 0 i = T 38 0 i := by rw [yi_1, u3_r (by decide), t38]
              have w35' : (y_si (y_si τi 52 0 f (nI i)) 53 0 f (T 38 0 i)) 30 0 35 = nI f := by rw [yi_1, u3_r (by decide)]; exact w35
              rw [if_pos (cIn' (n := 40) (by omega)), w35, if_pos (cIn rfl), cCl rfl, xl_e, w38, w35', nI_1, xl_e]
              exact ih (i + 1) e _ _ (f + 1) c' (by omega) (by omega) (hF.add (by omega))
          · rw [if_neg hmm, if_neg hmm, xp_e, if_pos rfl]
            exact skip
        · rw [if_neg hss, if_neg hss, xp_e, if_pos rfl]
          exact skip
    have e18 : fM_check_Z2_18 N (e + 1) τi (nI s) (nI m) (nI idx) (nI c) (nI i) = fM_check_Z2_18b N (fM_check_Z2_18 N e) τi (nI s) (nI m) (nI idx) (nI c) (nI i) := rfl
    rw [e18]
    unfold fM_check_Z2_18b
    rw [if_neg (fun h => by have := (cLe e20 (y := nI i) rfl).mp h; omega), if_pos (cIn rfl), cCl rfl, t39, nI_1]
    by_cases hss : T 39 0 i = nI s
    · rw [if_pos hss]
      exact key (c + 1) (by rw [if_pos hss])
    · rw [if_neg hss]
      exact key c (by rw [if_neg hss]; rfl)
