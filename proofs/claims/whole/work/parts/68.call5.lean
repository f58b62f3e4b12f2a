/-! call: which telling answers; the note. -/
theorem tell_for {N kk : Nat} (hN : 64 ≤ N) {σ : xS} {τ : yS} {n tm nc s m idx : Nat} {A B rl : Int32} (h5 : P5 tm n kk (σ.1 0 0 8) (τ 30 0 29) (σ.1 16) (σ.1 17) (σ.1 18) (σ.1 19) (σ.1 20) (σ.2.1 17) (σ.1 21) (σ.2.1 21) σ.2.2.1 (τ 35 0) (τ 36 0) (τ 37 0) (τ 31 0) (τ 33 0) (τ 45 0) (τ 46 0) (τ 47 0) (τ 48 0) (τ 49 0) (τ 50 0) (τ 51 0)) (hk : kk < 1000) (hn : n ≤ 6) (hnc : nc < 40) (hs : s < 6) (hm : m < 4) (x1 : σ.1 15 nc 1 = nI s) (x2 : σ.1 15 nc 2 = nI m) (x3 : σ.1 15 nc 3 = A) (x4 : σ.1 15 nc 4 = B) (hi : idx < 12) (hp : pm (τ 31 0) (τ 33 0) s m ≤ 2) (h31 : τ 31 0 idx = nI (pm (τ 31 0) (τ 33 0) s m)) :
    ∀ (i fuel : Nat), i ≤ tm → i < fuel → (fA_tellingFor_7 N σ fuel nc (nI i - 1) = some (-1) ∧ fM_answered_71 N fuel τ (nI nc) (nI s) (nI m) A B (nI idx) rl (nI i - 1) = (if τ 34 0 s = 0 then some (0, τ) else if τ 34 0 s = 1 then some (rl.toInt64, τ) else some (2199023255552, τ))) ∨
      ∃ t az us, t < i ∧ T5 n kk t (σ.1 16) (σ.1 17) (σ.1 18) (σ.1 19) (σ.1 20) (σ.2.1 17) (σ.1 21) (σ.2.1 21) σ.2.2.1 (τ 35 0) (τ 36 0) (τ 37 0) (τ 31 0) (τ 33 0) (τ 45 0) (τ 46 0) (τ 47 0) (τ 48 0) (τ 49 0) (τ 50 0) (τ 51 0) az us ∧ 1 ≤ az ∧ fA_tellingFor_7 N σ fuel nc (nI i - 1) = some (nI t) ∧ fM_answered_71 N fuel τ (nI nc) (nI s) (nI m) A B (nI idx) rl (nI i - 1) = fM_answered_181 N τ (nI nc) A B (nI idx) rl (nI t) (nI (min us (az - 1))) (nI (4 * t)) := by
  obtain ⟨g1, g2, g3, g4, g5⟩ := h5
  intro i
  induction i with
  | zero =>
    intro fuel hi' hf
    obtain ⟨e, rfl⟩ : ∃ e, fuel = e + 1 := ⟨fuel - 1, by omega⟩
    left
    unfold fA_tellingFor_7 fA_tellingFor_7b fM_answered_71 fM_answered_71b
    rw [if_pos (by decide), if_pos (by decide), if_pos (cIn rfl), cCl rfl]
    exact ⟨rfl, rfl⟩
  | succ i ih =>
    intro fuel hi' hf
    obtain ⟨e, rfl⟩ : ∃ e, fuel = e + 1 := ⟨fuel - 1, by omega⟩
    have ej : nI (i + 1) - 1 = nI i := by rw [show (1 : Int32) = nI 1 from rfl, pk_sub (by omega)]; rfl
    have ek : nI i + (-1) = nI i - 1 := by rw [Int32.sub_eq_add_neg]
    have ih' := ih e (by omega) (by omega)
    obtain ⟨az, us, hT⟩ := g4 i (by omega)
    obtain ⟨⟨s', m', b1, b2, b3, b4, b5, b6, b7⟩, f1, f2, f3, f4, f5, f6, f7, f8, f9, f10, f11⟩ := id hT
    have skip : ∀ (X : Option Int32) (Y : Option (Int64 × yS)), X = fA_tellingFor_7 N σ e nc (nI i - 1) → Y = fM_answered_71 N e τ (nI nc) (nI s) (nI m) A B (nI idx) rl (nI i - 1) → (X = some (-1) ∧ Y = (if τ 34 0 s = 0 then some (0, τ) else if τ 34 0 s = 1 then some (rl.toInt64, τ) else some (2199023255552, τ))) ∨
      ∃ t az us, t < i + 1 ∧ T5 n kk t (σ.1 16) (σ.1 17) (σ.1 18) (σ.1 19) (σ.1 20) (σ.2.1 17) (σ.1 21) (σ.2.1 21) σ.2.2.1 (τ 35 0) (τ 36 0) (τ 37 0) (τ 31 0) (τ 33 0) (τ 45 0) (τ 46 0) (τ 47 0) (τ 48 0) (τ 49 0) (τ 50 0) (τ 51 0) az us ∧ 1 ≤ az ∧ X = some (nI t) ∧ Y = fM_answered_181 N τ (nI nc) A B (nI idx) rl (nI t) (nI (min us (az - 1))) (nI (4 * t)) := by
      intro X Y hX hY
      rw [hX, hY]
      rcases ih' with ih' | ⟨t, az, us, c1, c2⟩
      · exact Or.inl ih'
      · exact Or.inr ⟨t, az, us, by omega, c2⟩
    have eX : fA_tellingFor_7 N σ (e + 1) nc (nI i) = fA_tellingFor_7b N (fA_tellingFor_7 N σ e) σ nc (nI i) := rfl
    have eM : fM_answered_71 N (e + 1) τ (nI nc) (nI s) (nI m) A B (nI idx) rl (nI i) = fM_answered_71b N (fM_answered_71 N e) τ (nI nc) (nI s) (nI m) A B (nI idx) rl (nI i) := rfl
    rw [ej, eX, eM]
    unfold fA_tellingFor_7b fA_tellingFor_44 fM_answered_71b fM_answered_289
    rw [if_neg (nI_pos (by omega)), if_neg (nI_pos (by omega)), cCl (a := i) rfl, if_pos (cIn' (n := 16) (by omega)), if_pos (show i < 17 by omega), if_pos (cIn' (n := 16) (by omega)), if_pos (cIn' (n := 17) (by omega)), ek]
    by_cases hz : az = 0
    · rw [if_pos ((cLe f2 (y := 0) (b := 0) rfl).mpr (by omega)), if_pos ((cEq f3 (y := 0) (b := 0) rfl).mpr hz)]
      refine skip _ _ rfl ?_
      split <;> rfl
    · have hg : τ 51 0 i = 0 := by
        rcases f11 with f11 | f11
        · exact f11
        · exact absurd f11.2 hz
      rw [if_neg (fun q => hz (by have := (cLe f2 (y := 0) (b := 0) rfl).mp q; omega)), if_pos hg, if_neg (fun q => hz ((cEq f3 (y := 0) (b := 0) rfl).mp q))]
      unfold fP_matches
      rw [if_pos hnc, if_pos (show i < 17 by omega), x1, x2, x3, x4, b3, b4, b5, b6]
      by_cases hss : s = s'
      · subst hss
        rw [if_pos rfl, if_pos rfl]
        by_cases hmm : m = m'
        · subst hmm
          rw [if_pos rfl, if_pos rfl]
          have e88 : (88 : Int32) + 2 * nI i = nI (88 + 2 * i) := by rw [show (88 : Int32) = nI 88 from rfl, show (2 : Int32) = nI 2 from rfl, pk_mul, nI_add]
          obtain ⟨v, v1, v2⟩ := pat_both hN (idx := idx) (by omega) hi hp h31 b7 A B
          rw [v1, xp_e, e88, v2, xp_e]
          cases v
          · rw [show b01 false = 0 from rfl, if_pos rfl, if_pos rfl]
            exact skip _ _ rfl rfl
          · rw [show b01 true = 1 from rfl, if_neg n10, if_neg n10]
            right
            refine ⟨i, az, us, by omega, hT, by omega, rfl, ?_⟩
            have e4 : (4 : Int32) * nI i = nI (4 * i) := by rw [show (4 : Int32) = nI 4 from rfl, pk_mul]
            rw [e4, f3, f7]
            by_cases hq : az ≤ us
            · rw [if_pos ((cLe (x := nI az) rfl (y := nI us) rfl).mpr hq), show nI az - 1 = nI (az - 1) by rw [show (1 : Int32) = nI 1 from rfl, pk_sub (by omega)], show min us (az - 1) = az - 1 by omega]
            · rw [if_neg (fun q => hq ((cLe (x := nI az) rfl (y := nI us) rfl).mp q)), show min us (az - 1) = us by omega]
        · have n1 : ¬ nI m = nI m' := fun q => hmm ((nI_eq (by omega) (by omega)).mp q)
          have n2 : ¬ nI m' = nI m := fun q => n1 q.symm
          rw [if_neg n1, if_neg n2, xp_e, if_pos rfl]
          exact skip _ _ rfl rfl
      · have n1 : ¬ nI s = nI s' := fun q => hss ((nI_eq (by omega) (by omega)).mp q)
        have n2 : ¬ nI s' = nI s := fun q => n1 q.symm
        rw [if_neg n1, if_neg n2, xp_e, if_pos rfl]
        exact skip _ _ rfl rfl
theorem note_fin {k : Nat} {σ σ' : xS} {T τ' : yS} {n pz nc tm fz ct s m : Nat} {A B rr : Int32} (h : R8 k σ T n 0 pz nc tm fz ct) (hk : k < 512) (hnc : nc < 40) (hs : s < n) (hm : m < 4) (x0 : σ.1 17 16 0 = nI s) (x1 : σ.1 17 16 1 = nI m) (hP : Pat (σ.1 21) (σ.2.1 21) σ.2.2.1 (T 35 0) (T 36 0) (T 37 0) (σ.2.1 17 16 2) (σ.2.1 17 16 3) (pm (T 31 0) (T 33 0) s m) 6) (hp : pm (T 31 0) (T 33 0) s m ≤ 2)
    (e1 : ∀ r, (¬ r = 0 ∧ ¬ r = 6 ∧ ¬ r = 15 ∧ ¬ r = 16) → σ'.1 r = σ.1 r) (e0 : ∀ j, ¬ j = 12 → σ'.1 0 0 j = σ.1 0 0 j) (e12 : σ'.1 0 0 12 = 1) (e2 : σ'.2 = σ.2) (e61 : σ'.1 6 0 1 = nI (nc + 1)) (e62 : σ'.1 6 0 2 = σ.1 6 0 2 + 1) (e15 : ∀ i, ¬ i = nc → σ'.1 15 i = σ.1 15 i) (c0 : σ'.1 15 nc 0 = σ.1 6 0 2) (c1 : σ'.1 15 nc 1 = nI s) (c2 : σ'.1 15 nc 2 = nI m) (c3 : σ'.1 15 nc 3 = A) (c4 : σ'.1 15 nc 4 = B) (c5 : σ'.1 15 nc 5 = 0) (c6 : σ'.1 15 nc 6 = rr)
    (f1 : ∀ r, (¬ r = 30 ∧ ¬ r = 35 ∧ ¬ r = 36 ∧ ¬ r = 37 ∧ ¬ r = 38 ∧ ¬ r = 39 ∧ ¬ r = 40 ∧ ¬ r = 41 ∧ ¬ r = 42 ∧ ¬ r = 43 ∧ ¬ r = 44 ∧ ¬ r = 48) → τ' r = T r) (f30 : ∀ j, ¬ j = 9 → τ' 30 0 j = if j = 21 then T 30 0 21 + 1 else if j = 20 then nI (nc + 1) else T 30 0 j) (f9 : τ' 30 0 9 = 1) (f38 : ∀ j, τ' 38 0 j = if j = nc then T 30 0 21 else T 38 0 j) (f39 : ∀ j, τ' 39 0 j = if j = nc then nI s else T 39 0 j) (f40 : ∀ j, τ' 40 0 j = if j = nc then nI m else T 40 0 j) (f41 : ∀ j, τ' 41 0 j = if j = nc then A else T 41 0 j) (f42 : ∀ j, τ' 42 0 j = if j = nc then B else T 42 0 j) (f43 : ∀ j, τ' 43 0 j = if j = nc then rr else T 43 0 j) (f44 : ∀ j, τ' 44 0 j = if j = nc then 0 else T 44 0 j)
    (fs : ∀ j, j < pm (T 31 0) (T 33 0) s m → sEq (T 35 0) (T 36 0) (T 37 0) (τ' 35 0) (τ' 36 0) (τ' 37 0) (6 + j) (8 + 2 * nc + j))
    (h5 : P5 tm n (k + 1) (σ.1 0 0 8) (T 30 0 29) (σ'.1 16) (σ.1 17) (σ.1 18) (σ.1 19) (σ.1 20) (σ.2.1 17) (σ.1 21) (σ.2.1 21) σ.2.2.1 (τ' 35 0) (τ' 36 0) (τ' 37 0) (T 31 0) (T 33 0) (T 45 0) (T 46 0) (T 47 0) (τ' 48 0) (T 49 0) (T 50 0) (T 51 0)) : Rl (k + 1) σ' τ' n 0 pz (nc + 1) tm fz ct 1 := by
  obtain ⟨h0, h1, h2, h3, h4, -, h6, h7, h8⟩ := h
  obtain ⟨b1, b2, b3, ⟨b4, nx, b5, b6⟩, b7⟩ := h4
  have g : ∀ j, (¬ j = 9 ∧ ¬ j = 20 ∧ ¬ j = 21) → τ' 30 0 j = T 30 0 j := fun j q => by rw [f30 j q.1, if_neg q.2.2, if_neg q.2.1]
  refine ⟨by rw [e2]; exact h0, ?_, ⟨by decide, ?_, ?_, fun i hi => absurd hi (by omega)⟩, ?_, ⟨by omega, e61, ?_, ⟨?_, nx + 1, by omega, ?_⟩, fun i hi => ?_⟩, ?_, ?_, ?_, ?_, ⟨by decide, e12, f9, fun _ => ⟨by omega, s, m, hs, hm, ?_, ?_, ?_, ?_, ?_⟩, fun q => absurd q (by decide), fun q => absurd q (by decide), fun q => absurd q (by decide), fun q => absurd q (by decide)⟩⟩
  · rw [e0 3 (by decide), g 4 (by decide), e1 14 (by decide), e1 2 (by decide), e1 3 (by decide), f1 31 (by decide), f1 32 (by decide), f1 33 (by decide), f1 34 (by decide)]; exact h1
  · rw [e1 4 (by decide)]; exact h2.2.1
  · rw [g 8 (by decide)]; exact h2.2.2.1
  · rw [e1 18 (by decide), e1 19 (by decide), e1 20 (by decide), f1 47 (by decide), f1 49 (by decide), f1 50 (by decide)]; exact h3
  · rw [f30 20 (by decide)]; rfl
  · rw [f30 21 (by decide), if_pos rfl, e62, b4]
  · rw [f30 21 (by decide), if_pos rfl, b6]; exact nI_1 nx
  · rw [f38, f39, f40, f41, f42, f43, f44]
    by_cases hq : i = nc
    · subst hq
      simp only [if_true]
      exact ⟨⟨c0.trans b4, nx, by omega, b6⟩, c1, ⟨s, hs, rfl⟩, c2, ⟨m, hm, rfl⟩, c3, c4, c5, Or.inl trivial, c6⟩
    · simp only [if_neg hq]
      rw [e15 i hq]
      exact b7 i (by omega)
  · rw [e0 8 (by decide), g 29 (by decide), e1 17 (by decide), e1 18 (by decide), e1 19 (by decide), e1 20 (by decide), e1 21 (by decide), e2, f1 31 (by decide), f1 33 (by decide), f1 45 (by decide), f1 46 (by decide), f1 47 (by decide), f1 49 (by decide), f1 50 (by decide), f1 51 (by decide)]
    exact h5
  · rw [e1 9 (by decide), e1 11 (by decide), g 35 (by decide), g 37 (by decide), g 38 (by decide), f1 53 (by decide)]; exact h6
  · rw [e1 12 (by decide), e1 13 (by decide), g 36 (by decide), f1 54 (by decide)]; exact h7.up (Nat.le_succ k)
  · rw [e0 16 (by decide), e0 17 (by decide), g 31 (by decide), g 30 (by decide)]; exact h8
  · rw [e1 17 (by decide)]; exact x0
  · rw [show nc + 1 - 1 = nc by omega, f39, if_pos rfl]
  · rw [e1 17 (by decide)]; exact x1
  · rw [show nc + 1 - 1 = nc by omega, f40, if_pos rfl]
  · rw [show nc + 1 - 1 = nc by omega, e1 21 (by decide), e2, f1 31 (by decide), f1 33 (by decide)]
    exact hP.to pEq.rfl' (fun q => fs 0 q) (fun q => fs 1 q)
