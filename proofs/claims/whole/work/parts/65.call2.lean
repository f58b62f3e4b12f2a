/-! call: what is asked. -/
theorem pEq.trans {I I' I'' : Nat → Nat → Int32} {P P' P'' : Nat → Nat → Option Nat} {L L' L'' : List Nat} (h : pEq I P L I' P' L') (g : pEq I' P' L' I'' P'' L'') : pEq I P L I'' P'' L'' := by
  intro a ha
  obtain ⟨h1, h2, h3⟩ := h a ha
  obtain ⟨g1, g2, g3⟩ := g a h1
  exact ⟨g1, g2.trans h2, g3.trans h3⟩
theorem mOf {σ : xS} {ss p i : Nat} {x : Int32} (h0 : P0 σ.2.2.1 σ.2.2.2) (h4 : σ.1 4 0 1 = nI ss) (hi : i < 2) (hp : p ≤ 2) (hs : ss = 0 ∨ ss = p) : ∃ o σ', fA_matcherOf σ (nI i) (nI p) x = some (o, σ') ∧ (∀ r, ¬ r = 21 → σ'.1 r = σ.1 r ∧ σ'.2.1 r = σ.2.1 r) ∧ pEq (σ.1 21) (σ.2.1 21) σ.2.2.1 (σ'.1 21) (σ'.2.1 21) σ'.2.2.1 ∧ P0 σ'.2.2.1 σ'.2.2.2 ∧ (p ≤ i → o = none) ∧ (i < p → (ss = 0 → xT (σ'.1 21) (σ'.2.1 21) σ'.2.2.1 1 o [(1, x)]) ∧ (¬ ss = 0 → o = σ.2.1 5 0 i)) := by
  unfold fA_matcherOf
  by_cases h1 : i < p
  · rw [if_pos ((cLt (x := nI i) rfl (y := nI p) rfl).mpr h1)]
    by_cases h2 : ss ≤ i
    · have hz : ss = 0 := by omega
      rw [if_pos ((cLe h4 (y := nI i) rfl).mpr h2), xl_e, H_init_e h0 (Or.inl ⟨rfl, rfl⟩) (Or.inl ⟨rfl, rfl⟩), xp_e]
      refine ⟨_, _, rfl, fun r hr => nwH_r hr, nwH_p h0, nwH_0 h0, fun q => absurd q (by omega), fun _ => ⟨fun _ => ?_, fun q => absurd hz q⟩⟩
      exact xT_one (σ := σ) (a := 1) (b := x) (by unfold lf; decide)
    · rw [if_neg (fun q => h2 ((cLe h4 (y := nI i) rfl).mp q)), if_pos (cIn rfl), cCl rfl]
      exact ⟨_, _, rfl, fun _ _ => ⟨rfl, rfl⟩, pEq.rfl', h0, fun q => absurd q (by omega), fun _ => ⟨fun q => absurd q (by omega), fun _ => rfl⟩⟩
  · rw [if_neg (fun q => h1 ((cLt (x := nI i) rfl (y := nI p) rfl).mp q))]
    exact ⟨_, _, rfl, fun _ _ => ⟨rfl, rfl⟩, pEq.rfl', h0, fun _ => rfl, fun q => absurd q h1⟩
def one (sz kd vl : Nat → Int32) (s : Nat) (x : Int32) : Prop := sz s = nI 1 ∧ kd (8 * s + 0) = 1 ∧ vl (8 * s + 0) = x
theorem one.to {sz kd vl sz' kd' vl' : Nat → Int32} {s s' : Nat} {x : Int32} (h : one sz kd vl s x) (g : sEq sz kd vl sz' kd' vl' s s') : one sz' kd' vl' s' x := by
  obtain ⟨h1, h2, h3⟩ := h
  obtain ⟨g1, g2⟩ := g
  obtain ⟨g3, g4⟩ := g2 1 0 h1 (by decide) (by decide)
  exact ⟨g1.trans h1, g3.trans h2, g4.trans h3⟩
/-- the model's end of a call -/
def cEnd (N : Nat) (τ : yS) (a1 a2 a8 a9 : Int32) : Option (Int64 × yS) :=
  if (τ 30 0 9) = 2 then
  (xp (fM_tell N (y_si (y_si τ 30 0 8 0) 30 0 9 0) a1 a2 6) fun s65 => some (0, s65))
  else
  (if (τ 30 0 9) = 3 then
  (xb (fM_check_Z2 N (y_si (y_si τ 30 0 8 0) 30 0 9 0) a1 a2) fun r61 s62 => if r61 = 0 then (some (8796093022208, s62)) else (some (4398046511104, s62)))
  else
  (xp (fM_note N (y_si (y_si τ 30 0 8 0) 30 0 9 0) a1 a2 a8 a9) fun s55 => xl (y_si s55 30 0 9 1) fun s56 => xb (fM_answered N s56 ((s56 30 0 20) - 1)) fun r58 s59 => some (r58, s59)))
theorem M_now {N : Nat} (hN : 64 ≤ N) {τ : yS} {ss p : Nat} {a1 a2 A B : Int32} (h8 : τ 30 0 8 = nI ss) (hp : p ≤ 2) (hs : ss = 0 ∨ ss = p) (hq : ∀ i, i < ss → ∃ q, q ≤ 8 ∧ τ 35 0 i = nI q) : ∀ (j i fuel : Nat) (τi : yS), i + j = p → j < fuel → (∀ r, ¬ r = 35 → ¬ r = 36 → ¬ r = 37 → τi r = τ r) → (∀ j, ¬ j = 6 → ¬ j = 7 → sEq (τ 35 0) (τ 36 0) (τ 37 0) (τi 35 0) (τi 36 0) (τi 37 0) j j) → (∀ j, j < i → (ss = 0 → one (τi 35 0) (τi 36 0) (τi 37 0) (6 + j) (if j = 0 then A else B)) ∧ (¬ ss = 0 → sEq (τ 35 0) (τ 36 0) (τ 37 0) (τi 35 0) (τi 36 0) (τi 37 0) j (6 + j))) →
    ∃ τ', fM_call_227 N fuel τi a1 a2 (nI p) A B (nI i) = cEnd N τ' a1 a2 A B ∧ (∀ r, ¬ r = 35 → ¬ r = 36 → ¬ r = 37 → τ' r = τ r) ∧ (∀ j, ¬ j = 6 → ¬ j = 7 → sEq (τ 35 0) (τ 36 0) (τ 37 0) (τ' 35 0) (τ' 36 0) (τ' 37 0) j j) ∧ (∀ j, j < p → (ss = 0 → one (τ' 35 0) (τ' 36 0) (τ' 37 0) (6 + j) (if j = 0 then A else B)) ∧ (¬ ss = 0 → sEq (τ 35 0) (τ 36 0) (τ 37 0) (τ' 35 0) (τ' 36 0) (τ' 37 0) j (6 + j))) := by
  intro j
  induction j with
  | zero =>
    intro i fuel τi hij hf g1 g2 g3
    obtain ⟨e, rfl⟩ : ∃ e, fuel = e + 1 := ⟨fuel - 1, by omega⟩
    have hiq : i = p := by omega
    subst hiq
    refine ⟨τi, ?_, g1, g2, g3⟩
    unfold fM_call_227 fM_call_227b cEnd
    have e9 : (y_si τi 30 0 8 0) 30 0 9 = τi 30 0 9 := by rw [yi_1, u3_j (by decide)]
    rw [if_pos ((cLe (x := nI i) rfl (y := nI i) rfl).mpr (by omega)), xl_e, xl_e, e9]
  | succ j ih =>
    intro i fuel τi hij hf g1 g2 g3
    obtain ⟨e, rfl⟩ : ∃ e, fuel = e + 1 := ⟨fuel - 1, by omega⟩
    have e6 : (6 : Int32) + nI i = nI (6 + i) := by rw [show (6 : Int32) = nI 6 from rfl, nI_add]
    have e48 : (8 : Int32) * nI (6 + i) = nI (8 * (6 + i)) := by rw [show (8 : Int32) = nI 8 from rfl, pk_mul]
    have h8' : τi 30 0 8 = nI ss := by rw [g1 30 (by decide) (by decide) (by decide)]; exact h8
    unfold fM_call_227 fM_call_227b
    rw [if_neg (fun h => by have := (cLe (x := nI p) rfl (y := nI i) rfl).mp h; omega), e6]
    by_cases hz : ss = 0
    · rw [if_pos ((cEq h8' (y := 0) (b := 0) rfl).mpr hz)]
      have sg : ∀ x : Int32, fM_single τi (nI (6 + i)) 1 x = some (y_si (y_si (y_si τi 35 0 (6 + i) 1) 36 0 (8 * (6 + i)) 1) 37 0 (8 * (6 + i)) x) := by
        intro x
        unfold fM_single
        rw [if_pos (cIn rfl), cCl rfl, e48]
        simp only [xl_e]
        rw [if_pos (cIn rfl), cCl rfl]
      have go : ∀ x : Int32, x = (if i = 0 then A else B) → ∃ τ', fM_call_260 N (fM_call_227 N e) τi a1 a2 (nI p) A B (nI i) x 1 (nI (6 + i)) = cEnd N τ' a1 a2 A B ∧ (∀ r, ¬ r = 35 → ¬ r = 36 → ¬ r = 37 → τ' r = τ r) ∧ (∀ j, ¬ j = 6 → ¬ j = 7 → sEq (τ 35 0) (τ 36 0) (τ 37 0) (τ' 35 0) (τ' 36 0) (τ' 37 0) j j) ∧ (∀ j, j < p → (ss = 0 → one (τ' 35 0) (τ' 36 0) (τ' 37 0) (6 + j) (if j = 0 then A else B)) ∧ (¬ ss = 0 → sEq (τ 35 0) (τ 36 0) (τ 37 0) (τ' 35 0) (τ' 36 0) (τ' 37 0) j (6 + j))) := by
        intro x hx
        unfold fM_call_260 fM_call_295
        rw [sg, xp_e, nI_1]
        have st : ∀ j, ¬ j = 6 + i → sEq (τi 35 0) (τi 36 0) (τi 37 0) ((y_si (y_si (y_si τi 35 0 (6 + i) 1) 36 0 (8 * (6 + i)) 1) 37 0 (8 * (6 + i)) x) 35 0) ((y_si (y_si (y_si τi 35 0 (6 + i) 1) 36 0 (8 * (6 + i)) 1) 37 0 (8 * (6 + i)) x) 36 0) ((y_si (y_si (y_si τi 35 0 (6 + i) 1) 36 0 (8 * (6 + i)) 1) 37 0 (8 * (6 + i)) x) 37 0) j j := by
          intro j hj
          refine ⟨?_, fun q k q1 q2 q3 => ?_⟩
          · simp [yi_1, u3_r, u3_j hj]
          · have : ¬ 8 * j + k = 8 * (6 + i) := by omega
            simp [yi_1, u3_r, u3_j this]
        refine ih (i + 1) e _ (by omega) (by omega) (fun r h5 h6 h7 => ?_) (fun j q6 q7 => (g2 j q6 q7).trans (st j (by omega))) (fun j hj => ⟨fun _ => ?_, fun q => absurd hz q⟩)
        · rw [← g1 r h5 h6 h7]; funext k j; simp [yi_1, u3, h5, h6, h7]
        · by_cases hji : j = i
          · subst hji
            refine ⟨?_, ?_, ?_⟩
            · simp [yi_1, u3_r, u3_e]; rfl
            · simp [yi_1, u3_r, u3_e]
            · simp [yi_1, u3_e]; exact hx
          · exact ((g3 j (by omega)).1 hz).to (st (6 + j) (by omega))
      by_cases hi : i = 0
      · rw [if_pos ((cEq (x := nI i) rfl (y := 0) (b := 0) rfl).mpr hi)]
        exact go A (by rw [if_pos hi])
      · rw [if_neg (fun q => hi ((cEq (x := nI i) rfl (y := 0) (b := 0) rfl).mp q))]
        exact go B (by rw [if_neg hi])
    · rw [if_neg (fun q => hz ((cEq h8' (y := 0) (b := 0) rfl).mp q)), if_pos (cIn (a := i) rfl), if_pos (cIn (a := 6 + i) rfl), cCl (a := i) rfl, cCl (a := 6 + i) rfl]
      obtain ⟨q, q1, q2⟩ := hq i (by omega)
      have q2' : τi 35 0 i = nI q := by rw [(g2 i (by omega) (by omega)).1]; exact q2
      obtain ⟨τ1, c1, c2, c3, c4⟩ := kp_step hN (τ := τi) (s := i) (d := 6 + i) (by omega) (by omega) (by omega) q2' q1
      unfold fM_call_295
      rw [q2', xl_e, c1, xp_e, nI_1]
      refine ih (i + 1) e τ1 (by omega) (by omega) (fun r h5 h6 h7 => (c2 r h5 h6 h7).trans (g1 r h5 h6 h7)) (fun j q6 q7 => (g2 j q6 q7).trans (c3 j (by omega))) (fun j hj => ⟨fun q => absurd q hz, fun _ => ?_⟩)
      by_cases hji : j = i
      · subst hji
        exact (g2 j (by omega) (by omega)).trans c4
      · exact ((g3 j (by omega)).2 hz).trans (c3 (6 + j) (by omega))
/-- all groups but that of the STATE, behind the asking -/
theorem R8.ask {kk : Nat} {σ σ' : xS} {τ τ' : yS} {n ss pz nc tm fz ct st : Nat} (h : Rl kk σ τ n ss pz nc tm fz ct st)
    (e1 : ∀ r, ¬ r = 4 → ¬ r = 17 → ¬ r = 21 → σ'.1 r = σ.1 r) (e17 : ∀ t, t < 16 → σ'.1 17 t = σ.1 17 t) (e2 : ∀ t, t < 16 → σ'.2.1 17 t = σ.2.1 17 t) (hp : pEq (σ.1 21) (σ.2.1 21) σ.2.2.1 (σ'.1 21) (σ'.2.1 21) σ'.2.2.1) (h0 : P0 σ'.2.2.1 σ'.2.2.2)
    (t1 : ∀ r, ¬ r = 30 → ¬ r = 35 → ¬ r = 36 → ¬ r = 37 → τ' r = τ r) (t30 : ∀ j, ¬ j = 8 → ¬ j = 9 → τ' 30 0 j = τ 30 0 j) (ts : ∀ j, 8 ≤ j → j < 120 → sEq (τ 35 0) (τ 36 0) (τ 37 0) (τ' 35 0) (τ' 36 0) (τ' 37 0) j j)
    (x4 : σ'.1 4 0 1 = 0) (y8 : τ' 30 0 8 = 0) : R8 kk σ' τ' n 0 pz nc tm fz ct := by
  obtain ⟨-, h1, h2, h3, h4, h5, h6, h7, h8, h9⟩ := h
  have x : ∀ r, (¬ r = 4 ∧ ¬ r = 17 ∧ ¬ r = 21) → σ'.1 r = σ.1 r := fun r q => e1 r q.1 q.2.1 q.2.2
  have y : ∀ r, (¬ r = 30 ∧ ¬ r = 35 ∧ ¬ r = 36 ∧ ¬ r = 37) → τ' r = τ r := fun r q => t1 r q.1 q.2.1 q.2.2.1 q.2.2.2
  refine ⟨h0, ?_, ⟨by decide, x4, y8, fun i hi => absurd hi (by omega)⟩, ?_, ?_, ?_, ?_, ?_, ?_⟩
  · rw [x 0 (by decide), t30 4 (by decide) (by decide), x 14 (by decide), x 2 (by decide), x 3 (by decide), y 31 (by decide), y 32 (by decide), y 33 (by decide), y 34 (by decide)]; exact h1
  · rw [x 18 (by decide), x 19 (by decide), x 20 (by decide), y 47 (by decide), y 49 (by decide), y 50 (by decide)]; exact h3
  · rw [x 6 (by decide), t30 20 (by decide) (by decide), t30 21 (by decide) (by decide), x 15 (by decide), y 38 (by decide), y 39 (by decide), y 40 (by decide), y 41 (by decide), y 42 (by decide), y 43 (by decide), y 44 (by decide)]; exact h4
  · rw [x 0 (by decide), t30 29 (by decide) (by decide), x 16 (by decide), x 18 (by decide), x 19 (by decide), x 20 (by decide), y 31 (by decide), y 33 (by decide), y 45 (by decide), y 46 (by decide), y 47 (by decide), y 48 (by decide), y 49 (by decide), y 50 (by decide), y 51 (by decide)]
    exact P5.congr h5 (fun _ _ => rfl) e17 (fun _ _ => rfl) (fun _ _ => rfl) (fun _ _ => rfl) e2 (fun f g p slot q1 q2 q => q.to hp (fun _ => ts _ (by omega) (by omega)) (fun _ => ts _ (by omega) (by omega))) (fun _ _ _ _ => rfl) (fun _ _ => rfl) (fun _ _ => rfl) (fun _ _ => rfl) (fun _ _ => rfl) (fun _ _ => rfl) (fun _ _ => rfl) (fun _ _ => rfl)
  · rw [x 9 (by decide), x 11 (by decide), t30 35 (by decide) (by decide), t30 37 (by decide) (by decide), t30 38 (by decide) (by decide), y 53 (by decide)]; exact h6
  · rw [x 12 (by decide), x 13 (by decide), t30 36 (by decide) (by decide), y 54 (by decide)]; exact h7
  · rw [x 0 (by decide), t30 31 (by decide) (by decide), t30 30 (by decide) (by decide)]; exact h8
/-- both ask alike -/
theorem call_now {N k : Nat} (hN : 64 ≤ N) {σ : xS} {τ : yS} {n ss pz nc tm fz ct st s m idx p : Nat} {A B : Int32} (h : Rl k σ τ n ss pz nc tm fz ct st) (hi : idx < 12) (h14 : σ.1 14 idx 0 = nI p) (hp : p ≤ 2) (hs : ss = 0 ∨ ss = p) :
    ∃ (σ2 : xS) (τ1 : yS), fA_call_92 N σ (nI s) (nI m) idx A B = (if σ2.1 0 0 12 = 2 then (xb (fA_tellPrepared N σ2) fun r47 s48 => some (r47, s48)) else (if σ2.1 0 0 12 = 3 then (xb (fA_doCheck N σ2) fun r44 s45 => some (r44, s45)) else (xb (fA_noteAndAnswer N σ2 idx A B) fun r41 s42 => some (r41, s42)))) ∧ fM_call_227 N N τ (nI s) (nI m) (nI p) A B 0 = cEnd N τ1 (nI s) (nI m) A B ∧ τ1 30 0 9 = τ 30 0 9 ∧ R8 k σ2 (y_si (y_si τ1 30 0 8 0) 30 0 9 0) n 0 pz nc tm fz ct ∧ Pat (σ2.1 21) (σ2.2.1 21) σ2.2.2.1 (τ1 35 0) (τ1 36 0) (τ1 37 0) (σ2.2.1 17 16 2) (σ2.2.1 17 16 3) p 6 ∧ σ2.1 17 16 0 = nI s ∧ σ2.1 17 16 1 = nI m ∧ (∀ r, ¬ r = 4 → ¬ r = 17 → ¬ r = 21 → σ2.1 r = σ.1 r) ∧ (∀ r, ¬ r = 35 → ¬ r = 36 → ¬ r = 37 → τ1 r = τ r) := by
  have h0 := h.1
  obtain ⟨k1, k2, k3, k4⟩ := h.2.2.1
  obtain ⟨τ1, m1, m2, m3, m4⟩ := M_now hN (τ := τ) (ss := ss) (p := p) (a1 := nI s) (a2 := nI m) (A := A) (B := B) k3 hp hs (fun i hi => by obtain ⟨q, -, q2, q3⟩ := (k4 i hi).size; exact ⟨q, q2, q3⟩) p 0 N τ (by omega) (by omega) (fun _ _ _ _ => rfl) (fun _ _ _ => sEq.rfl') (fun j hj => absurd hj (by omega))
  obtain ⟨S, hS⟩ : ∃ S, S = x_si (x_si σ 17 16 0 (nI s)) 17 16 1 (nI m) := ⟨_, rfl⟩
  have S1 : ∀ r, ¬ r = 17 → S.1 r = σ.1 r := fun r hr => by rw [hS]; funext k j; rw [si_1, u3_r hr, si_1, u3_r hr]
  have S2 : S.2 = σ.2 := by rw [hS]; rfl
  have S17 : ∀ t, t < 16 → S.1 17 t = σ.1 17 t := fun t ht => by rw [hS, si_1, u3_k (by omega), si_1, u3_k (by omega)]
  have S0 : S.1 17 16 0 = nI s := by rw [hS, si_1, u3_j (by decide), si_1, u3_e]
  have S1' : S.1 17 16 1 = nI m := by rw [hS, si_1, u3_e]
  obtain ⟨o1, σa, a1, a2, a3, a4, a5, a6⟩ := mOf (σ := S) (ss := ss) (p := p) (i := 0) (x := A) (by rw [S2]; exact h0) (by rw [S1 4 (by decide)]; exact k2) (by decide) hp hs
  have hb4 : (x_sp σa 17 16 2 o1).1 4 0 1 = nI ss := by rw [sp_1, (a2 4 (by decide)).1, S1 4 (by decide)]; exact k2
  obtain ⟨o2, σb, b1, b2, b3, b4, b5, b6⟩ := mOf (σ := x_sp σa 17 16 2 o1) (ss := ss) (p := p) (i := 1) (x := B) (by rw [sp_22]; exact a4) hb4 (by decide) hp hs
  have i14 : S.1 14 idx 0 = nI p := by rw [S1 14 (by decide)]; exact h14
  have i14' : (x_sp σa 17 16 2 o1).1 14 idx 0 = nI p := by rw [sp_1, (a2 14 (by decide)).1]; exact i14
  have hab : pEq (σ.1 21) (σ.2.1 21) σ.2.2.1 (σa.1 21) (σa.2.1 21) σa.2.2.1 := by
    have := a3
    rw [S1 21 (by decide), S2] at this
    exact this
  have hbc : pEq (σa.1 21) (σa.2.1 21) σa.2.2.1 (σb.1 21) (σb.2.1 21) σb.2.2.1 := by
    have := b3
    rw [sp_1, sp_22, sp_21] at this
    rw [show u3 σa.2.1 17 16 2 o1 21 = σa.2.1 21 from by funext k j; rw [u3_r (by decide)]] at this
    exact this
  have hz1 : (x_si (x_sp σb 17 16 3 o2) 4 0 1 0).1 21 = σb.1 21 := by funext k j; rw [si_1, u3_r (by decide), sp_1]
  have hz2 : (x_si (x_sp σb 17 16 3 o2) 4 0 1 0).2.1 21 = σb.2.1 21 := by funext k j; rw [si_2, sp_21, u3_r (by decide)]
  have hz3 : (x_si (x_sp σb 17 16 3 o2) 4 0 1 0).2.2 = σb.2.2 := rfl
  refine ⟨x_si (x_sp σb 17 16 3 o2) 4 0 1 0, τ1, ?_, m1, by rw [m2 30 (by decide) (by decide) (by decide)], ?_, ?_, ?_, ?_, ?_, m2⟩
  · unfold fA_call_92
    rw [xl_e, xl_e, ← hS, if_pos hi, i14]
    have a1' : fA_matcherOf S 0 (nI p) A = some (o1, σa) := a1
    rw [a1', xb_e, xl_e, i14']
    have b1' : fA_matcherOf (x_sp σa 17 16 2 o1) 1 (nI p) B = some (o2, σb) := b1
    rw [b1', xb_e, xl_e, xl_e]
  · refine R8.ask h (fun r q4 q17 q21 => ?_) (fun t ht => ?_) (fun t ht => ?_) ?_ ?_ (fun r q30 q35 q36 q37 => ?_) (fun j q8 q9 => ?_) (fun j q1 q2 => ?_) ?_ ?_
    · funext k j; rw [si_1, u3_r q4, sp_1, (b2 r q21).1, sp_1, (a2 r q21).1, S1 r q17]
    · rw [si_1, u3_r (by decide), sp_1, (b2 17 (by decide)).1, sp_1, (a2 17 (by decide)).1, S17 t ht]
    · rw [si_2, sp_21, u3_k (by omega), (b2 17 (by decide)).2, sp_21, u3_k (by omega), (a2 17 (by decide)).2, S2]
    · rw [hz1, hz2, hz3]; exact hab.trans hbc
    · rw [hz3]; exact b4
    · funext k j; rw [yi_1, u3_r q30, yi_1, u3_r q30, m2 r q35 q36 q37]
    · rw [yi_1, u3_j q9, yi_1, u3_j q8, m2 30 (by decide) (by decide) (by decide)]
    · have := m3 j (by omega) (by omega)
      simpa [yi_1, u3_r] using this
    · rw [si_1, u3_e]
    · rw [yi_1, u3_j (by decide), yi_1, u3_e]
  · have f2 : (x_si (x_sp σb 17 16 3 o2) 4 0 1 0).2.1 17 16 2 = o1 := by rw [si_2, sp_21, u3_j (by decide), (b2 17 (by decide)).2, sp_21, u3_e]
    have f3 : (x_si (x_sp σb 17 16 3 o2) 4 0 1 0).2.1 17 16 3 = o2 := by rw [si_2, sp_21, u3_e]
    rw [f2, f3, hz1, hz2, hz3]
    refine ⟨fun q => ?_, fun q => ?_, fun q => a5 (by omega), fun q => b5 (by omega)⟩
    · obtain ⟨c1, c2⟩ := a6 q
      obtain ⟨d1, d2⟩ := m4 0 q
      by_cases hz : ss = 0
      · obtain ⟨w1, w2, w3⟩ := d1 hz
        refine ⟨[(1, A)], xT.to hbc _ _ _ (c1 hz), by simp, w1, fun k hk => ?_⟩
        have hk0 : k = 0 := by simpa using hk
        subst hk0
        rw [w2, w3]; rfl
      · have := c2 hz
        rw [S2] at this
        rw [this]
        exact (k4 0 (by omega)).to (hab.trans hbc) (d2 hz)
    · obtain ⟨c1, c2⟩ := b6 q
      obtain ⟨d1, d2⟩ := m4 1 q
      by_cases hz : ss = 0
      · obtain ⟨w1, w2, w3⟩ := d1 hz
        refine ⟨[(1, B)], c1 hz, by simp, w1, fun k hk => ?_⟩
        have hk0 : k = 0 := by simpa using hk
        subst hk0
        rw [w2, w3]; rfl
      · have := c2 hz
        rw [sp_21, show u3 σa.2.1 17 16 2 o1 5 0 1 = σa.2.1 5 0 1 from by rw [u3_r (by decide)], (a2 5 (by decide)).2, S2] at this
        rw [this]
        exact (k4 1 (by omega)).to (hab.trans hbc) (d2 hz)
  · rw [si_1, u3_r (by decide), sp_1, (b2 17 (by decide)).1, sp_1, (a2 17 (by decide)).1]; exact S0
  · rw [si_1, u3_r (by decide), sp_1, (b2 17 (by decide)).1, sp_1, (a2 17 (by decide)).1]; exact S1'
  · intro r q4 q17 q21
    funext k j; rw [si_1, u3_r q4, sp_1, (b2 r q21).1, sp_1, (a2 r q21).1, S1 r q17]
