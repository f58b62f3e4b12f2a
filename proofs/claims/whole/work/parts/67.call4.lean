/-! call: noted and answered. -/
theorem B_add_e {σ : xS} {nc : Nat} {A B : Int32} (h1 : σ.1 6 0 1 = nI nc) (hnc : nc < 40) : ∃ σ', fB_add σ 16 A B = some (nc, σ') ∧ (∀ r, ¬ r = 6 → ¬ r = 15 → σ'.1 r = σ.1 r) ∧ σ'.2 = σ.2 ∧ σ'.1 6 0 1 = nI (nc + 1) ∧ σ'.1 6 0 2 = σ.1 6 0 2 + 1 ∧ (∀ i, ¬ i = nc → σ'.1 15 i = σ.1 15 i) ∧ σ'.1 15 nc 0 = σ.1 6 0 2 ∧ σ'.1 15 nc 1 = σ.1 17 16 0 ∧ σ'.1 15 nc 2 = σ.1 17 16 1 ∧ σ'.1 15 nc 3 = A ∧ σ'.1 15 nc 4 = B ∧ σ'.1 15 nc 5 = 0 := by
  unfold fB_add
  rw [h1, if_pos (cIn rfl), cCl rfl, xl_e, if_pos (show 16 < 17 by decide)]
  simp only [xl_e]
  refine ⟨_, rfl, fun r q6 q15 => ?_, rfl, ?_, ?_, fun i hi => ?_, ?_, ?_, ?_, ?_, ?_, ?_⟩
  · funext k j; simp [si_1, u3, q6, q15]
  · simp [si_1, u3, h1]; exact nI_1 nc
  · simp [si_1, u3]
  · simp [si_1, u3_r, u3_k hi]
  · simp [si_1, u3]
  · simp [si_1, u3]
  · simp [si_1, u3]
  · simp [si_1, u3]
  · simp [si_1, u3]
  · simp [si_1, u3]
theorem note_e {N : Nat} (hN : 64 ≤ N) {τ : yS} {nc s m ty p : Nat} {A B : Int32} (hnc : nc < 40) (h20 : τ 30 0 20 = nI nc) (hs : s < 6) (hm : m < 4) (hty : τ 33 0 s = nI ty) (hty3 : ty < 3) (h31 : τ 31 0 (4 * ty + m) = nI p) (hp : p ≤ 2) (hq : ∀ i, i < p → ∃ q, q ≤ 8 ∧ τ 35 0 (6 + i) = nI q) :
    ∃ τ', fM_note N τ (nI s) (nI m) A B = some τ' ∧ (∀ r, (¬ r = 30 ∧ ¬ r = 35 ∧ ¬ r = 36 ∧ ¬ r = 37 ∧ ¬ r = 38 ∧ ¬ r = 39 ∧ ¬ r = 40 ∧ ¬ r = 41 ∧ ¬ r = 42 ∧ ¬ r = 43 ∧ ¬ r = 44) → τ' r = τ r) ∧ (∀ j, τ' 30 0 j = if j = 21 then τ 30 0 21 + 1 else if j = 20 then nI (nc + 1) else τ 30 0 j) ∧ (∀ j, τ' 38 0 j = if j = nc then τ 30 0 21 else τ 38 0 j) ∧ (∀ j, τ' 39 0 j = if j = nc then nI s else τ 39 0 j) ∧ (∀ j, τ' 40 0 j = if j = nc then nI m else τ 40 0 j) ∧ (∀ j, τ' 41 0 j = if j = nc then A else τ 41 0 j) ∧ (∀ j, τ' 42 0 j = if j = nc then B else τ 42 0 j) ∧ (∀ j, τ' 43 0 j = if j = nc then -1 else τ 43 0 j) ∧ (∀ j, τ' 44 0 j = if j = nc then 0 else τ 44 0 j) ∧ (∀ j, (j < 8 + 2 * nc ∨ 8 + 2 * nc + 2 ≤ j) → sEq (τ 35 0) (τ 36 0) (τ 37 0) (τ' 35 0) (τ' 36 0) (τ' 37 0) j j) ∧ (∀ j, j < p → sEq (τ 35 0) (τ 36 0) (τ 37 0) (τ' 35 0) (τ' 36 0) (τ' 37 0) (6 + j) (8 + 2 * nc + j)) := by
  unfold fM_note
  have e88 : (8 : Int32) + 2 * nI nc = nI (8 + 2 * nc) := by rw [show (8 : Int32) = nI 8 from rfl, show (2 : Int32) = nI 2 from rfl, pk_mul, nI_add]
  rw [h20, nI_1, e88, xl_e, if_pos (cIn rfl), cCl rfl]
  simp only [xl_e]
  have e21 : (y_si τ 30 0 20 (nI (nc + 1))) 30 0 21 = τ 30 0 21 := by rw [yi_1, u3_j (by decide)]
  have e21' : (y_si (y_si τ 30 0 20 (nI (nc + 1))) 38 0 nc (τ 30 0 21)) 30 0 21 = τ 30 0 21 := by rw [yi_1, u3_r (by decide)]; exact e21
  rw [e21, e21']
  obtain ⟨X, hX⟩ : ∃ X, X = y_si (y_si (y_si (y_si (y_si (y_si (y_si (y_si (y_si τ 30 0 20 (nI (nc + 1))) 38 0 nc (τ 30 0 21)) 30 0 21 (τ 30 0 21 + 1)) 39 0 nc (nI s)) 40 0 nc (nI m)) 41 0 nc A) 42 0 nc B) 44 0 nc 0) 43 0 nc (-1) := ⟨_, rfl⟩
  rw [← hX]
  have X1 : ∀ r, (¬ r = 30 ∧ ¬ r = 38 ∧ ¬ r = 39 ∧ ¬ r = 40 ∧ ¬ r = 41 ∧ ¬ r = 42 ∧ ¬ r = 43 ∧ ¬ r = 44) → X r = τ r := fun r q => by
    obtain ⟨q1, q2, q3, q4, q5, q6, q7, q8⟩ := q
    rw [hX]; funext k j; simp [yi_1, u3, q1, q2, q3, q4, q5, q6, q7, q8]
  have X30 : ∀ j, X 30 0 j = if j = 21 then τ 30 0 21 + 1 else if j = 20 then nI (nc + 1) else τ 30 0 j := fun j => by rw [hX]; simp [yi_1, u3]
  have X38 : ∀ j, X 38 0 j = if j = nc then τ 30 0 21 else τ 38 0 j := fun j => by rw [hX]; simp [yi_1, u3]
  have X39 : ∀ j, X 39 0 j = if j = nc then nI s else τ 39 0 j := fun j => by rw [hX]; simp [yi_1, u3]
  have X40 : ∀ j, X 40 0 j = if j = nc then nI m else τ 40 0 j := fun j => by rw [hX]; simp [yi_1, u3]
  have X41 : ∀ j, X 41 0 j = if j = nc then A else τ 41 0 j := fun j => by rw [hX]; simp [yi_1, u3]
  have X42 : ∀ j, X 42 0 j = if j = nc then B else τ 42 0 j := fun j => by rw [hX]; simp [yi_1, u3]
  have X43 : ∀ j, X 43 0 j = if j = nc then -1 else τ 43 0 j := fun j => by rw [hX]; simp [yi_1, u3]
  have X44 : ∀ j, X 44 0 j = if j = nc then 0 else τ 44 0 j := fun j => by rw [hX]; simp [yi_1, u3]
  clear hX
  obtain ⟨τ1, k1, k2, k3, k4⟩ := keep_e hN (τ := X) (a1 := 6) (a2 := 8 + 2 * nc) (p := p) (by omega) (by omega) (by omega) hp (fun i hi => by rw [X1 35 (by decide)]; exact hq i hi)
  have k1' : fM_keep N X 6 (nI (8 + 2 * nc)) (nI p) = some τ1 := k1
  rw [M_shape_e hs (by rw [X1 33 (by decide)]; exact hty), xp_e, if_pos (cIn rfl), cCl rfl, X1 31 (by decide), h31, k1', xp_e]
  have k : ∀ r, (¬ r = 35 ∧ ¬ r = 36 ∧ ¬ r = 37) → τ1 r = X r := fun r q => k2 r q.1 q.2.1 q.2.2
  refine ⟨_, rfl, fun r q => ?_, fun j => ?_, fun j => ?_, fun j => ?_, fun j => ?_, fun j => ?_, fun j => ?_, fun j => ?_, fun j => ?_, fun j hj => ?_, fun j hj => ?_⟩
  · obtain ⟨q1, q2, q3, q4, q5, q6, q7, q8, q9, q10, q11⟩ := q
    rw [k r ⟨q2, q3, q4⟩, X1 r ⟨q1, q5, q6, q7, q8, q9, q10, q11⟩]
  · rw [k 30 (by decide)]; exact X30 j
  · rw [k 38 (by decide)]; exact X38 j
  · rw [k 39 (by decide)]; exact X39 j
  · rw [k 40 (by decide)]; exact X40 j
  · rw [k 41 (by decide)]; exact X41 j
  · rw [k 42 (by decide)]; exact X42 j
  · rw [k 43 (by decide)]; exact X43 j
  · rw [k 44 (by decide)]; exact X44 j
  · have := k3 j hj
    rw [X1 35 (by decide), X1 36 (by decide), X1 37 (by decide)] at this
    exact this
  · have := k4 j hj
    rw [X1 35 (by decide), X1 36 (by decide), X1 37 (by decide)] at this
    exact this
theorem P5.used {tm n kk t0 az us : Nat} {a8 t29 : Int32} {x16 x17 x18 x19 x20 x16' : Nat → Nat → Int32} {p17 : Nat → Nat → Option Nat} {I : Nat → Nat → Int32} {P : Nat → Nat → Option Nat} {L : List Nat} {sz kd vl t31 t33 t45 t46 t47 t48 t49 t50 t51 t48' : Nat → Int32} (h : P5 tm n kk a8 t29 x16 x17 x18 x19 x20 p17 I P L sz kd vl t31 t33 t45 t46 t47 t48 t49 t50 t51) (ht0 : t0 < tm) (hT : T5 n kk t0 x16 x17 x18 x19 x20 p17 I P L sz kd vl t31 t33 t45 t46 t47 t48 t49 t50 t51 az us) (haz : 1 ≤ az)
    (e16 : ∀ t j, x16' t j = if t = t0 ∧ j = 3 then nI (us + 1) else if t = t0 ∧ j = 2 then nI (min (us + 1) (az - 1)) else x16 t j) (e48 : ∀ t, t48' t = if t = t0 then nI (us + 1) else t48 t) : P5 tm n (kk + 1) a8 t29 x16' x17 x18 x19 x20 p17 I P L sz kd vl t31 t33 t45 t46 t47 t48' t49 t50 t51 := by
  obtain ⟨g1, g2, g3, g4, g5⟩ := h
  refine ⟨g1, g2, g3, fun t ht => ?_, fun t q1 q2 => ?_⟩
  · by_cases hq : t = t0
    · subst hq
      obtain ⟨f0, f1, f2, f3, f4, f5, f6, f7, f8, f9, f10, f11⟩ := hT
      refine ⟨az, us + 1, f0, f1, f2, f3, f4, by omega, ?_, ?_, ?_, fun q => absurd q (by omega), ?_, f11⟩
      · rw [e16, if_pos ⟨rfl, rfl⟩]
      · rw [e48, if_pos rfl]
      · rw [e16, if_neg (by omega), if_pos ⟨rfl, rfl⟩]
      · rw [e16, if_neg (by omega), if_neg (by omega)]; exact f10
    · obtain ⟨az', us', f0, f1, f2, f3, f4, f5, f6, f7, f8, f9, f10, f11⟩ := g4 t ht
      have e : ∀ j, x16' t j = x16 t j := fun j => by rw [e16, if_neg (fun q => hq q.1), if_neg (fun q => hq q.1)]
      refine ⟨az', us', f0, f1, f2, f3, f4, by omega, ?_, ?_, ?_, f9, ?_, f11⟩
      · rw [e]; exact f6
      · rw [e48, if_neg hq]; exact f7
      · rw [e]; exact f8
      · rw [e]; exact f10
  · have e : ∀ j, x16' t j = x16 t j := fun j => by rw [e16, if_neg (fun q => by omega), if_neg (fun q => by omega)]
    rw [e, e, e]; exact g5 t q1 q2
def spk (kd v gv A B rl : Int32) : Int64 := if kd = 0 then (if gv = 0 then 0 else v.toInt64) else if kd = 1 then 1099511627776 + v.toInt64 else if kd = 2 then (if v = 0 then A.toInt64 else B.toInt64) else rl.toInt64
theorem T_ans {σ : xS} {t nc idx az us : Nat} {m A B : Int32} (ht : t < 16) (hnc : nc < 40) (hi : idx < 12) (haz : 1 ≤ az) (haz4 : az ≤ 4) (hus : us ≤ 1000000) (h18 : σ.1 18 t 2 = nI az) (h2 : σ.1 16 t 2 = nI (min us (az - 1))) (h3 : σ.1 16 t 3 = nI us) (hm : σ.1 15 nc 2 = m) (hA : σ.1 15 nc 3 = A) (hB : σ.1 15 nc 4 = B) :
    ∃ σ', fT_answerTo σ t nc idx = some (spk (σ.1 19 t (min us (az - 1))) (σ.1 20 t (min us (az - 1))) (σ.1 14 idx 1) A B (if σ.1 14 idx 1 = 0 then 0 else 7 * m + 3 * A - B), σ') ∧ (∀ r, ¬ r = 16 → σ'.1 r = σ.1 r) ∧ σ'.2 = σ.2 ∧ (∀ t' j, σ'.1 16 t' j = if t' = t ∧ j = 3 then nI (us + 1) else if t' = t ∧ j = 2 then nI (min (us + 1) (az - 1)) else σ.1 16 t' j) := by
  have e1 : σ.1 18 t 2 - 1 = nI (az - 1) := by rw [h18, show (1 : Int32) = nI 1 from rfl, pk_sub haz]
  have sp : ∀ S : xS, (∀ r, ¬ r = 16 → S.1 r = σ.1 r) → fQ_spokenTo S t (nI (min us (az - 1))) nc idx = some (spk (σ.1 19 t (min us (az - 1))) (σ.1 20 t (min us (az - 1))) (σ.1 14 idx 1) A B (if σ.1 14 idx 1 = 0 then 0 else 7 * m + 3 * A - B)) := by
    intro S hS
    unfold fQ_spokenTo spk fD_realResult
    rw [if_pos (by omega), if_pos (cIn rfl), cCl rfl, hS 19 (by decide), hS 20 (by decide), hS 14 (by decide), hS 15 (by decide), if_pos hi, if_pos hi, if_pos hnc, if_pos hnc, if_pos hnc, hm, hA, hB]
    by_cases q0 : σ.1 19 t (min us (az - 1)) = 0
    · rw [if_pos q0, if_pos q0]; split <;> rfl
    · rw [if_neg q0, if_neg q0]
      by_cases q1 : σ.1 19 t (min us (az - 1)) = 1
      · rw [if_pos q1, if_pos q1]
      · rw [if_neg q1, if_neg q1]
        by_cases q2 : σ.1 19 t (min us (az - 1)) = 2
        · rw [if_pos q2, if_pos q2]; split <;> rfl
        · rw [if_neg q2, if_neg q2]
          by_cases q3 : σ.1 14 idx 1 = 0
          · rw [if_pos q3, if_pos q3, xp_e, if_pos hi]
          · rw [if_neg q3, if_neg q3, xp_e, if_pos hi]
  unfold fT_answerTo fT_answerTo_31
  rw [if_pos ht, if_pos (by omega), e1, h2]
  by_cases hq : az - 1 ≤ us
  · rw [if_pos ((cLe (x := nI (az - 1)) rfl (y := nI (min us (az - 1))) rfl).mpr (by omega)), if_pos ht, xl_e, h3, nI_1, sp _ (fun r hr => by funext k j; rw [si_1, u3_r hr]), xp_e, if_pos (by omega)]
    refine ⟨_, rfl, fun r hr => by funext k j; rw [si_1, u3_r hr], rfl, fun t' j => ?_⟩
    rw [si_1]
    by_cases c1 : t' = t ∧ j = 3
    · rw [if_pos c1, c1.1, c1.2, u3_e]
    · rw [if_neg c1]
      unfold u3
      rw [if_neg (fun q => c1 q.2)]
      by_cases c2 : t' = t ∧ j = 2
      · rw [if_pos c2, c2.1, c2.2, h2]
        congr 1
        omega
      · rw [if_neg c2]
  · have e3 : (x_si σ 16 t 2 (nI (min us (az - 1)) + 1)).1 16 t 3 = nI us := by rw [si_1, u3_j (by decide)]; exact h3
    rw [if_neg (fun q => hq (by have := (cLe (x := nI (az - 1)) rfl (y := nI (min us (az - 1))) rfl).mp q; omega)), xl_e, if_pos ht, xl_e, e3, nI_1, nI_1, sp _ (fun r hr => by funext k j; rw [si_1, u3_r hr, si_1, u3_r hr]), xp_e, if_pos (by omega)]
    refine ⟨_, rfl, fun r hr => by funext k j; rw [si_1, u3_r hr, si_1, u3_r hr], rfl, fun t' j => ?_⟩
    rw [si_1]
    by_cases c1 : t' = t ∧ j = 3
    · rw [if_pos c1, c1.1, c1.2, u3_e]
    · rw [if_neg c1]
      unfold u3
      rw [if_neg (fun q => c1 q.2), si_1]
      by_cases c2 : t' = t ∧ j = 2
      · rw [if_pos c2, c2.1, c2.2, u3_e]
        congr 1
        omega
      · unfold u3
        rw [if_neg c2, if_neg (fun q => c2 q.2)]
