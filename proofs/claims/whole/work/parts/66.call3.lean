/-! call: prepared answers told. -/
theorem Q_take {N : Nat} {σ : xS} {tm pz : Nat} (htm : tm < 16) (hpz : pz ≤ 4) (h16 : σ.1 18 16 2 = nI pz) : ∀ (j i fuel : Nat) (σi : xS), i + j = pz → j < fuel → (∀ r, ¬ r = 18 → ¬ r = 19 → ¬ r = 20 → σi.1 r = σ.1 r) → σi.2 = σ.2 → (∀ t, ¬ t = tm → σi.1 18 t 2 = σ.1 18 t 2) → σi.1 18 tm 2 = nI i → (∀ t, ¬ t = tm → σi.1 19 t = σ.1 19 t ∧ σi.1 20 t = σ.1 20 t) → (∀ j, j < i → σi.1 19 tm j = σ.1 19 16 j ∧ σi.1 20 tm j = σ.1 20 16 j) →
    ∃ σ', fQ_takeAllOf_2 N fuel σi tm 16 (nI i) = some σ' ∧ (∀ r, ¬ r = 18 → ¬ r = 19 → ¬ r = 20 → σ'.1 r = σ.1 r) ∧ σ'.2 = σ.2 ∧ (∀ t, ¬ t = tm → ¬ t = 16 → σ'.1 18 t 2 = σ.1 18 t 2) ∧ σ'.1 18 tm 2 = nI pz ∧ σ'.1 18 16 2 = 0 ∧ (∀ t, ¬ t = tm → σ'.1 19 t = σ.1 19 t ∧ σ'.1 20 t = σ.1 20 t) ∧ (∀ j, j < pz → σ'.1 19 tm j = σ.1 19 16 j ∧ σ'.1 20 tm j = σ.1 20 16 j) := by
  have n16 : ¬ 16 = tm := by omega
  have n16' : ¬ tm = 16 := by omega
  intro j
  induction j with
  | zero =>
    intro i fuel σi hij hf g1 g2 g3 g4 g5 g6
    obtain ⟨e, rfl⟩ : ∃ e, fuel = e + 1 := ⟨fuel - 1, by omega⟩
    have hiq : i = pz := by omega
    subst hiq
    have e16 : σi.1 18 16 2 = nI i := by rw [g3 16 n16]; exact h16
    unfold fQ_takeAllOf_2 fQ_takeAllOf_2b
    rw [if_pos (by decide), if_pos ((cLe e16 (y := nI i) rfl).mpr (by omega)), xl_e]
    refine ⟨_, rfl, fun r q8 q9 q10 => ?_, g2, fun t q1 q2 => ?_, ?_, ?_, fun t q => ?_, fun j hj => ?_⟩
    · rw [← g1 r q8 q9 q10]; funext k j; rw [si_1, u3_r q8]
    · rw [si_1, u3_k q2]; exact g3 t q1
    · rw [si_1, u3_k n16']; exact g4
    · rw [si_1, u3_e]
    · rw [si_1, u3_r (by decide), u3_r (by decide)]; exact g5 t q
    · rw [si_1, u3_r (by decide), u3_r (by decide)]; exact g6 j hj
  | succ j ih =>
    intro i fuel σi hij hf g1 g2 g3 g4 g5 g6
    obtain ⟨e, rfl⟩ : ∃ e, fuel = e + 1 := ⟨fuel - 1, by omega⟩
    have e16 : σi.1 18 16 2 = nI pz := by rw [g3 16 n16]; exact h16
    have e19 : σi.1 19 16 = σ.1 19 16 := (g5 16 n16).1
    have e20 : σi.1 20 16 = σ.1 20 16 := (g5 16 n16).2
    unfold fQ_takeAllOf_2 fQ_takeAllOf_2b
    rw [if_pos (by decide), if_neg (fun h => by have := (cLe e16 (y := nI i) rfl).mp h; omega), if_pos (cIn rfl), cCl rfl, Q_add_e (by omega) g4 (by omega), xp_e, if_pos (by omega), nI_1]
    refine ih (i + 1) e _ (by omega) (by omega) (fun r q8 q9 q10 => ?_) g2 (fun t q => ?_) ?_ (fun t q => ⟨?_, ?_⟩) (fun j' hj => ?_)
    · rw [← g1 r q8 q9 q10]; funext k j; rw [si_1, u3_r q8, si_1, u3_r q10, si_1, u3_r q9]
    · rw [si_1, u3_k q, si_1, u3_r (by decide), si_1, u3_r (by decide)]; exact g3 t q
    · rw [si_1, u3_e]
    · rw [si_1, u3_r (by decide), si_1, u3_r (by decide), si_1, u3_k q]; exact (g5 t q).1
    · rw [si_1, u3_r (by decide), si_1, u3_k q, si_1, u3_r (by decide)]; exact (g5 t q).2
    · rw [e19, e20]
      by_cases hq : j' = i
      · subst hq
        constructor
        · rw [si_1, u3_r (by decide), si_1, u3_r (by decide), si_1, u3_e]
        · rw [si_1, u3_r (by decide), si_1, u3_e]
      · constructor
        · rw [si_1, u3_r (by decide), si_1, u3_r (by decide), si_1, u3_j hq]; exact (g6 j' (by omega)).1
        · rw [si_1, u3_r (by decide), si_1, u3_j hq, si_1, u3_r (by decide)]; exact (g6 j' (by omega)).2
theorem bT_e {σ : xS} {tm : Nat} (htm : tm < 16) : (∀ r, ¬ r = 0 → ¬ r = 17 → (bT σ tm).1 r = σ.1 r) ∧ (∀ j, ¬ j = 8 → (bT σ tm).1 0 0 j = σ.1 0 0 j) ∧ (bT σ tm).1 0 0 8 = nI (tm + 1) ∧ (∀ t, ¬ t = tm → (bT σ tm).1 17 t = σ.1 17 t) ∧ (bT σ tm).1 17 tm 0 = σ.1 17 16 0 ∧ (bT σ tm).1 17 tm 1 = σ.1 17 16 1 ∧ (∀ r, ¬ r = 17 → (bT σ tm).2.1 r = σ.2.1 r) ∧ (∀ t, ¬ t = tm → (bT σ tm).2.1 17 t = σ.2.1 17 t) ∧ (bT σ tm).2.1 17 tm 2 = σ.2.1 17 16 2 ∧ (bT σ tm).2.1 17 tm 3 = σ.2.1 17 16 3 ∧ (bT σ tm).2.2 = σ.2.2 := by
  unfold bT
  refine ⟨fun r h0 h17 => ?_, fun j hj => ?_, ?_, fun t ht => ?_, ?_, ?_, fun r hr => ?_, fun t ht => ?_, ?_, ?_, rfl⟩
  · funext k j; rw [si_1, u3_r h0, sp_1, sp_1, si_1, u3_r h17, si_1, u3_r h17]
  · rw [si_1, u3_j hj, sp_1, sp_1, si_1, u3_r (by decide), si_1, u3_r (by decide)]
  · rw [si_1, u3_e]
  · rw [si_1, u3_r (by decide), sp_1, sp_1, si_1, u3_k ht, si_1, u3_k ht]
  · rw [si_1, u3_r (by decide), sp_1, sp_1, si_1, u3_j (by decide), si_1, u3_e]
  · rw [si_1, u3_r (by decide), sp_1, sp_1, si_1, u3_e]
  · funext k j; rw [si_2, sp_21, u3_r hr, sp_21, u3_r hr, si_2, si_2]
  · rw [si_2, sp_21, u3_k ht, sp_21, u3_k ht, si_2, si_2]
  · rw [si_2, sp_21, u3_j (by decide), sp_21, u3_e]
  · rw [si_2, sp_21, u3_e]
theorem call_tell {N k : Nat} (hN : 64 ≤ N) {σ : xS} {T : yS} {n pz nc tm fz ct s m : Nat} (h : R8 k σ T n 0 pz nc tm fz ct) (htm : tm < 16) (hs : s < n) (hm : m < 4) (x0 : σ.1 17 16 0 = nI s) (x1 : σ.1 17 16 1 = nI m) (t9 : T 30 0 9 = 0) (hP : Pat (σ.1 21) (σ.2.1 21) σ.2.2.1 (T 35 0) (T 36 0) (T 37 0) (σ.2.1 17 16 2) (σ.2.1 17 16 3) (pm (T 31 0) (T 33 0) s m) 6) :
    ∃ (r : Int64) (σ' : xS) (τ' : yS), (xb (fA_tellPrepared N σ) fun r47 s48 => some (r47, s48)) = some (r, σ') ∧ (xp (fM_tell N T (nI s) (nI m) 6) fun s65 => some (0, s65)) = some (r, τ') ∧ Rel (k + 1) σ' τ' := by
  have hup : ∀ σ τ, Rel k σ τ → Rel (k + 1) σ τ := fun _ _ => Rel.up (Nat.le_succ k)
  obtain ⟨h0, h1, h2, h3, h4, h5, h6, h7, h8⟩ := h
  obtain ⟨q1, q2, q3, q4⟩ := h3
  obtain ⟨g1, g2, g3, g4, g5⟩ := id h5
  obtain ⟨ty, t1, t2, t3, t4, -⟩ := pm_e h1 hs hm
  have hn6 := h1.1
  obtain ⟨T', w1, w2, w3, w4, w5, w6, w7, w8, w9, w10⟩ := tell_e hN (τ := T) (tm := tm) (s := s) (m := m) (ty := ty) (p := pm (T 31 0) (T 33 0) s m) (a3 := 6) (pz := pz) htm g3 (by omega) hm t2 t1 t4 t3 (by omega) (fun i hi => hP.sizes t3 i hi) q3 q1
  obtain ⟨y1, y2, y3, y4, y5, y6, y7, y8, y9, y10, y11⟩ := bT_e (σ := σ) htm
  have n16t : ¬ 16 = tm := by omega
  have n16t' : ¬ tm = 16 := by omega
  obtain ⟨Q, z1, z2, z3, z4, z5, z6, z7, z8⟩ := Q_take (N := N) (σ := bT σ tm) htm q1 (by rw [y1 18 (by decide) (by decide)]; exact q2) pz 0 N (bT σ tm) (by omega) (by omega) (fun _ _ _ _ => rfl) rfl (fun _ _ => rfl) (by rw [y1 18 (by decide) (by decide)]; exact (g5 tm (by omega) htm).1) (fun _ _ => ⟨rfl, rfl⟩) (fun j hj => absurd hj (by omega))
  have eX : fA_tellPrepared N σ = some (0, x_si Q 0 0 12 0) := by
    unfold fA_tellPrepared fQ_takeAllOf
    have z1' : fQ_takeAllOf_2 N N (bT σ tm) tm 16 0 = some Q := z1
    rw [A_begin g2 htm, xp_e, A_latest (tm := tm + 1) y3 (by omega) (by omega), xp_e, show tm + 1 - 1 = tm by omega, if_pos htm, z1', xp_e, if_pos (by omega), xl_e, idle_e]
    rfl
  have eM : fM_tell N T (nI s) (nI m) 6 = some T' := w1
  rw [eX, eM, xb_e, xp_e]
  obtain ⟨F, hF⟩ : ∃ F, F = x_si Q 0 0 12 0 := ⟨_, rfl⟩
  have F1 : ∀ r, ¬ r = 0 → ¬ r = 17 → ¬ r = 18 → ¬ r = 19 → ¬ r = 20 → F.1 r = σ.1 r := fun r q0 q17 q18 q19 q20 => by
    rw [hF, ← y1 r q0 q17, ← z2 r q18 q19 q20]; funext k j; rw [si_1, u3_r q0]
  have F0 : ∀ j, ¬ j = 8 → ¬ j = 12 → F.1 0 0 j = σ.1 0 0 j := fun j q8 q12 => by
    rw [hF, si_1, u3_j q12, z2 0 (by decide) (by decide) (by decide), y2 j q8]
  have F8 : F.1 0 0 8 = nI (tm + 1) := by rw [hF, si_1, u3_j (by decide), z2 0 (by decide) (by decide) (by decide), y3]
  have F12 : F.1 0 0 12 = 0 := by rw [hF, si_1, u3_e]
  have F17 : F.1 17 = (bT σ tm).1 17 := by rw [hF, ← z2 17 (by decide) (by decide) (by decide)]; funext k j; rw [si_1, u3_r (by decide)]
  have F18 : F.1 18 = Q.1 18 := by rw [hF]; funext k j; rw [si_1, u3_r (by decide)]
  have F19 : F.1 19 = Q.1 19 := by rw [hF]; funext k j; rw [si_1, u3_r (by decide)]
  have F20 : F.1 20 = Q.1 20 := by rw [hF]; funext k j; rw [si_1, u3_r (by decide)]
  have F2 : F.2 = (bT σ tm).2 := by rw [hF, si_2, z3]
  have v : ∀ r, (¬ r = 30 ∧ ¬ r = 35 ∧ ¬ r = 36 ∧ ¬ r = 37 ∧ ¬ r = 45 ∧ ¬ r = 46 ∧ ¬ r = 47 ∧ ¬ r = 48 ∧ ¬ r = 49 ∧ ¬ r = 50) → T' r = T r := fun r q => w2 r q.1 q.2.1 q.2.2.1 q.2.2.2.1 q.2.2.2.2.1 q.2.2.2.2.2.1 q.2.2.2.2.2.2.1 q.2.2.2.2.2.2.2.1 q.2.2.2.2.2.2.2.2.1 q.2.2.2.2.2.2.2.2.2
  have x : ∀ r, (¬ r = 0 ∧ ¬ r = 17 ∧ ¬ r = 18 ∧ ¬ r = 19 ∧ ¬ r = 20) → F.1 r = σ.1 r := fun r q => F1 r q.1 q.2.1 q.2.2.1 q.2.2.2.1 q.2.2.2.2
  have u30 : ∀ j, ¬ j = 29 → T' 30 0 j = T 30 0 j := fun j hj => by rw [w3, if_neg hj]
  have u47 : ∀ j, T' 47 0 j = if j = 16 then 0 else if j = tm then nI pz else T 47 0 j := fun j => by
    rw [w9]; simp
  have u49 : ∀ r j, r = 49 ∨ r = 50 → T' r 0 j = if 4 * tm ≤ j ∧ j < 4 * tm + pz then T r 0 (64 + (j - 4 * tm)) else T r 0 j := fun r j hr => by
    rw [w10 r j hr]; simp
  rw [← hF]
  refine ⟨_, _, _, rfl, rfl, hup _ _ ⟨n, 0, 0, nc, tm + 1, fz, ct, 0, ?_, ?_, ⟨by decide, ?_, ?_, fun i hi => absurd hi (by omega)⟩, ⟨by decide, ?_, ?_, fun j hj => absurd hj (by omega)⟩, ?_, ?_, ?_, ?_, ?_, P9_idle F12 ?_⟩⟩
  · rw [F2, y11]; exact h0
  · rw [F0 3 (by decide) (by decide), u30 4 (by decide), x 14 (by decide), x 2 (by decide), x 3 (by decide), v 31 (by decide), v 32 (by decide), v 33 (by decide), v 34 (by decide)]; exact h1
  · rw [x 4 (by decide)]; exact h2.2.1
  · rw [u30 8 (by decide)]; exact h2.2.2.1
  · rw [F18, z6]; rfl
  · rw [u47, if_pos rfl]; rfl
  · rw [x 6 (by decide), x 15 (by decide), u30 20 (by decide), u30 21 (by decide), v 38 (by decide), v 39 (by decide), v 40 (by decide), v 41 (by decide), v 42 (by decide), v 43 (by decide), v 44 (by decide)]; exact h4
  · rw [x 16 (by decide), x 21 (by decide), v 31 (by decide), v 33 (by decide), v 51 (by decide), F2, y7 21 (by decide), y11]
    refine P5.tell (az := pz) (s := s) (m := m) h5 htm F8 (by rw [w3, if_pos rfl]) (fun t ht hne => ?_) (fun t ht hne => ?_) (fun t j ht hne => ?_) (fun t j ht hne => ?_) (fun t f g p ht hp => hp.to pEq.rfl' (fun _ => w7 _ (by omega)) (fun _ => w7 _ (by omega))) (fun t ht hne => by rw [w4, if_neg hne]) (fun t ht hne => by rw [w5, if_neg hne]) (fun t ht hne => by rw [u47, if_neg (by omega), if_neg hne]) (fun t ht hne => by rw [w6, if_neg hne]) (fun t j ht hne hj => by rw [u49 49 _ (Or.inl rfl), if_neg (by omega)]) (fun t j ht hne hj => by rw [u49 50 _ (Or.inr rfl), if_neg (by omega)]) hs hm (by rw [F17, y5]; exact x0) (by rw [w4, if_pos rfl]) (by rw [F17, y6]; exact x1) (by rw [w5, if_pos rfl]) ?_ q1 (by rw [F18, z5]) (by rw [u47, if_neg n16t', if_pos rfl]) (fun j hj => ?_) (by rw [w6, if_pos rfl])
    · rw [F17, y4 t hne, y8 t hne]; exact ⟨rfl, rfl, rfl, rfl⟩
    · rw [F18, z4 t hne (by omega), y1 18 (by decide) (by decide)]
    · rw [F19, (z7 t hne).1, y1 19 (by decide) (by decide)]
    · rw [F20, (z7 t hne).2, y1 20 (by decide) (by decide)]
    · rw [y9, y10]; exact hP.to pEq.rfl' (fun q => w8 0 q) (fun q => w8 1 q)
    · obtain ⟨c1, c2⟩ := z8 j hj
      obtain ⟨d1, d2⟩ := q4 j hj
      rw [F19, F20, c1, c2, y1 19 (by decide) (by decide), y1 20 (by decide) (by decide), u49 49 _ (Or.inl rfl), if_pos (by omega), u49 50 _ (Or.inr rfl), if_pos (by omega), show 4 * tm + j - 4 * tm = j by omega]
      exact ⟨d1, d2⟩
  · rw [x 9 (by decide), x 11 (by decide), u30 35 (by decide), u30 37 (by decide), u30 38 (by decide), v 53 (by decide)]; exact h6
  · rw [x 12 (by decide), x 13 (by decide), u30 36 (by decide), v 54 (by decide)]; exact h7
  · rw [F0 16 (by decide) (by decide), F0 17 (by decide) (by decide), u30 31 (by decide), u30 30 (by decide)]; exact h8
  · rw [u30 9 (by decide)]; exact t9
