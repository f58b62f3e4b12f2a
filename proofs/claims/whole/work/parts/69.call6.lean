/-! call: the note and its answer. -/
theorem M_181 {N : Nat} {τ : yS} {nc idx t j : Nat} {A B rl : Int32} (hnc : nc < 40) (hi : idx < 12) (ht : t < 16) (hj : j < 4) : fM_answered_181 N τ (nI nc) A B (nI idx) rl (nI t) (nI j) (nI (4 * t)) = some (spk (τ 49 0 (4 * t + j)) (τ 50 0 (4 * t + j)) (τ 32 0 idx) A B rl, y_si (y_si τ 48 0 t (τ 48 0 t + 1)) 43 0 nc (nI t)) := by
  unfold fM_answered_181 spk
  rw [nI_add, if_pos (cIn rfl), cCl (a := 4 * t + j) rfl, if_pos (cIn rfl), cCl (a := t) rfl, xl_e, if_pos (cIn rfl), cCl (a := nc) rfl, xl_e, if_pos (cIn rfl), cCl (a := idx) rfl]
  have e49 : (y_si (y_si τ 48 0 t (τ 48 0 t + 1)) 43 0 nc (nI t)) 49 = τ 49 := by funext k j; rw [yi_1, u3_r (by decide), yi_1, u3_r (by decide)]
  have e32 : (y_si (y_si τ 48 0 t (τ 48 0 t + 1)) 43 0 nc (nI t)) 32 = τ 32 := by funext k j; rw [yi_1, u3_r (by decide), yi_1, u3_r (by decide)]
  rw [e49, e32]
  by_cases q0 : τ 49 0 (4 * t + j) = 0
  · rw [if_pos q0, if_pos q0]; split <;> rfl
  · rw [if_neg q0, if_neg q0]
    by_cases q1 : τ 49 0 (4 * t + j) = 1
    · rw [if_pos q1, if_pos q1]
    · rw [if_neg q1, if_neg q1]
      by_cases q2 : τ 49 0 (4 * t + j) = 2
      · rw [if_pos q2, if_pos q2]; split <;> rfl
      · rw [if_neg q2, if_neg q2]
theorem call_note {N k : Nat} (hN : 64 ≤ N) (hk : k < 512) {σ : xS} {T : yS} {n pz nc tm fz ct s m ty : Nat} {A B : Int32} (h : R8 k σ T n 0 pz nc tm fz ct) (hnc : nc < 40) (hs : s < n) (hm : m < 4) (hty : ty < 3) (h33 : T 33 0 s = nI ty) (h31 : T 31 0 (4 * ty + m) = nI (pm (T 31 0) (T 33 0) s m)) (hp : pm (T 31 0) (T 33 0) s m ≤ 2) (h14' : σ.1 14 (4 * ty + m) 1 = T 32 0 (4 * ty + m)) (x0 : σ.1 17 16 0 = nI s) (x1 : σ.1 17 16 1 = nI m) (hP : Pat (σ.1 21) (σ.2.1 21) σ.2.2.1 (T 35 0) (T 36 0) (T 37 0) (σ.2.1 17 16 2) (σ.2.1 17 16 3) (pm (T 31 0) (T 33 0) s m) 6) :
    ∃ (r : Int64) (σ' : xS) (τ' : yS), (xb (fA_noteAndAnswer N σ (4 * ty + m) A B) fun r41 s42 => some (r41, s42)) = some (r, σ') ∧ (xp (fM_note N T (nI s) (nI m) A B) fun s55 => xl (y_si s55 30 0 9 1) fun s56 => xb (fM_answered N s56 ((s56 30 0 20) - 1)) fun r58 s59 => some (r58, s59)) = some (r, τ') ∧ Rel (k + 1) σ' τ' := by
  obtain ⟨h0, h1, h2, h3, h4, h5, h6, h7, h8⟩ := id h
  obtain ⟨b1, b2, b3, b4, b7⟩ := h4
  have hn6 := h1.1
  have hidx : 4 * ty + m < 12 := by omega
  have htm := h5.1
  obtain ⟨S, a0, a1, a2, a3, a4, a5, a6, a7, a8, a9, a10, a11⟩ := B_add_e (σ := σ) (A := A) (B := B) b2 hnc
  obtain ⟨Y, y0, y1, y2, y3, y4, y5, y6, y7, y8, y9, y10, y11⟩ := note_e (A := A) (B := B) hN hnc b3 (by omega) hm h33 hty h31 hp (fun i hi => hP.sizes hp i hi)
  obtain ⟨Z, hZ⟩ : ∃ Z, Z = y_si Y 30 0 9 1 := ⟨_, rfl⟩
  have Zr : ∀ r, ¬ r = 30 → Z r = Y r := fun r hr => by rw [hZ]; funext k j; rw [yi_1, u3_r hr]
  have Z30 : ∀ j, ¬ j = 9 → Z 30 0 j = if j = 21 then T 30 0 21 + 1 else if j = 20 then nI (nc + 1) else T 30 0 j := fun j hj => by rw [hZ, yi_1, u3_j hj]; exact y2 j
  have Z9 : Z 30 0 9 = 1 := by rw [hZ, yi_1, u3_e]
  have Z1 : ∀ r, (¬ r = 30 ∧ ¬ r = 35 ∧ ¬ r = 36 ∧ ¬ r = 37 ∧ ¬ r = 38 ∧ ¬ r = 39 ∧ ¬ r = 40 ∧ ¬ r = 41 ∧ ¬ r = 42 ∧ ¬ r = 43 ∧ ¬ r = 44) → Z r = T r := fun r q => by rw [Zr r q.1, y1 r q]
  have Zs : ∀ j, (j < 8 + 2 * nc ∨ 8 + 2 * nc + 2 ≤ j) → sEq (T 35 0) (T 36 0) (T 37 0) (Z 35 0) (Z 36 0) (Z 37 0) j j := fun j hj => by rw [Zr 35 (by decide), Zr 36 (by decide), Zr 37 (by decide)]; exact y10 j hj
  have Zs' : ∀ j, j < pm (T 31 0) (T 33 0) s m → sEq (T 35 0) (T 36 0) (T 37 0) (Z 35 0) (Z 36 0) (Z 37 0) (6 + j) (8 + 2 * nc + j) := fun j hj => by rw [Zr 35 (by decide), Zr 36 (by decide), Zr 37 (by decide)]; exact y11 j hj
  have h5Z : P5 tm n k (σ.1 0 0 8) (T 30 0 29) (σ.1 16) (σ.1 17) (σ.1 18) (σ.1 19) (σ.1 20) (σ.2.1 17) (σ.1 21) (σ.2.1 21) σ.2.2.1 (Z 35 0) (Z 36 0) (Z 37 0) (T 31 0) (T 33 0) (T 45 0) (T 46 0) (T 47 0) (T 48 0) (T 49 0) (T 50 0) (T 51 0) :=
    P5.congr h5 (fun _ _ => rfl) (fun _ _ => rfl) (fun _ _ => rfl) (fun _ _ => rfl) (fun _ _ => rfl) (fun _ _ => rfl) (fun f g p slot q1 q2 q => q.to pEq.rfl' (fun _ => Zs _ (by omega)) (fun _ => Zs _ (by omega))) (fun _ _ _ _ => rfl) (fun _ _ => rfl) (fun _ _ => rfl) (fun _ _ => rfl) (fun _ _ => rfl) (fun _ _ => rfl) (fun _ _ => rfl) (fun _ _ => rfl)
  have h5S : P5 tm n k (S.1 0 0 8) (Z 30 0 29) (S.1 16) (S.1 17) (S.1 18) (S.1 19) (S.1 20) (S.2.1 17) (S.1 21) (S.2.1 21) S.2.2.1 (Z 35 0) (Z 36 0) (Z 37 0) (Z 31 0) (Z 33 0) (Z 45 0) (Z 46 0) (Z 47 0) (Z 48 0) (Z 49 0) (Z 50 0) (Z 51 0) := by
    rw [a1 0 (by decide) (by decide), a1 16 (by decide) (by decide), a1 17 (by decide) (by decide), a1 18 (by decide) (by decide), a1 19 (by decide) (by decide), a1 20 (by decide) (by decide), a1 21 (by decide) (by decide), a2, Z30 29 (by decide), if_neg (by decide), if_neg (by decide), Z1 31 (by decide), Z1 33 (by decide), Z1 45 (by decide), Z1 46 (by decide), Z1 47 (by decide), Z1 48 (by decide), Z1 49 (by decide), Z1 50 (by decide), Z1 51 (by decide)]
    exact h5Z
  obtain ⟨rl, hrl⟩ : ∃ rl : Int32, rl = (if T 32 0 (4 * ty + m) = 0 then 0 else 7 * nI m + 3 * A - B) := ⟨_, rfl⟩
  have tf := tell_for hN h5S (by omega) hn6 hnc (show s < 6 by omega) hm (A := A) (B := B) (rl := rl) (idx := 4 * ty + m) (a7.trans x0) (a8.trans x1) a9 a10 hidx (by rw [Z1 31 (by decide), Z1 33 (by decide)]; exact hp) (by rw [Z1 31 (by decide), Z1 33 (by decide)]; exact h31) tm N (by omega) (by omega)
  have z39 : Z 39 0 nc = nI s := by rw [Zr 39 (by decide), y4, if_pos rfl]
  have z40 : Z 40 0 nc = nI m := by rw [Zr 40 (by decide), y5, if_pos rfl]
  have z41 : Z 41 0 nc = A := by rw [Zr 41 (by decide), y6, if_pos rfl]
  have z42 : Z 42 0 nc = B := by rw [Zr 42 (by decide), y7, if_pos rfl]
  have z29 : Z 30 0 29 = nI tm := by rw [Z30 29 (by decide), if_neg (by decide), if_neg (by decide)]; exact h5.2.2.1
  have z20 : Z 30 0 20 - 1 = nI nc := by rw [Z30 20 (by decide), if_neg (by decide), if_pos rfl, show (1 : Int32) = nI 1 from rfl, pk_sub (by omega)]; rfl
  have eA : fM_answered N Z (nI nc) = fM_answered_71 N N Z (nI nc) (nI s) (nI m) A B (nI (4 * ty + m)) rl (nI tm - 1) := by
    unfold fM_answered fM_answered_61 fM_real
    rw [if_pos (cIn rfl), cCl rfl, z39, z40, z41, z42, M_shape_e (by omega) (by rw [Z1 33 (by decide)]; exact h33), xp_e, if_pos (cIn rfl), cCl rfl, z29, Z1 32 (by decide), hrl]
    by_cases q : T 32 0 (4 * ty + m) = 0
    · rw [if_pos q, if_pos q]
    · rw [if_neg q, if_neg q]
  have s8 : S.1 0 0 8 = nI tm := by rw [a1 0 (by decide) (by decide)]; exact h5.2.1
  unfold fA_noteAndAnswer fA_tellingFor
  rw [a0, xb_e, s8, y0, xp_e, xl_e, ← hZ, z20, eA]
  -- the state of the class behind the note
  have Sx : ∀ (r0 : Int32) (r : Nat), ¬ r = 0 → ¬ r = 15 → (x_si (x_si S 15 nc 6 r0) 0 0 12 1).1 r = S.1 r := fun r0 r q0 q15 => by funext k j; rw [si_1, u3_r q0, si_1, u3_r q15]
  have S0 : ∀ (r0 : Int32) (j : Nat), ¬ j = 12 → (x_si (x_si S 15 nc 6 r0) 0 0 12 1).1 0 0 j = σ.1 0 0 j := fun r0 j hj => by rw [si_1, u3_j hj, si_1, u3_r (by decide), a1 0 (by decide) (by decide)]
  have S12 : ∀ (r0 : Int32), (x_si (x_si S 15 nc 6 r0) 0 0 12 1).1 0 0 12 = 1 := fun r0 => by rw [si_1, u3_e]
  have S15 : ∀ (r0 : Int32) (i : Nat), ¬ i = nc → (x_si (x_si S 15 nc 6 r0) 0 0 12 1).1 15 i = σ.1 15 i := fun r0 i hi => by rw [si_1, u3_r (by decide), si_1, u3_k hi, a5 i hi]
  have S15n : ∀ (r0 : Int32) (j : Nat), ¬ j = 6 → (x_si (x_si S 15 nc 6 r0) 0 0 12 1).1 15 nc j = S.1 15 nc j := fun r0 j hj => by rw [si_1, u3_r (by decide), si_1, u3_j hj]
  have S156 : ∀ (r0 : Int32), (x_si (x_si S 15 nc 6 r0) 0 0 12 1).1 15 nc 6 = r0 := fun r0 => by rw [si_1, u3_r (by decide), si_1, u3_e]
  rcases tf with ⟨t1, t2⟩ | ⟨t, az, us, t1, hT, haz, t3, t4⟩
  · rw [t1, t2, xp_e, if_pos hnc, xl_e, xl_e, if_pos (S156 (-1)), S15n _ 1 (by decide), a7.trans x0, if_pos (cIn rfl), cCl rfl, Sx _ 3 (by decide) (by decide), a1 3 (by decide) (by decide), Z1 34 (by decide)]
    have e34 : σ.1 3 0 s = T 34 0 s := (h1.2.2.2.2 s hs).2.2
    have eR : fD_realResult (x_si (x_si S 15 nc 6 (-1)) 0 0 12 1) (4 * ty + m) nc = some rl := by
      unfold fD_realResult
      rw [if_pos hidx, if_pos hnc, Sx _ 14 (by decide) (by decide), a1 14 (by decide) (by decide), h14', S15n _ 2 (by decide), S15n _ 3 (by decide), S15n _ 4 (by decide), a8.trans x1, a9, a10, hrl]
      by_cases q : T 32 0 (4 * ty + m) = 0
      · rw [if_pos q, if_pos q]
      · rw [if_neg q, if_neg q]
    rw [e34, eR, xp_e, if_pos hidx]
    have fin : Rel (k + 1) (x_si (x_si S 15 nc 6 (-1)) 0 0 12 1) Z := by
      refine ⟨n, 0, pz, nc + 1, tm, fz, ct, 1, note_fin (rr := -1) (A := A) (B := B) h hk hnc hs hm x0 x1 hP hp (fun r q => ?_) (S0 _) (S12 _) ?_ ?_ ?_ (S15 _) ?_ ?_ ?_ ?_ ?_ ?_ (S156 _) (fun r q => ?_) Z30 Z9 (fun j => ?_) (fun j => ?_) (fun j => ?_) (fun j => ?_) (fun j => ?_) (fun j => ?_) (fun j => ?_) Zs' ?_⟩
      · rw [Sx _ r q.1 q.2.2.1, a1 r q.2.1 q.2.2.1]
      · exact a2
      · rw [Sx _ 6 (by decide) (by decide)]; exact a3
      · rw [Sx _ 6 (by decide) (by decide)]; exact a4
      · rw [S15n _ 0 (by decide)]; exact a6
      · rw [S15n _ 1 (by decide)]; exact a7.trans x0
      · rw [S15n _ 2 (by decide)]; exact a8.trans x1
      · rw [S15n _ 3 (by decide)]; exact a9
      · rw [S15n _ 4 (by decide)]; exact a10
      · rw [S15n _ 5 (by decide)]; exact a11
      · obtain ⟨q1, q2, q3, q4, q5, q6, q7, q8, q9, q10, q11, q12⟩ := q
        exact Z1 r ⟨q1, q2, q3, q4, q5, q6, q7, q8, q9, q10, q11⟩
      · rw [Zr 38 (by decide)]; exact y3 j
      · rw [Zr 39 (by decide)]; exact y4 j
      · rw [Zr 40 (by decide)]; exact y5 j
      · rw [Zr 41 (by decide)]; exact y6 j
      · rw [Zr 42 (by decide)]; exact y7 j
      · rw [Zr 43 (by decide)]; exact y8 j
      · rw [Zr 44 (by decide)]; exact y9 j
      · rw [Sx _ 16 (by decide) (by decide), a1 16 (by decide) (by decide), Z1 48 (by decide)]
        exact h5Z.up (Nat.le_succ k)
    by_cases q0 : T 34 0 s = 0
    · rw [if_pos q0, if_pos q0]; exact ⟨_, _, _, rfl, rfl, fin⟩
    · rw [if_neg q0, if_neg q0]
      by_cases q1 : T 34 0 s = 1
      · rw [if_pos q1, if_pos q1]; exact ⟨_, _, _, rfl, rfl, fin⟩
      · rw [if_neg q1, if_neg q1]; exact ⟨_, _, _, rfl, rfl, fin⟩
  · have hT' : T5 n k t (σ.1 16) (σ.1 17) (σ.1 18) (σ.1 19) (σ.1 20) (σ.2.1 17) (σ.1 21) (σ.2.1 21) σ.2.2.1 (Z 35 0) (Z 36 0) (Z 37 0) (T 31 0) (T 33 0) (T 45 0) (T 46 0) (T 47 0) (T 48 0) (T 49 0) (T 50 0) (T 51 0) az us := by
      rw [a1 16 (by decide) (by decide), a1 17 (by decide) (by decide), a1 18 (by decide) (by decide), a1 19 (by decide) (by decide), a1 20 (by decide) (by decide), a1 21 (by decide) (by decide), a2, Z1 31 (by decide), Z1 33 (by decide), Z1 45 (by decide), Z1 46 (by decide), Z1 47 (by decide), Z1 48 (by decide), Z1 49 (by decide), Z1 50 (by decide), Z1 51 (by decide)] at hT
      exact hT
    obtain ⟨-, f1, f2, f3, f4, f5, f6, f7, f8, f9, f10, f11⟩ := id hT'
    have nm : ¬ nI t = -1 := fun q => nI_pos (show t < 2147483648 by omega) (by rw [q]; decide)
    obtain ⟨d1, d2⟩ := f4 (min us (az - 1)) (by omega)
    obtain ⟨σ', v1, v2, v3, v4⟩ := T_ans (σ := x_si (x_si S 15 nc 6 (nI t)) 0 0 12 1) (t := t) (nc := nc) (idx := 4 * ty + m) (az := az) (us := us) (m := nI m) (A := A) (B := B) (by omega) hnc hidx haz f1 (by omega) (by rw [Sx _ 18 (by decide) (by decide), a1 18 (by decide) (by decide)]; exact f2) (by rw [Sx _ 16 (by decide) (by decide), a1 16 (by decide) (by decide)]; exact f8) (by rw [Sx _ 16 (by decide) (by decide), a1 16 (by decide) (by decide)]; exact f6) (by rw [S15n _ 2 (by decide)]; exact a8.trans x1) (by rw [S15n _ 3 (by decide)]; exact a9) (by rw [S15n _ 4 (by decide)]; exact a10)
    rw [t3, t4, M_181 hnc hidx (by omega) (by omega), xp_e, if_pos hnc, xl_e, xl_e, S156, if_neg nm, if_pos (cIn rfl), cCl rfl, v1, xb_e, xb_e, xb_e, Sx _ 19 (by decide) (by decide), Sx _ 20 (by decide) (by decide), Sx _ 14 (by decide) (by decide), a1 19 (by decide) (by decide), a1 20 (by decide) (by decide), a1 14 (by decide) (by decide), d1, d2, h14', Z1 49 (by decide), Z1 50 (by decide), Z1 32 (by decide), hrl]
    refine ⟨_, _, _, rfl, rfl, ⟨n, 0, pz, nc + 1, tm, fz, ct, 1, note_fin (rr := nI t) (A := A) (B := B) h hk hnc hs hm x0 x1 hP hp (fun r q => ?_) (fun j hj => ?_) ?_ ?_ ?_ ?_ (fun i hi => ?_) ?_ ?_ ?_ ?_ ?_ ?_ ?_ (fun r q => ?_) (fun j hj => ?_) ?_ (fun j => ?_) (fun j => ?_) (fun j => ?_) (fun j => ?_) (fun j => ?_) (fun j => ?_) (fun j => ?_) (fun j hj => ?_) ?_⟩⟩
    · rw [v2 r q.2.2.2, Sx _ r q.1 q.2.2.1, a1 r q.2.1 q.2.2.1]
    · rw [v2 0 (by decide)]; exact S0 _ j hj
    · rw [v2 0 (by decide)]; exact S12 _
    · rw [v3]; exact a2
    · rw [v2 6 (by decide), Sx _ 6 (by decide) (by decide)]; exact a3
    · rw [v2 6 (by decide), Sx _ 6 (by decide) (by decide)]; exact a4
    · rw [v2 15 (by decide)]; exact S15 _ i hi
    · rw [v2 15 (by decide), S15n _ 0 (by decide)]; exact a6
    · rw [v2 15 (by decide), S15n _ 1 (by decide)]; exact a7.trans x0
    · rw [v2 15 (by decide), S15n _ 2 (by decide)]; exact a8.trans x1
    · rw [v2 15 (by decide), S15n _ 3 (by decide)]; exact a9
    · rw [v2 15 (by decide), S15n _ 4 (by decide)]; exact a10
    · rw [v2 15 (by decide), S15n _ 5 (by decide)]; exact a11
    · rw [v2 15 (by decide)]; exact S156 _
    · obtain ⟨q1, q2, q3, q4, q5, q6, q7, q8, q9, q10, q11, q12⟩ := q
      funext k j
      rw [yi_1, u3_r q10, yi_1, u3_r q12, Z1 r ⟨q1, q2, q3, q4, q5, q6, q7, q8, q9, q10, q11⟩]
    · rw [yi_1, u3_r (by decide), yi_1, u3_r (by decide)]; exact Z30 j hj
    · rw [yi_1, u3_r (by decide), yi_1, u3_r (by decide)]; exact Z9
    · rw [yi_1, u3_r (by decide), yi_1, u3_r (by decide), Zr 38 (by decide)]; exact y3 j
    · rw [yi_1, u3_r (by decide), yi_1, u3_r (by decide), Zr 39 (by decide)]; exact y4 j
    · rw [yi_1, u3_r (by decide), yi_1, u3_r (by decide), Zr 40 (by decide)]; exact y5 j
    · rw [yi_1, u3_r (by decide), yi_1, u3_r (by decide), Zr 41 (by decide)]; exact y6 j
    · rw [yi_1, u3_r (by decide), yi_1, u3_r (by decide), Zr 42 (by decide)]; exact y7 j
    · rw [yi_1, u3_self]
      unfold u1
      by_cases hj : j = nc
      · rw [if_pos hj, if_pos hj]
      · rw [if_neg hj, if_neg hj, yi_1, u3_r (by decide), Zr 43 (by decide), y8, if_neg hj]
    · rw [yi_1, u3_r (by decide), yi_1, u3_r (by decide), Zr 44 (by decide)]; exact y9 j
    · have := Zs' j hj
      simpa [yi_1, u3_r] using this
    · have := P5.used h5Z (t0 := t) (by omega) hT' haz (x16' := σ'.1 16) (t48' := (y_si (y_si Z 48 0 t (Z 48 0 t + 1)) 43 0 nc (nI t)) 48 0) (fun t' j => by rw [v4, Sx _ 16 (by decide) (by decide), a1 16 (by decide) (by decide)]) (fun t' => by
        rw [yi_1, u3_r (by decide), yi_1, u3_self]
        unfold u1
        rw [Z1 48 (by decide), f7, nI_1])
      simpa [yi_1, u3_r] using this
