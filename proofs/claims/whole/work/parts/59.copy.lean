/-! The model's copies. -/
def cpy (τ : yS) (s d off q : Nat) : yS := fun r k j => if (r = 36 ∨ r = 37) ∧ k = 0 ∧ 8 * d + off ≤ j ∧ j < 8 * d + off + q then τ r 0 (8 * s + (j - (8 * d + off))) else τ r k j
theorem cpy_0 (τ : yS) (s d off : Nat) : cpy τ s d off 0 = τ := by
  funext r k j
  unfold cpy
  rw [if_neg (by omega)]
theorem cpy_o {τ : yS} {s d off q r : Nat} (h6 : ¬ r = 36) (h7 : ¬ r = 37) : cpy τ s d off q r = τ r := by
  funext k j
  unfold cpy
  rw [if_neg (fun h => h.1.elim h6 h7)]
theorem cpy_n {τ : yS} {s d off q r k j : Nat} (h : j < 8 * d + off ∨ 8 * d + off + q ≤ j) : cpy τ s d off q r k j = τ r k j := by
  unfold cpy
  rw [if_neg (by omega)]
theorem cpy_y {τ : yS} {s d off q r j : Nat} (hr : r = 36 ∨ r = 37) (h : j < q) : cpy τ s d off q r 0 (8 * d + off + j) = τ r 0 (8 * s + j) := by
  unfold cpy
  rw [if_pos ⟨hr, rfl, by omega, by omega⟩]
  congr 2
  omega
theorem cpy_s {τ : yS} {s d off i : Nat} (disj : 8 * s + i < 8 * d + off ∨ 8 * d + off + i ≤ 8 * s) : y_si (y_si (cpy τ s d off i) 36 0 (8 * d + off + i) (cpy τ s d off i 36 0 (8 * s + i))) 37 0 (8 * d + off + i) ((y_si (cpy τ s d off i) 36 0 (8 * d + off + i) (cpy τ s d off i 36 0 (8 * s + i))) 37 0 (8 * s + i)) = cpy τ s d off (i + 1) := by
  have e6 : cpy τ s d off i 36 0 (8 * s + i) = τ 36 0 (8 * s + i) := cpy_n (by omega)
  have e7 : cpy τ s d off i 37 0 (8 * s + i) = τ 37 0 (8 * s + i) := cpy_n (by omega)
  have e7' : (y_si (cpy τ s d off i) 36 0 (8 * d + off + i) (τ 36 0 (8 * s + i))) 37 0 (8 * s + i) = τ 37 0 (8 * s + i) := by
    rw [yi_1, u3_r (by decide), e7]
  rw [e6, e7']
  funext r k j
  rw [yi_1, yi_1]
  by_cases hr : (r = 36 ∨ r = 37) ∧ k = 0 ∧ j = 8 * d + off + i
  · obtain ⟨hr1, hk, hj⟩ := hr
    subst hk
    subst hj
    rw [cpy_y hr1 (by omega)]
    rcases hr1 with rfl | rfl
    · simp [u3]
    · simp [u3]
  · have n7 : ¬ (r = 37 ∧ k = 0 ∧ j = 8 * d + off + i) := fun h => hr ⟨Or.inr h.1, h.2⟩
    have n6 : ¬ (r = 36 ∧ k = 0 ∧ j = 8 * d + off + i) := fun h => hr ⟨Or.inl h.1, h.2⟩
    unfold u3
    rw [if_neg n7, if_neg n6]
    unfold cpy
    by_cases hc : (r = 36 ∨ r = 37) ∧ k = 0 ∧ 8 * d + off ≤ j ∧ j < 8 * d + off + i
    · rw [if_pos hc, if_pos ⟨hc.1, hc.2.1, hc.2.2.1, by omega⟩]
    · rw [if_neg hc, if_neg]
      rintro ⟨q1, q2, q3, q4⟩
      by_cases hj : j = 8 * d + off + i
      · exact hr ⟨q1, q2, hj⟩
      · exact hc ⟨q1, q2, q3, by omega⟩
theorem M_copy3 {N : Nat} {τ : yS} {s d off q : Nat} (hs : s < 120) (hq : τ 35 0 s = nI q) (hq8 : q ≤ 8) (hd : 8 * d + off + q ≤ 960) (disj : 8 * s + q ≤ 8 * d + off ∨ 8 * d + off + q ≤ 8 * s) : ∀ (j i fuel : Nat), i + j = q → j < fuel → fM_copy_3 N fuel (cpy τ s d off i) (nI s) (nI d) (nI off) (nI i) = some (cpy τ s d off q) := by
  intro j
  induction j with
  | zero =>
    intro i fuel hij hf
    obtain ⟨e, rfl⟩ : ∃ e, fuel = e + 1 := ⟨fuel - 1, by omega⟩
    have hiq : i = q := by omega
    subst hiq
    unfold fM_copy_3 fM_copy_3b
    have e35 : cpy τ s d off i 35 0 s = nI i := by rw [cpy_o (by decide) (by decide)]; exact hq
    rw [if_pos (cIn rfl), cCl rfl, if_pos ((cLe e35 (y := nI i) rfl).mpr (by omega))]
  | succ j ih =>
    intro i fuel hij hf
    obtain ⟨e, rfl⟩ : ∃ e, fuel = e + 1 := ⟨fuel - 1, by omega⟩
    unfold fM_copy_3 fM_copy_3b
    have e35 : cpy τ s d off i 35 0 s = nI q := by rw [cpy_o (by decide) (by decide)]; exact hq
    have ei : (8 : Int32) * nI s + nI i = nI (8 * s + i) := by rw [show (8 : Int32) = nI 8 from rfl, pk_mul, nI_add]
    have ed : (8 : Int32) * nI d + nI off + nI i = nI (8 * d + off + i) := by rw [show (8 : Int32) = nI 8 from rfl, pk_mul, nI_add, nI_add]
    rw [if_pos (cIn rfl), cCl rfl, if_neg (fun h => by have := (cLe e35 (y := nI i) rfl).mp h; omega), ei, if_pos (cIn rfl), cCl rfl, ed, if_pos (cIn rfl), cCl rfl]
    simp only [xl_e]
    rw [cpy_s (by omega), show (1 : Int32) = nI 1 from rfl, nI_add]
    exact ih (i + 1) e (by omega) (by omega)
theorem M_copy {N : Nat} (hN : 64 ≤ N) {τ : yS} {s d off q : Nat} (hs : s < 120) (hq : τ 35 0 s = nI q) (hq8 : q ≤ 8) (hd : 8 * d + off + q ≤ 960) (disj : 8 * s + q ≤ 8 * d + off ∨ 8 * d + off + q ≤ 8 * s) : fM_copy N τ (nI s) (nI d) (nI off) = some (cpy τ s d off q) := by
  have := M_copy3 (N := N) hs hq hq8 hd disj q 0 N (by omega) (by omega)
  rw [cpy_0] at this
  exact this
theorem sEq.trans {sz kd vl sz' kd' vl' sz'' kd'' vl'' : Nat → Int32} {s s' s'' : Nat} (h : sEq sz kd vl sz' kd' vl' s s') (g : sEq sz' kd' vl' sz'' kd'' vl'' s' s'') : sEq sz kd vl sz'' kd'' vl'' s s'' := by
  refine ⟨g.1.trans h.1, fun q k h1 h2 h3 => ?_⟩
  obtain ⟨a1, a2⟩ := h.2 q k h1 h2 h3
  obtain ⟨b1, b2⟩ := g.2 q k (h.1.trans h1) h2 h3
  exact ⟨b1.trans a1, b2.trans a2⟩
/-- one matcher kept elsewhere -/
theorem kp_step {N : Nat} (hN : 64 ≤ N) {τ : yS} {s d q : Nat} (hs : s < 120) (hd : d < 120) (hne : ¬ s = d) (hq : τ 35 0 s = nI q) (hq8 : q ≤ 8) : ∃ τ', fM_copy N (y_si τ 35 0 d (nI q)) (nI s) (nI d) 0 = some τ' ∧ (∀ r, ¬ r = 35 → ¬ r = 36 → ¬ r = 37 → τ' r = τ r) ∧ (∀ j, ¬ j = d → sEq (τ 35 0) (τ 36 0) (τ 37 0) (τ' 35 0) (τ' 36 0) (τ' 37 0) j j) ∧ sEq (τ 35 0) (τ 36 0) (τ 37 0) (τ' 35 0) (τ' 36 0) (τ' 37 0) s d := by
  have e35 : (y_si τ 35 0 d (nI q)) 35 0 s = nI q := by rw [yi_1, u3_j hne]; exact hq
  refine ⟨_, M_copy (off := 0) hN hs e35 hq8 (by omega) (by omega), fun r h5 h6 h7 => ?_, fun j hj => ⟨?_, fun q' k' h1 h2 h3 => ⟨?_, ?_⟩⟩, ⟨?_, fun q' k' h1 h2 h3 => ?_⟩⟩
  · rw [cpy_o h6 h7, yi_1]
    funext k j
    rw [u3_r h5]
  · rw [cpy_o (by decide) (by decide), yi_1, u3_j hj]
  · rw [cpy_n (by omega), yi_1, u3_r (by decide)]
  · rw [cpy_n (by omega), yi_1, u3_r (by decide)]
  · rw [cpy_o (by decide) (by decide), yi_1, u3_e, hq]
  · have hqq : q' = q := by
      rw [hq] at h1
      exact ((nI_eq (by omega) (by omega)).mp h1).symm
    subst hqq
    have g6 := cpy_y (τ := y_si τ 35 0 d (nI q')) (s := s) (d := d) (off := 0) (q := q') (r := 36) (j := k') (Or.inl rfl) h2
    have g7 := cpy_y (τ := y_si τ 35 0 d (nI q')) (s := s) (d := d) (off := 0) (q := q') (r := 37) (j := k') (Or.inr rfl) h2
    rw [Nat.add_zero] at g6 g7
    rw [g6, g7, yi_1, u3_r (by decide), u3_r (by decide)]
    exact ⟨rfl, rfl⟩
theorem keep_3 {N : Nat} (hN : 64 ≤ N) {τ : yS} {a1 a2 p : Nat} (h1 : a1 + 1 < 120) (h2 : a2 + 1 < 120) (hd : a1 + 2 ≤ a2 ∨ a2 + 2 ≤ a1) (hp : p ≤ 2) (hq : ∀ i, i < p → ∃ q, q ≤ 8 ∧ τ 35 0 (a1 + i) = nI q) : ∀ (j i fuel : Nat) (τi : yS), i + j = p → j < fuel → (∀ r, ¬ r = 35 → ¬ r = 36 → ¬ r = 37 → τi r = τ r) → (∀ j, (j < a2 ∨ a2 + 2 ≤ j) → sEq (τ 35 0) (τ 36 0) (τ 37 0) (τi 35 0) (τi 36 0) (τi 37 0) j j) → (∀ j, j < i → sEq (τ 35 0) (τ 36 0) (τ 37 0) (τi 35 0) (τi 36 0) (τi 37 0) (a1 + j) (a2 + j)) →
    ∃ τ', fM_keep_3 N fuel τi (nI a1) (nI a2) (nI p) (nI i) = some τ' ∧ (∀ r, ¬ r = 35 → ¬ r = 36 → ¬ r = 37 → τ' r = τ r) ∧ (∀ j, (j < a2 ∨ a2 + 2 ≤ j) → sEq (τ 35 0) (τ 36 0) (τ 37 0) (τ' 35 0) (τ' 36 0) (τ' 37 0) j j) ∧ (∀ j, j < p → sEq (τ 35 0) (τ 36 0) (τ 37 0) (τ' 35 0) (τ' 36 0) (τ' 37 0) (a1 + j) (a2 + j)) := by
  intro j
  induction j with
  | zero =>
    intro i fuel τi hij hf g1 g2 g3
    obtain ⟨e, rfl⟩ : ∃ e, fuel = e + 1 := ⟨fuel - 1, by omega⟩
    have hiq : i = p := by omega
    subst hiq
    refine ⟨τi, ?_, g1, g2, g3⟩
    unfold fM_keep_3 fM_keep_3b
    rw [if_pos ((cLe (x := nI i) rfl (y := nI i) rfl).mpr (by omega))]
  | succ j ih =>
    intro i fuel τi hij hf g1 g2 g3
    obtain ⟨e, rfl⟩ : ∃ e, fuel = e + 1 := ⟨fuel - 1, by omega⟩
    obtain ⟨q, q8, hq35⟩ := hq i (by omega)
    have hq35' : τi 35 0 (a1 + i) = nI q := by rw [(g2 (a1 + i) (by omega)).1]; exact hq35
    obtain ⟨τ1, c1, c2, c3, c4⟩ := kp_step hN (τ := τi) (s := a1 + i) (d := a2 + i) (by omega) (by omega) (by omega) hq35' q8
    unfold fM_keep_3 fM_keep_3b
    rw [if_neg (fun h => by have := (cLe (x := nI p) rfl (y := nI i) rfl).mp h; omega), nI_add, nI_add, if_pos (cIn (a := a1 + i) rfl), if_pos (cIn (a := a2 + i) rfl), cCl (a := a1 + i) rfl, cCl (a := a2 + i) rfl, hq35', xl_e, c1, xp_e, show (1 : Int32) = nI 1 from rfl, nI_add]
    refine ih (i + 1) e τ1 (by omega) (by omega) (fun r h5 h6 h7 => (c2 r h5 h6 h7).trans (g1 r h5 h6 h7)) (fun j hj => (g2 j hj).trans (c3 j (by omega))) (fun j hj => ?_)
    by_cases hji : j = i
    · subst hji
      exact (g2 (a1 + j) (by omega)).trans c4
    · exact (g3 j (by omega)).trans (c3 (a2 + j) (by omega))
theorem keep_e {N : Nat} (hN : 64 ≤ N) {τ : yS} {a1 a2 p : Nat} (h1 : a1 + 1 < 120) (h2 : a2 + 1 < 120) (hd : a1 + 2 ≤ a2 ∨ a2 + 2 ≤ a1) (hp : p ≤ 2) (hq : ∀ i, i < p → ∃ q, q ≤ 8 ∧ τ 35 0 (a1 + i) = nI q) :
    ∃ τ', fM_keep N τ (nI a1) (nI a2) (nI p) = some τ' ∧ (∀ r, ¬ r = 35 → ¬ r = 36 → ¬ r = 37 → τ' r = τ r) ∧ (∀ j, (j < a2 ∨ a2 + 2 ≤ j) → sEq (τ 35 0) (τ 36 0) (τ 37 0) (τ' 35 0) (τ' 36 0) (τ' 37 0) j j) ∧ (∀ j, j < p → sEq (τ 35 0) (τ 36 0) (τ 37 0) (τ' 35 0) (τ' 36 0) (τ' 37 0) (a1 + j) (a2 + j)) :=
  keep_3 hN h1 h2 hd hp hq p 0 N τ (by omega) (by omega) (fun _ _ _ _ => rfl) (fun _ _ => sEq.rfl') (fun j hj => absurd hj (by omega))
-- answers
def cpa (τ : yS) (t i : Nat) : yS := fun r k j => if (r = 49 ∨ r = 50) ∧ k = 0 ∧ 4 * t ≤ j ∧ j < 4 * t + i then τ r 0 (64 + (j - 4 * t)) else τ r k j
theorem cpa_0 (τ : yS) (t : Nat) : cpa τ t 0 = τ := by
  funext r k j
  unfold cpa
  rw [if_neg (by omega)]
theorem cpa_o {τ : yS} {t i r : Nat} (h6 : ¬ r = 49) (h7 : ¬ r = 50) : cpa τ t i r = τ r := by
  funext k j
  unfold cpa
  rw [if_neg (fun h => h.1.elim h6 h7)]
theorem cpa_n {τ : yS} {t i r k j : Nat} (h : j < 4 * t ∨ 4 * t + i ≤ j) : cpa τ t i r k j = τ r k j := by
  unfold cpa
  rw [if_neg (by omega)]
theorem cpa_y {τ : yS} {t i r j : Nat} (hr : r = 49 ∨ r = 50) (h : j < i) : cpa τ t i r 0 (4 * t + j) = τ r 0 (64 + j) := by
  unfold cpa
  rw [if_pos ⟨hr, rfl, by omega, by omega⟩]
  congr 2
  omega
theorem cpa_s {τ : yS} {t i : Nat} (ht : t < 16) (hi : i < 4) : y_si (y_si (cpa τ t i) 49 0 (4 * t + i) (cpa τ t i 49 0 (64 + i))) 50 0 (4 * t + i) ((y_si (cpa τ t i) 49 0 (4 * t + i) (cpa τ t i 49 0 (64 + i))) 50 0 (64 + i)) = cpa τ t (i + 1) := by
  have e6 : cpa τ t i 49 0 (64 + i) = τ 49 0 (64 + i) := cpa_n (by omega)
  have e7 : cpa τ t i 50 0 (64 + i) = τ 50 0 (64 + i) := cpa_n (by omega)
  have e7' : (y_si (cpa τ t i) 49 0 (4 * t + i) (τ 49 0 (64 + i))) 50 0 (64 + i) = τ 50 0 (64 + i) := by
    rw [yi_1, u3_r (by decide), e7]
  rw [e6, e7']
  funext r k j
  rw [yi_1, yi_1]
  by_cases hr : (r = 49 ∨ r = 50) ∧ k = 0 ∧ j = 4 * t + i
  · obtain ⟨hr1, hk, hj⟩ := hr
    subst hk
    subst hj
    rw [cpa_y hr1 (by omega)]
    rcases hr1 with rfl | rfl
    · simp [u3]
    · simp [u3]
  · have n7 : ¬ (r = 50 ∧ k = 0 ∧ j = 4 * t + i) := fun h => hr ⟨Or.inr h.1, h.2⟩
    have n6 : ¬ (r = 49 ∧ k = 0 ∧ j = 4 * t + i) := fun h => hr ⟨Or.inl h.1, h.2⟩
    unfold u3
    rw [if_neg n7, if_neg n6]
    unfold cpa
    by_cases hc : (r = 49 ∨ r = 50) ∧ k = 0 ∧ 4 * t ≤ j ∧ j < 4 * t + i
    · rw [if_pos hc, if_pos ⟨hc.1, hc.2.1, hc.2.2.1, by omega⟩]
    · rw [if_neg hc, if_neg]
      rintro ⟨q1, q2, q3, q4⟩
      by_cases hj : j = 4 * t + i
      · exact hr ⟨q1, q2, hj⟩
      · exact hc ⟨q1, q2, q3, by omega⟩
theorem M_tell99 {N : Nat} {τ : yS} {t q : Nat} (ht : t < 16) (hq : τ 47 0 16 = nI q) (hq4 : q ≤ 4) : ∀ (j i fuel : Nat), i + j = q → j < fuel → fM_tell_99 N fuel (cpa τ t i) (nI t) (nI i) = some (y_si (cpa τ t q) 47 0 16 0) := by
  intro j
  induction j with
  | zero =>
    intro i fuel hij hf
    obtain ⟨e, rfl⟩ : ∃ e, fuel = e + 1 := ⟨fuel - 1, by omega⟩
    have hiq : i = q := by omega
    subst hiq
    unfold fM_tell_99 fM_tell_99b
    have e47 : cpa τ t i 47 0 16 = nI i := by rw [cpa_o (by decide) (by decide)]; exact hq
    rw [c16, if_pos ((cLe e47 (y := nI i) rfl).mpr (by omega)), xl_e]
  | succ j ih =>
    intro i fuel hij hf
    obtain ⟨e, rfl⟩ : ∃ e, fuel = e + 1 := ⟨fuel - 1, by omega⟩
    unfold fM_tell_99 fM_tell_99b
    have e47 : cpa τ t i 47 0 16 = nI q := by rw [cpa_o (by decide) (by decide)]; exact hq
    have ei : (64 : Int32) + nI i = nI (64 + i) := by rw [show (64 : Int32) = nI 64 from rfl, nI_add]
    have ed : (4 : Int32) * nI t + nI i = nI (4 * t + i) := by rw [show (4 : Int32) = nI 4 from rfl, pk_mul, nI_add]
    rw [c16, if_neg (fun h => by have := (cLe e47 (y := nI i) rfl).mp h; omega), ei, if_pos (cIn rfl), cCl rfl, ed, if_pos (cIn rfl), cCl rfl]
    simp only [xl_e]
    rw [cpa_s ht (by omega), show (1 : Int32) = nI 1 from rfl, nI_add]
    exact ih (i + 1) e (by omega) (by omega)
/-- the model makes a telling -/
theorem tell_e {N : Nat} (hN : 64 ≤ N) {τ : yS} {tm s m ty p a3 pz : Nat} (htm : tm < 16) (h29 : τ 30 0 29 = nI tm) (hs : s < 6) (hm : m < 4) (hty : τ 33 0 s = nI ty) (hty3 : ty < 3) (h31 : τ 31 0 (4 * ty + m) = nI p) (hp : p ≤ 2) (ha3 : a3 + 1 < 88) (hq : ∀ i, i < p → ∃ q, q ≤ 8 ∧ τ 35 0 (a3 + i) = nI q) (hpz : τ 47 0 16 = nI pz) (hpz4 : pz ≤ 4) :
    ∃ τ', fM_tell N τ (nI s) (nI m) (nI a3) = some τ' ∧ (∀ r, ¬ r = 30 → ¬ r = 35 → ¬ r = 36 → ¬ r = 37 → ¬ r = 45 → ¬ r = 46 → ¬ r = 47 → ¬ r = 48 → ¬ r = 49 → ¬ r = 50 → τ' r = τ r) ∧ (∀ j, τ' 30 0 j = if j = 29 then nI (tm + 1) else τ 30 0 j) ∧ (∀ j, τ' 45 0 j = if j = tm then nI s else τ 45 0 j) ∧ (∀ j, τ' 46 0 j = if j = tm then nI m else τ 46 0 j) ∧ (∀ j, τ' 48 0 j = if j = tm then 0 else τ 48 0 j) ∧ (∀ j, (j < 88 + 2 * tm ∨ 88 + 2 * tm + 2 ≤ j) → sEq (τ 35 0) (τ 36 0) (τ 37 0) (τ' 35 0) (τ' 36 0) (τ' 37 0) j j) ∧ (∀ j, j < p → sEq (τ 35 0) (τ 36 0) (τ 37 0) (τ' 35 0) (τ' 36 0) (τ' 37 0) (a3 + j) (88 + 2 * tm + j)) ∧
      (∀ j, τ' 47 0 j = if a3 = 6 ∧ j = 16 then 0 else if j = tm then (if a3 = 6 then nI pz else 0) else τ 47 0 j) ∧ (∀ r j, r = 49 ∨ r = 50 → τ' r 0 j = if a3 = 6 ∧ 4 * tm ≤ j ∧ j < 4 * tm + pz then τ r 0 (64 + (j - 4 * tm)) else τ r 0 j) := by
  unfold fM_tell
  have e88 : (88 : Int32) + 2 * nI tm = nI (88 + 2 * tm) := by rw [show (88 : Int32) = nI 88 from rfl, show (2 : Int32) = nI 2 from rfl, pk_mul, nI_add]
  have e1 : nI tm + 1 = nI (tm + 1) := by rw [show (1 : Int32) = nI 1 from rfl, nI_add]
  simp only [xl_e]
  rw [h29, e1, e88, if_pos (cIn rfl), cCl rfl]
  have hk := keep_e hN (τ := y_si (y_si (y_si (y_si τ 30 0 29 (nI (tm + 1))) 45 0 tm (nI s)) 46 0 tm (nI m)) 48 0 tm 0) (a1 := a3) (a2 := 88 + 2 * tm) (p := p) (by omega) (by omega) (by omega) hp (fun i hi => by
    obtain ⟨q, q1, q2⟩ := hq i hi
    exact ⟨q, q1, by simp [yi_1, u3_r]; exact q2⟩)
  obtain ⟨τ1, k1, k2, k3, k4⟩ := hk
  have f33 : (y_si (y_si (y_si (y_si τ 30 0 29 (nI (tm + 1))) 45 0 tm (nI s)) 46 0 tm (nI m)) 48 0 tm 0) 33 0 s = nI ty := by simp [yi_1, u3_r]; exact hty
  have f31 : (y_si (y_si (y_si (y_si τ 30 0 29 (nI (tm + 1))) 45 0 tm (nI s)) 46 0 tm (nI m)) 48 0 tm 0) 31 0 (4 * ty + m) = nI p := by simp [yi_1, u3_r]; exact h31
  rw [M_shape_e hs f33, xp_e, if_pos (cIn rfl), cCl rfl, f31, k1, xp_e, if_pos (cIn' (by omega)), c16]
  have k30 : τ1 30 = (y_si τ 30 0 29 (nI (tm + 1))) 30 := by rw [k2 30 (by decide) (by decide) (by decide)]; simp [yi_1, u3_r]
  have k45 : τ1 45 = (y_si τ 45 0 tm (nI s)) 45 := by
    rw [k2 45 (by decide) (by decide) (by decide)]; funext k j; simp [yi_1, u3]
  have k46 : τ1 46 = (y_si τ 46 0 tm (nI m)) 46 := by
    rw [k2 46 (by decide) (by decide) (by decide)]; funext k j; simp [yi_1, u3]
  have k48 : τ1 48 = (y_si τ 48 0 tm 0) 48 := by
    rw [k2 48 (by decide) (by decide) (by decide)]; funext k j; simp [yi_1, u3]
  have k47 : τ1 47 = τ 47 := by
    rw [k2 47 (by decide) (by decide) (by decide)]; funext k j; simp [yi_1, u3]
  have k49 : τ1 49 = τ 49 := by
    rw [k2 49 (by decide) (by decide) (by decide)]; funext k j; simp [yi_1, u3]
  have k50 : τ1 50 = τ 50 := by
    rw [k2 50 (by decide) (by decide) (by decide)]; funext k j; simp [yi_1, u3]
  have k3' : ∀ j, (j < 88 + 2 * tm ∨ 88 + 2 * tm + 2 ≤ j) → sEq (τ 35 0) (τ 36 0) (τ 37 0) (τ1 35 0) (τ1 36 0) (τ1 37 0) j j := fun j hj => by simpa [yi_1, u3_r] using k3 j hj
  have k4' : ∀ j, j < p → sEq (τ 35 0) (τ 36 0) (τ 37 0) (τ1 35 0) (τ1 36 0) (τ1 37 0) (a3 + j) (88 + 2 * tm + j) := fun j hj => by simpa [yi_1, u3_r] using k4 j hj
  have kr : ∀ r, ¬ r = 30 → ¬ r = 35 → ¬ r = 36 → ¬ r = 37 → ¬ r = 45 → ¬ r = 46 → ¬ r = 48 → τ1 r = τ r := fun r h30 h35 h36 h37 h45 h46 h48 => by
    rw [k2 r h35 h36 h37]; funext k j; simp [yi_1, u3, h30, h45, h46, h48]
  by_cases h6 : a3 = 6
  · rw [if_pos ((cEq (x := nI a3) rfl (y := 6) (b := 6) rfl).mpr h6)]
    have g47 : (y_si τ1 47 0 tm 0) 47 0 16 = nI pz := by rw [yi_1, u3_j (by omega), k47]; exact hpz
    rw [g47]
    have g47' : (y_si (y_si τ1 47 0 tm 0) 47 0 tm (nI pz)) 47 0 16 = nI pz := by rw [yi_1, u3_j (by omega)]; exact g47
    have hl := M_tell99 (N := N) htm g47' hpz4 pz 0 N (by omega) (by omega)
    rw [cpa_0] at hl
    refine ⟨_, hl, fun r h30 h35 h36 h37 h45 h46 h47 h48 h49 h50 => ?_, fun j => ?_, fun j => ?_, fun j => ?_, fun j => ?_, fun j hj => ?_, fun j hj => ?_, fun j => ?_, fun r j hr => ?_⟩
    · rw [← kr r h30 h35 h36 h37 h45 h46 h48]
      funext k j
      rw [yi_1, u3_r h47, cpa_o h49 h50, yi_1, u3_r h47, yi_1, u3_r h47]
    · rw [yi_1, u3_r (by decide), cpa_o (by decide) (by decide), yi_1, u3_r (by decide), yi_1, u3_r (by decide), k30, yi_1, u3_self]; rfl
    · rw [yi_1, u3_r (by decide), cpa_o (by decide) (by decide), yi_1, u3_r (by decide), yi_1, u3_r (by decide), k45, yi_1, u3_self]; rfl
    · rw [yi_1, u3_r (by decide), cpa_o (by decide) (by decide), yi_1, u3_r (by decide), yi_1, u3_r (by decide), k46, yi_1, u3_self]; rfl
    · rw [yi_1, u3_r (by decide), cpa_o (by decide) (by decide), yi_1, u3_r (by decide), yi_1, u3_r (by decide), k48, yi_1, u3_self]; rfl
    · have := k3' j hj
      simpa [yi_1, u3_r, cpa_o] using this
    · have := k4' j hj
      simpa [yi_1, u3_r, cpa_o] using this
    · rw [yi_1, u3_self, cpa_o (by decide) (by decide), yi_1, u3_self, yi_1, u3_self, k47]
      unfold u1
      by_cases q1 : j = 16
      · rw [if_pos q1, if_pos ⟨h6, q1⟩]
      · have q1' : ¬ (a3 = 6 ∧ j = 16) := fun q => q1 q.2
        rw [if_neg q1, if_neg q1', if_pos h6]
        by_cases q2 : j = tm
        · simp only [if_pos q2]
        · simp only [if_neg q2]
    · have hr47 : ¬ r = 47 := by omega
      have kr0 : τ1 r = τ r := by rcases hr with rfl | rfl
                                  · exact k49
                                  · exact k50
      rw [yi_1, u3_r hr47]
      unfold cpa
      rw [yi_1, u3_r hr47, yi_1, u3_r hr47, kr0]
      by_cases q : 4 * tm ≤ j ∧ j < 4 * tm + pz
      · rw [if_pos ⟨hr, rfl, q⟩, if_pos ⟨h6, q⟩]
      · rw [if_neg (fun h => q h.2.2), if_neg (fun h => q h.2)]
  · rw [if_neg (fun q => h6 ((cEq (x := nI a3) rfl (y := 6) (b := 6) rfl).mp q))]
    refine ⟨_, rfl, fun r h30 h35 h36 h37 h45 h46 h47 h48 h49 h50 => ?_, fun j => ?_, fun j => ?_, fun j => ?_, fun j => ?_, fun j hj => ?_, fun j hj => ?_, fun j => ?_, fun r j hr => ?_⟩
    · rw [← kr r h30 h35 h36 h37 h45 h46 h48]
      funext k j
      rw [yi_1, u3_r h47]
    · rw [yi_1, u3_r (by decide), k30, yi_1, u3_self]; rfl
    · rw [yi_1, u3_r (by decide), k45, yi_1, u3_self]; rfl
    · rw [yi_1, u3_r (by decide), k46, yi_1, u3_self]; rfl
    · rw [yi_1, u3_r (by decide), k48, yi_1, u3_self]; rfl
    · have := k3' j hj
      simpa [yi_1, u3_r, cpa_o] using this
    · have := k4' j hj
      simpa [yi_1, u3_r, cpa_o] using this
    · rw [yi_1, u3_self, k47]
      have q1' : ¬ (a3 = 6 ∧ j = 16) := fun q => h6 q.1
      unfold u1
      rw [if_neg q1', if_neg h6]
    · have hr47 : ¬ r = 47 := by omega
      have kr0 : τ1 r = τ r := by rcases hr with rfl | rfl
                                  · exact k49
                                  · exact k50
      rw [yi_1, u3_r hr47, kr0, if_neg (fun q => h6 q.1)]
