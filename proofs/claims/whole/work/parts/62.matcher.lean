/-! matcher: the model's copy of it, and the step. -/
theorem cpy_sEq {τ : yS} {s d off q j : Nat} (hj : ¬ j = d) (h8 : off + q ≤ 8) : sEq (τ 35 0) (τ 36 0) (τ 37 0) (cpy τ s d off q 35 0) (cpy τ s d off q 36 0) (cpy τ s d off q 37 0) j j := by
  refine ⟨by rw [cpy_o (by decide) (by decide)], fun q' k h1 h2 h3 => ⟨cpy_n (by omega), cpy_n (by omega)⟩⟩
theorem M_fin {N e : Nat} (hN : 64 ≤ N) {τ : yS} {ss t q : Nat} (ht : 1 ≤ t) (hts : t ≤ ss) (hss : ss ≤ 6) (h8 : τ 30 0 8 = nI ss) (hq : q ≤ 8) :
    ∃ τ', fM_matcher_215 N (e + 1) τ (nI t) (nI q) (nI ss) = some (nI (ss - t + 1), τ') ∧ (∀ r, ¬ r = 30 → ¬ r = 35 → ¬ r = 36 → ¬ r = 37 → τ' r = τ r) ∧ (∀ j, τ' 30 0 j = if j = 8 then nI (ss - t + 1) else τ 30 0 j) ∧ (∀ j, ¬ j = ss - t → ¬ j = 6 → sEq (τ 35 0) (τ 36 0) (τ 37 0) (τ' 35 0) (τ' 36 0) (τ' 37 0) j j) ∧ τ' 35 0 (ss - t) = nI q ∧ (∀ k, k < q → τ' 36 0 (8 * (ss - t) + k) = τ 36 0 (48 + k) ∧ τ' 37 0 (8 * (ss - t) + k) = τ 37 0 (48 + k)) := by
  have c6 : (6 : Int32).toNatClampNeg = 6 := rfl
  have e1 : nI ss - (nI t - 1) = nI (ss - t + 1) := by
    rw [show (1 : Int32) = nI 1 from rfl, pk_sub ht, pk_sub (by omega)]
    congr 1
    omega
  have e2 : nI (ss - t + 1) - 1 = nI (ss - t) := by rw [show (1 : Int32) = nI 1 from rfl, pk_sub (by omega)]; rfl
  unfold fM_matcher_215 fM_matcher_215b
  rw [if_pos ((cLe h8 (y := nI ss) rfl).mpr (by omega)), c6]
  simp only [xl_e]
  have f1 : (y_si τ 35 0 6 (nI q)) 30 0 8 = nI ss := by rw [yi_1, u3_r (by decide)]; exact h8
  rw [f1, e1]
  have f2 : (y_si (y_si τ 35 0 6 (nI q)) 30 0 8 (nI (ss - t + 1))) 30 0 8 = nI (ss - t + 1) := by rw [yi_1, u3_e]
  rw [f2, e2, if_pos (cIn rfl), cCl rfl]
  have f3 : (y_si (y_si (y_si τ 35 0 6 (nI q)) 30 0 8 (nI (ss - t + 1))) 35 0 (ss - t) (nI q)) 30 0 8 = nI (ss - t + 1) := by rw [yi_1, u3_r (by decide)]; exact f2
  have f4 : (y_si (y_si (y_si τ 35 0 6 (nI q)) 30 0 8 (nI (ss - t + 1))) 35 0 (ss - t) (nI q)) 35 0 6 = nI q := by
    rw [yi_1, u3_j (by omega), yi_1, u3_r (by decide), yi_1, u3_e]
  have f5 : fM_copy N (y_si (y_si (y_si τ 35 0 6 (nI q)) 30 0 8 (nI (ss - t + 1))) 35 0 (ss - t) (nI q)) 6 (nI (ss - t)) 0 = some (cpy (y_si (y_si (y_si τ 35 0 6 (nI q)) 30 0 8 (nI (ss - t + 1))) 35 0 (ss - t) (nI q)) 6 (ss - t) 0 q) := M_copy hN (s := 6) (d := ss - t) (off := 0) (by decide) f4 hq (by omega) (by omega)
  rw [f3, e2, f5, xp_e]
  have f6 : (cpy (y_si (y_si (y_si τ 35 0 6 (nI q)) 30 0 8 (nI (ss - t + 1))) 35 0 (ss - t) (nI q)) 6 (ss - t) 0 q) 30 = (y_si τ 30 0 8 (nI (ss - t + 1))) 30 := by
    rw [cpy_o (by decide) (by decide)]; funext k j; simp [yi_1, u3]
  rw [show (cpy (y_si (y_si (y_si τ 35 0 6 (nI q)) 30 0 8 (nI (ss - t + 1))) 35 0 (ss - t) (nI q)) 6 (ss - t) 0 q) 30 0 8 = nI (ss - t + 1) by rw [f6, yi_1, u3_e]]
  refine ⟨_, rfl, fun r h30 h35 h36 h37 => ?_, fun j => ?_, fun j h1 h2 => ?_, ?_, fun k hk => ?_⟩
  · rw [cpy_o h36 h37]; funext k j; simp [yi_1, u3, h30, h35]
  · rw [f6, yi_1, u3_self]; rfl
  · have := cpy_sEq (τ := y_si (y_si (y_si τ 35 0 6 (nI q)) 30 0 8 (nI (ss - t + 1))) 35 0 (ss - t) (nI q)) (s := 6) (d := ss - t) (off := 0) (q := q) (j := j) h1 (by omega)
    refine sEq.trans (sz' := (y_si (y_si (y_si τ 35 0 6 (nI q)) 30 0 8 (nI (ss - t + 1))) 35 0 (ss - t) (nI q)) 35 0) (kd' := (y_si (y_si (y_si τ 35 0 6 (nI q)) 30 0 8 (nI (ss - t + 1))) 35 0 (ss - t) (nI q)) 36 0) (vl' := (y_si (y_si (y_si τ 35 0 6 (nI q)) 30 0 8 (nI (ss - t + 1))) 35 0 (ss - t) (nI q)) 37 0) (s' := j) ⟨?_, fun q' k _ _ _ => ⟨?_, ?_⟩⟩ this
    · rw [yi_1, u3_j h1, yi_1, u3_r (by decide), yi_1, u3_j h2]
    · simp [yi_1, u3_r]
    · simp [yi_1, u3_r]
  · rw [cpy_o (by decide) (by decide), yi_1, u3_e]
  · have g6 := cpy_y (τ := y_si (y_si (y_si τ 35 0 6 (nI q)) 30 0 8 (nI (ss - t + 1))) 35 0 (ss - t) (nI q)) (s := 6) (d := ss - t) (off := 0) (q := q) (r := 36) (j := k) (Or.inl rfl) hk
    have g7 := cpy_y (τ := y_si (y_si (y_si τ 35 0 6 (nI q)) 30 0 8 (nI (ss - t + 1))) 35 0 (ss - t) (nI q)) (s := 6) (d := ss - t) (off := 0) (q := q) (r := 37) (j := k) (Or.inr rfl) hk
    simp only [Nat.add_zero] at g6 g7
    rw [g6, g7]
    simp [yi_1, u3_r]
theorem M_stp {N e : Nat} (hN : 64 ≤ N) {τ : yS} {ss t off q i : Nat} (hi : i < ss) (hss : ss ≤ 6) (h8 : τ 30 0 8 = nI ss) (h35 : τ 35 0 i = nI q) (hq : off + q ≤ 8) : fM_matcher_215 N (e + 1) τ (nI t) (nI off) (nI i) = fM_matcher_215 N e (cpy τ i 6 off q) (nI t) (nI (off + q)) (nI (i + 1)) := by
  have f5 : fM_copy N τ (nI i) 6 (nI off) = some (cpy τ i 6 off q) := M_copy hN (s := i) (d := 6) (off := off) (by omega) h35 (by omega) (by omega) (by omega)
  have f6 : cpy τ i 6 off q 35 0 i = nI q := by rw [cpy_o (by decide) (by decide)]; exact h35
  conv => lhs; unfold fM_matcher_215 fM_matcher_215b
  rw [if_neg (fun h => by have := (cLe h8 (y := nI i) rfl).mp h; omega), f5, xp_e, if_pos (cIn rfl), cCl rfl, f6, nI_add, show (1 : Int32) = nI 1 from rfl, nI_add]
/-- what the model does to its stack -/
def Mst (τ τ' : yS) (s' : Nat) (l : List (Int32 × Int32)) : Prop := (∀ r, ¬ r = 30 → ¬ r = 35 → ¬ r = 36 → ¬ r = 37 → τ' r = τ r) ∧ (∀ j, τ' 30 0 j = if j = 8 then nI (s' + 1) else τ 30 0 j) ∧ (∀ j, (j < s' ∨ 8 ≤ j) → sEq (τ 35 0) (τ 36 0) (τ 37 0) (τ' 35 0) (τ' 36 0) (τ' 37 0) j j) ∧ τ' 35 0 s' = nI l.length ∧ ∀ k, k < l.length → l[k]? = some (τ' 36 0 (8 * s' + k), τ' 37 0 (8 * s' + k))
theorem M_new0 {N : Nat} {τ : yS} {ss : Nat} {a b : Int32} (hss : ss < 6) (h8 : τ 30 0 8 = nI ss) : ∃ τ', fM_matcher_159 N τ a b (nI 0) = some (nI (ss + 1), τ') ∧ Mst τ τ' ss [(a, b)] := by
  have e8 : (8 : Int32) * nI ss = nI (8 * ss) := by rw [show (8 : Int32) = nI 8 from rfl, pk_mul]
  unfold fM_matcher_159 fM_single
  rw [if_pos (show nI 0 = 0 from rfl), h8, if_pos (cIn rfl), cCl rfl, e8]
  simp only [xl_e]
  rw [if_pos (cIn rfl), cCl rfl]
  simp only [xp_e]
  have f1 : (y_si (y_si (y_si τ 35 0 ss 1) 36 0 (8 * ss) a) 37 0 (8 * ss) b) 30 0 8 = nI ss := by simp [yi_1, u3_r]; exact h8
  rw [f1, show nI ss + 1 = nI (ss + 1) by rw [show (1 : Int32) = nI 1 from rfl, nI_add]]
  have f2 : (y_si (y_si (y_si (y_si τ 35 0 ss 1) 36 0 (8 * ss) a) 37 0 (8 * ss) b) 30 0 8 (nI (ss + 1))) 30 0 8 = nI (ss + 1) := by rw [yi_1, u3_e]
  rw [f2]
  refine ⟨_, rfl, fun r h30 h35 h36 h37 => ?_, fun j => ?_, fun j hj => ⟨?_, fun q k h1 h2 h3 => ⟨?_, ?_⟩⟩, ?_, fun k hk => ?_⟩
  · funext k j; simp [yi_1, u3, h30, h35, h36, h37]
  · rw [yi_1, u3_self]; unfold u1; simp [yi_1, u3_r]
  · have : ¬ j = ss := by omega
    simp [yi_1, u3_r, u3_j this]
  · have : ¬ 8 * j + k = 8 * ss := by omega
    simp [yi_1, u3_r, u3_j this]
  · have : ¬ 8 * j + k = 8 * ss := by omega
    simp [yi_1, u3_r, u3_j this]
  · simp [yi_1, u3_r, u3_e]; rfl
  · have hk0 : k = 0 := by simpa using hk
    subst hk0
    simp [yi_1, u3_r, u3_e]
theorem M_new1 {N : Nat} (hN : 64 ≤ N) {τ : yS} {ss : Nat} {a b : Int32} (h1 : 1 ≤ ss) (hss : ss ≤ 6) (h8 : τ 30 0 8 = nI ss) {l1 : List (Int32 × Int32)} (s1 : τ 35 0 (ss - 1) = nI l1.length) (g1 : ∀ k, k < l1.length → l1[k]? = some (τ 36 0 (8 * (ss - 1) + k), τ 37 0 (8 * (ss - 1) + k))) (h9 : 1 + l1.length ≤ 8) : ∃ τ', fM_matcher_159 N τ a b (nI 1) = some (nI (ss - 1 + 1), τ') ∧ ∃ v, Mst τ τ' (ss - 1) ((a, v) :: l1) := by
  have c48 : (48 : Int32).toNatClampNeg = 48 := rfl
  obtain ⟨e, rfl⟩ : ∃ e, N = e + 2 := ⟨N - 2, by omega⟩
  unfold fM_matcher_159
  rw [if_neg (show ¬ nI 1 = 0 by decide), c48]
  simp only [xl_e]
  have f8 : (y_si (y_si τ 36 0 48 a) 37 0 48 0) 30 0 8 = nI ss := by simp [yi_1, u3_r]; exact h8
  have f35 : (y_si (y_si τ 36 0 48 a) 37 0 48 0) 35 0 (ss - 1) = nI l1.length := by simp [yi_1, u3_r]; exact s1
  rw [f8, pk_sub h1, show (1 : Int32) = nI 1 from rfl, M_stp hN (off := 1) (e := e + 1) (ss := ss) (i := ss - 1) (q := l1.length) (by omega) hss f8 f35 h9, show ss - 1 + 1 = ss by omega]
  have f8' : (cpy (y_si (y_si τ 36 0 48 a) 37 0 48 0) (ss - 1) 6 1 l1.length) 30 0 8 = nI ss := by rw [cpy_o (by decide) (by decide)]; exact f8
  obtain ⟨τ', m1, m2, m3, m4, m5, m6⟩ := M_fin (e := e) hN (τ := cpy (y_si (y_si τ 36 0 48 a) 37 0 48 0) (ss - 1) 6 1 l1.length) (ss := ss) (t := 1) (q := 1 + l1.length) (by omega) h1 hss f8' h9
  refine ⟨τ', by rw [m1, show ss - 1 + 1 = ss by omega], τ' 37 0 (8 * (ss - 1)), fun r h30 h35 h36 h37 => ?_, fun j => ?_, fun j hj => ?_, ?_, fun k hk => ?_⟩
  · rw [m2 r h30 h35 h36 h37, cpy_o h36 h37]; funext k j; simp [yi_1, u3, h36, h37]
  · rw [m3, cpy_o (by decide) (by decide)]; simp [yi_1, u3_r]
  · refine sEq.trans (s' := j) (sEq.trans (s' := j) (sz' := (y_si (y_si τ 36 0 48 a) 37 0 48 0) 35 0) (kd' := (y_si (y_si τ 36 0 48 a) 37 0 48 0) 36 0) (vl' := (y_si (y_si τ 36 0 48 a) 37 0 48 0) 37 0) ⟨?_, fun q k _ q2 q3 => ⟨?_, ?_⟩⟩ (cpy_sEq (s := ss - 1) (d := 6) (off := 1) (q := l1.length) (by omega) h9)) (m4 j (by omega) (by omega))
    · simp [yi_1, u3_r]
    · have : ¬ 8 * j + k = 48 := by omega
      simp [yi_1, u3_r, u3_j this]
    · have : ¬ 8 * j + k = 48 := by omega
      simp [yi_1, u3_r, u3_j this]
  · rw [m5]; congr 1; simp; omega
  · have hk' : k < 1 + l1.length := by simp at hk; omega
    obtain ⟨w1, w2⟩ := m6 k hk'
    cases k with
    | zero =>
      have : τ' 36 0 (8 * (ss - 1) + 0) = a := by
        rw [w1, cpy_n (by omega)]; simp [yi_1, u3_r, u3_e]
      rw [this]; rfl
    | succ k =>
      have y6 := cpy_y (τ := y_si (y_si τ 36 0 48 a) 37 0 48 0) (s := ss - 1) (d := 6) (off := 1) (q := l1.length) (r := 36) (j := k) (Or.inl rfl) (by omega)
      have y7 := cpy_y (τ := y_si (y_si τ 36 0 48 a) 37 0 48 0) (s := ss - 1) (d := 6) (off := 1) (q := l1.length) (r := 37) (j := k) (Or.inr rfl) (by omega)
      have ek : 48 + (k + 1) = 8 * 6 + 1 + k := by omega
      have hne : ¬ 8 * (ss - 1) + k = 48 := by omega
      rw [w1, w2, ek, y6, y7, yi_1, u3_r (by decide), yi_1, u3_j hne, u3_j hne, u3_r (by decide), List.getElem?_cons_succ]
      exact g1 k (by omega)
theorem M_new2 {N : Nat} (hN : 64 ≤ N) {τ : yS} {ss : Nat} {a b : Int32} (h2 : 2 ≤ ss) (hss : ss ≤ 6) (h8 : τ 30 0 8 = nI ss) {l1 l2 : List (Int32 × Int32)} (s1 : τ 35 0 (ss - 2) = nI l1.length) (g1 : ∀ k, k < l1.length → l1[k]? = some (τ 36 0 (8 * (ss - 2) + k), τ 37 0 (8 * (ss - 2) + k))) (s2 : τ 35 0 (ss - 1) = nI l2.length) (g2 : ∀ k, k < l2.length → l2[k]? = some (τ 36 0 (8 * (ss - 1) + k), τ 37 0 (8 * (ss - 1) + k))) (h9 : 1 + l1.length + l2.length ≤ 8) : ∃ τ', fM_matcher_159 N τ a b (nI 2) = some (nI (ss - 2 + 1), τ') ∧ ∃ v, Mst τ τ' (ss - 2) ((a, v) :: (l1 ++ l2)) := by
  have c48 : (48 : Int32).toNatClampNeg = 48 := rfl
  obtain ⟨e, rfl⟩ : ∃ e, N = e + 3 := ⟨N - 3, by omega⟩
  unfold fM_matcher_159
  rw [if_neg (show ¬ nI 2 = 0 by decide), c48]
  simp only [xl_e]
  have f8 : (y_si (y_si τ 36 0 48 a) 37 0 48 0) 30 0 8 = nI ss := by simp [yi_1, u3_r]; exact h8
  have f35 : (y_si (y_si τ 36 0 48 a) 37 0 48 0) 35 0 (ss - 2) = nI l1.length := by simp [yi_1, u3_r]; exact s1
  have f35' : (cpy (y_si (y_si τ 36 0 48 a) 37 0 48 0) (ss - 2) 6 1 l1.length) 35 0 (ss - 1) = nI l2.length := by rw [cpy_o (by decide) (by decide)]; simp [yi_1, u3_r]; exact s2
  have f8' : (cpy (y_si (y_si τ 36 0 48 a) 37 0 48 0) (ss - 2) 6 1 l1.length) 30 0 8 = nI ss := by rw [cpy_o (by decide) (by decide)]; exact f8
  have f8'' : (cpy (cpy (y_si (y_si τ 36 0 48 a) 37 0 48 0) (ss - 2) 6 1 l1.length) (ss - 1) 6 (1 + l1.length) l2.length) 30 0 8 = nI ss := by rw [cpy_o (by decide) (by decide)]; exact f8'
  rw [f8, pk_sub h2, show (1 : Int32) = nI 1 from rfl, M_stp hN (off := 1) (e := e + 2) (ss := ss) (i := ss - 2) (q := l1.length) (by omega) hss f8 f35 (by omega), show ss - 2 + 1 = ss - 1 by omega, M_stp hN (off := 1 + l1.length) (e := e + 1) (ss := ss) (i := ss - 1) (q := l2.length) (by omega) hss f8' f35' (by omega), show ss - 1 + 1 = ss by omega]
  obtain ⟨τ', m1, m2, m3, m4, m5, m6⟩ := M_fin (e := e) hN (τ := cpy (cpy (y_si (y_si τ 36 0 48 a) 37 0 48 0) (ss - 2) 6 1 l1.length) (ss - 1) 6 (1 + l1.length) l2.length) (ss := ss) (t := 2) (q := 1 + l1.length + l2.length) (by omega) h2 hss f8'' h9
  refine ⟨τ', by rw [m1, show ss - 2 + 1 = ss - 1 by omega], τ' 37 0 (8 * (ss - 2)), fun r h30 h35 h36 h37 => ?_, fun j => ?_, fun j hj => ?_, ?_, fun k hk => ?_⟩
  · rw [m2 r h30 h35 h36 h37, cpy_o h36 h37, cpy_o h36 h37]; funext k j; simp [yi_1, u3, h36, h37]
  · rw [m3, cpy_o (by decide) (by decide), cpy_o (by decide) (by decide)]; simp [yi_1, u3_r]
  · refine sEq.trans (s' := j) (sEq.trans (s' := j) (sEq.trans (s' := j) (sz' := (y_si (y_si τ 36 0 48 a) 37 0 48 0) 35 0) (kd' := (y_si (y_si τ 36 0 48 a) 37 0 48 0) 36 0) (vl' := (y_si (y_si τ 36 0 48 a) 37 0 48 0) 37 0) ⟨?_, fun q k _ q2 q3 => ⟨?_, ?_⟩⟩ (cpy_sEq (s := ss - 2) (d := 6) (off := 1) (q := l1.length) (by omega) (by omega))) (cpy_sEq (s := ss - 1) (d := 6) (off := 1 + l1.length) (q := l2.length) (by omega) (by omega))) (m4 j (by omega) (by omega))
    · simp [yi_1, u3_r]
    · have : ¬ 8 * j + k = 48 := by omega
      simp [yi_1, u3_r, u3_j this]
    · have : ¬ 8 * j + k = 48 := by omega
      simp [yi_1, u3_r, u3_j this]
  · rw [m5]; congr 1; simp; omega
  · have hk' : k < 1 + l1.length + l2.length := by simp at hk; omega
    obtain ⟨w1, w2⟩ := m6 k hk'
    cases k with
    | zero =>
      have : τ' 36 0 (8 * (ss - 2) + 0) = a := by
        rw [w1, cpy_n (by omega), cpy_n (by omega)]; simp [yi_1, u3_r, u3_e]
      rw [this]; rfl
    | succ k =>
      rw [w1, w2, List.getElem?_cons_succ]
      by_cases hk1 : k < l1.length
      · have y6 := cpy_y (τ := y_si (y_si τ 36 0 48 a) 37 0 48 0) (s := ss - 2) (d := 6) (off := 1) (q := l1.length) (r := 36) (j := k) (Or.inl rfl) (by omega)
        have y7 := cpy_y (τ := y_si (y_si τ 36 0 48 a) 37 0 48 0) (s := ss - 2) (d := 6) (off := 1) (q := l1.length) (r := 37) (j := k) (Or.inr rfl) (by omega)
        have ek : 48 + (k + 1) = 8 * 6 + 1 + k := by omega
        have hne : ¬ 8 * (ss - 2) + k = 48 := by omega
        rw [cpy_n (r := 36) (s := ss - 1) (off := 1 + l1.length) (by omega), cpy_n (r := 37) (s := ss - 1) (off := 1 + l1.length) (by omega), ek, y6, y7, yi_1, u3_r (by decide), yi_1, u3_j hne, u3_j hne, u3_r (by decide), List.getElem?_append_left hk1]
        exact g1 k (by omega)
      · have y6 := cpy_y (τ := cpy (y_si (y_si τ 36 0 48 a) 37 0 48 0) (ss - 2) 6 1 l1.length) (s := ss - 1) (d := 6) (off := 1 + l1.length) (q := l2.length) (r := 36) (j := k - l1.length) (Or.inl rfl) (by omega)
        have y7 := cpy_y (τ := cpy (y_si (y_si τ 36 0 48 a) 37 0 48 0) (ss - 2) 6 1 l1.length) (s := ss - 1) (d := 6) (off := 1 + l1.length) (q := l2.length) (r := 37) (j := k - l1.length) (Or.inr rfl) (by omega)
        have ek : 48 + (k + 1) = 8 * 6 + (1 + l1.length) + (k - l1.length) := by omega
        have hne : ¬ 8 * (ss - 1) + (k - l1.length) = 48 := by omega
        rw [ek, y6, y7, cpy_n (by omega), cpy_n (by omega), yi_1, u3_r (by decide), yi_1, u3_j hne, u3_j hne, u3_r (by decide), List.getElem?_append_right (by omega)]
        exact g2 _ (by omega)
