/-! when. -/
theorem A_plain {kk : Nat} {σ : xS} {τ : yS} {n ss pz nc tm fz ct st : Nat} (h : Rl kk σ τ n ss pz nc tm fz ct st) (w : Bool) : fA_misuseOfPlainStep σ (b01 w) = fA_misuseIf σ (b01 (decide (st = 2) || decide (st = 3) || lack st tm (σ.1 18))) (b01 (decide (0 < ss))) (b01 w) := by
  obtain ⟨h0, h1, h2, h3, h4, h5, h6, h7, h8, h9⟩ := h
  obtain ⟨s1, s2, s3, s4, s5, s6, s7, s8⟩ := h9
  obtain ⟨k1, k2, k3, k4⟩ := h2
  have ht4 : st = 4 → 1 ≤ tm := fun q => (s8 q).1
  have e35 : ∀ a b c : Int32, fA_misuseOfPlainStep_35 σ a b c = fA_misuseIf σ c b a := by
    intro a b c
    unfold fA_misuseOfPlainStep_35
    rw [A_misuse s2 s1 h5.2.1 ht4 h5.1]
    by_cases q : c = 0 ∧ b = 0 ∧ a = 0
    · rw [if_pos q]; rfl
    · rw [if_neg q]; rfl
  have e20 : ∀ c : Int32, fA_misuseOfPlainStep_20 σ (b01 w) c = fA_misuseIf σ c (b01 (decide (0 < ss))) (b01 w) := by
    intro c
    unfold fA_misuseOfPlainStep_20
    by_cases hz : ss = 0
    · rw [if_pos ((cLe k2 (y := 0) (b := 0) rfl).mpr (by omega)), e35]
      simp [hz, b01]
    · have hz' : 0 < ss := by omega
      rw [if_neg (fun q => hz (by have := (cLe k2 (y := 0) (b := 0) rfl).mp q; omega)), e35]
      simp [hz', b01]
  unfold fA_misuseOfPlainStep fA_misuseOfPlainStep_15
  rw [A_awaits s2 s1, A_lacks s2 s1 h5.2.1 ht4 h5.1, xp_e]
  by_cases ha : st = 2 ∨ st = 3
  · rw [if_pos ha, if_neg (by decide), e20]
    have : (decide (st = 2) || decide (st = 3) || lack st tm (σ.1 18)) = true := by rcases ha with q | q <;> simp [q]
    rw [this]; rfl
  · have ha1 : ¬ st = 2 := fun q => ha (Or.inl q)
    have ha2 : ¬ st = 3 := fun q => ha (Or.inr q)
    rw [if_neg ha, if_pos rfl]
    by_cases hb : lack st tm (σ.1 18) = true
    · rw [if_pos hb, if_neg (by decide), e20]
      simp [hb, b01]
    · rw [if_neg hb, if_pos rfl, e20]
      have hb' : lack st tm (σ.1 18) = false := by simpa using hb
      simp [hb', ha1, ha2, b01]
def bT (σ : xS) (tm : Nat) : xS := x_si (x_sp (x_sp (x_si (x_si σ 17 tm 0 (σ.1 17 16 0)) 17 tm 1 (σ.1 17 16 1)) 17 tm 2 (σ.2.1 17 16 2)) 17 tm 3 (σ.2.1 17 16 3)) 0 0 8 (nI (tm + 1))
theorem A_begin {σ : xS} {tm : Nat} (h8 : σ.1 0 0 8 = nI tm) (htm : tm < 16) : fA_beginTelling σ = some (bT σ tm) := by
  have n16 : ¬ 16 = tm := by omega
  unfold fA_beginTelling fP_copy bT
  rw [h8, if_pos (cIn rfl), cCl rfl, if_pos (by decide), if_pos (by omega)]
  simp only [xl_e]
  have e1 : (x_si σ 17 tm 0 (σ.1 17 16 0)).1 17 16 1 = σ.1 17 16 1 := by simp [si_1, u3_k n16]
  rw [e1]
  have e2 : (x_si (x_si σ 17 tm 0 (σ.1 17 16 0)) 17 tm 1 (σ.1 17 16 1)).2.1 17 16 2 = σ.2.1 17 16 2 := rfl
  rw [e2]
  have e3 : (x_sp (x_si (x_si σ 17 tm 0 (σ.1 17 16 0)) 17 tm 1 (σ.1 17 16 1)) 17 tm 2 (σ.2.1 17 16 2)).2.1 17 16 3 = σ.2.1 17 16 3 := by
    rw [sp_21, u3_k n16]; rfl
  rw [e3, xp_e, if_pos (by omega)]
  have e4 : (x_sp (x_sp (x_si (x_si σ 17 tm 0 (σ.1 17 16 0)) 17 tm 1 (σ.1 17 16 1)) 17 tm 2 (σ.2.1 17 16 2)) 17 tm 3 (σ.2.1 17 16 3)).1 0 0 8 = nI tm := by
    simp [sp_1, si_1, u3_r]; exact h8
  rw [e4, show (1 : Int32) = nI 1 from rfl, nI_add]
theorem P5.tell {tm n kk az s m : Nat} {a8 t29 a8' t29' : Int32} {x16 x17 x18 x19 x20 x17' x18' x19' x20' : Nat → Nat → Int32} {p17 p17' : Nat → Nat → Option Nat} {I I' : Nat → Nat → Int32} {P P' : Nat → Nat → Option Nat} {L L' : List Nat} {sz kd vl t31 t33 t45 t46 t47 t48 t49 t50 t51 sz' kd' vl' t45' t46' t47' t48' t49' t50' : Nat → Int32} (h : P5 tm n kk a8 t29 x16 x17 x18 x19 x20 p17 I P L sz kd vl t31 t33 t45 t46 t47 t48 t49 t50 t51) (htm : tm < 16) (e8 : a8' = nI (tm + 1)) (e29 : t29' = nI (tm + 1))
    (h17 : ∀ t, t < 16 → ¬ t = tm → x17' t 0 = x17 t 0 ∧ x17' t 1 = x17 t 1 ∧ p17' t 2 = p17 t 2 ∧ p17' t 3 = p17 t 3) (h18 : ∀ t, t < 16 → ¬ t = tm → x18' t 2 = x18 t 2) (h19 : ∀ t j, t < 16 → ¬ t = tm → x19' t j = x19 t j) (h20 : ∀ t j, t < 16 → ¬ t = tm → x20' t j = x20 t j)
    (hPat : ∀ t f g p, t < tm → Pat I P L sz kd vl f g p (88 + 2 * t) → Pat I' P' L' sz' kd' vl' f g p (88 + 2 * t))
    (h45 : ∀ t, t < 16 → ¬ t = tm → t45' t = t45 t) (h46 : ∀ t, t < 16 → ¬ t = tm → t46' t = t46 t) (h47 : ∀ t, t < 16 → ¬ t = tm → t47' t = t47 t) (h48 : ∀ t, t < 16 → ¬ t = tm → t48' t = t48 t) (h49 : ∀ t j, t < 16 → ¬ t = tm → j < 4 → t49' (4 * t + j) = t49 (4 * t + j)) (h50 : ∀ t j, t < 16 → ¬ t = tm → j < 4 → t50' (4 * t + j) = t50 (4 * t + j))
    (hs : s < n) (hm : m < 4) (n0 : x17' tm 0 = nI s) (n45 : t45' tm = nI s) (n1 : x17' tm 1 = nI m) (n46 : t46' tm = nI m) (nP : Pat I' P' L' sz' kd' vl' (p17' tm 2) (p17' tm 3) (pm t31 t33 s m) (88 + 2 * tm)) (haz : az ≤ 4) (n18 : x18' tm 2 = nI az) (n47 : t47' tm = nI az) (nA : ∀ j, j < az → x19' tm j = t49' (4 * tm + j) ∧ x20' tm j = t50' (4 * tm + j)) (n48 : t48' tm = 0) :
    P5 (tm + 1) n kk a8' t29' x16 x17' x18' x19' x20' p17' I' P' L' sz' kd' vl' t31 t33 t45' t46' t47' t48' t49' t50' t51 := by
  obtain ⟨g1, g2, g3, g4, g5⟩ := h
  refine ⟨by omega, e8, e29, fun t ht => ?_, fun t q1 q2 => ?_⟩
  · by_cases hq : t = tm
    · subst hq
      obtain ⟨f1, f2, f3, f4, f5⟩ := g5 t (by omega) htm
      refine ⟨az, 0, ⟨s, m, hs, hm, n0, n45, n1, n46, nP⟩, haz, n18, n47, nA, by omega, f3, n48, ?_, fun _ => rfl, ?_, Or.inl f5⟩
      · rw [f2, show min 0 (az - 1) = 0 by omega]; rfl
      · rw [f4, f5]
    · have ht' : t < tm := by omega
      obtain ⟨az', us, ⟨s', m', b1, b2, b3, b4, b5, b6, b7⟩, f1, f2, f3, f4, f⟩ := g4 t ht'
      obtain ⟨c1, c2, c3, c4⟩ := h17 t (by omega) hq
      obtain ⟨f5, f6, f7, f8⟩ := f
      refine ⟨az', us, ⟨s', m', b1, b2, ?_, ?_, ?_, ?_, ?_⟩, f1, ?_, ?_, fun j hj => ⟨?_, ?_⟩, f5, f6, ?_, f8⟩
      · rw [c1]; exact b3
      · rw [h45 t (by omega) hq]; exact b4
      · rw [c2]; exact b5
      · rw [h46 t (by omega) hq]; exact b6
      · rw [c3, c4]; exact hPat _ _ _ _ ht' b7
      · rw [h18 t (by omega) hq]; exact f2
      · rw [h47 t (by omega) hq]; exact f3
      · rw [h19 t j (by omega) hq, h49 t j (by omega) hq (by omega)]; exact (f4 j hj).1
      · rw [h20 t j (by omega) hq, h50 t j (by omega) hq (by omega)]; exact (f4 j hj).2
      · rw [h48 t (by omega) hq]; exact f7
  · obtain ⟨f1, f2⟩ := g5 t (by omega) q2
    exact ⟨by rw [h18 t q2 (by omega)]; exact f1, f2⟩
theorem P4.less {kk nc n nc' : Nat} {b1 t20 b2 t21 b1' t20' : Int32} {x15 : Nat → Nat → Int32} {t38 t39 t40 t41 t42 t43 t44 : Nat → Int32} (h : P4 kk nc n b1 t20 b2 t21 x15 t38 t39 t40 t41 t42 t43 t44) (hn : nc' ≤ nc) (h1 : b1' = nI nc') (h2 : t20' = nI nc') : P4 kk nc' n b1' t20' b2 t21 x15 t38 t39 t40 t41 t42 t43 t44 := by
  obtain ⟨e1, e2, e3, e4, e5⟩ := h
  exact ⟨by omega, h1, h2, e4, fun i hi => e5 i (by omega)⟩
theorem Pat.sizes {I : Nat → Nat → Int32} {P : Nat → Nat → Option Nat} {L : List Nat} {sz kd vl : Nat → Int32} {f g : Option Nat} {p s : Nat} (h : Pat I P L sz kd vl f g p s) (hp : p ≤ 2) : ∀ i, i < p → ∃ q, q ≤ 8 ∧ sz (s + i) = nI q := by
  intro i hi
  rcases (show i = 0 ∨ i = 1 by omega) with rfl | rfl
  · obtain ⟨q, -, q2, q3⟩ := (h.1 (by omega)).size
    exact ⟨q, q2, q3⟩
  · obtain ⟨q, -, q2, q3⟩ := (h.2.1 (by omega)).size
    exact ⟨q, q2, q3⟩
/-- how many parameters, three ways -/
theorem pm_e {n : Nat} {a3 t4 : Int32} {x14 : Nat → Nat → Int32} {x2 x3 t31 t32 t33 t34 : Nat → Int32} (h : P1 n a3 t4 x14 x2 x3 t31 t32 t33 t34) {s m : Nat} (hs : s < n) (hm : m < 4) : ∃ ty, ty < 3 ∧ t33 s = nI ty ∧ pm t31 t33 s m ≤ 2 ∧ t31 (4 * ty + m) = nI (pm t31 t33 s m) ∧ x14 (4 * ty + m) 0 = nI (pm t31 t33 s m) ∧ x14 (4 * ty + m) 1 = t32 (4 * ty + m) ∧ (t32 (4 * ty + m) = 0 ∨ t32 (4 * ty + m) = 1) := by
  obtain ⟨p1, p2, p3, p4, p5⟩ := h
  obtain ⟨g1, ⟨ty, g2, g3⟩, -⟩ := p5 s hs
  obtain ⟨f1, ⟨p, f2, f3⟩, f4, f5⟩ := p4 (4 * ty + m) (by omega)
  have e : pm t31 t33 s m = p := by unfold pm; rw [g3, cCl rfl, f3, cCl rfl]
  exact ⟨ty, g2, g3, by omega, by rw [e]; exact f3, by rw [e, f1]; exact f3, f4, f5⟩
theorem op_when (N : Nat) (hN : 64 ≤ N) : xg_when N Rel := by
  intro k σ τ hk hR
  obtain ⟨n, ss, pz, nc, tm, fz, ct, st, h⟩ := hR
  have hup : ∀ σ τ, Rel k σ τ → Rel (k + 1) σ τ := fun _ _ => Rel.up (Nat.le_succ k)
  obtain ⟨g1, g2, g3, g4, g5⟩ := h.2.2.2.2.2.1
  obtain ⟨s1, s2, s3, s4, s5, s6, s7, s8⟩ := h.2.2.2.2.2.2.2.2.2
  unfold fA_when fM_when
  by_cases htm : tm < 16
  · have n16 : ¬ τ 30 0 29 = 16 := fun q => by have := (cEq g3 (y := 16) (b := 16) rfl).mp q; omega
    rw [if_pos ((cLt g2 (y := 16) (b := 16) rfl).mpr htm), if_neg n16]
    have go : ∀ w : Bool, w = decide (¬ st = 1) → ∃ (r : Int32) (σ' : xS) (τ' : yS), fA_when_26 σ (b01 w) = some (r, σ') ∧ fM_when_29 N τ (b01 w) 0 (-1) 0 = some (r, τ') ∧ Rel (k + 1) σ' τ' := by
      intro w hw
      unfold fA_when_26 fM_when_29
      rw [A_plain h]
      rcases misG h (isM := false) (isA := false) (w := w) (cof := -1) (u := (decide (st = 2) || decide (st = 3) || lack st tm (σ.1 18))) (v := decide (0 < ss)) (by simp) (by simp) with ⟨c, σ', τ', c0, c1, c2, c3⟩ | ⟨c1, c2, u0, v0, w0⟩
      · rw [show b01 false = 0 from rfl] at c2
        rw [c1, c2, xb_e, xb_e, if_neg (ge0 c0).1, if_neg (ge0 c0).2]
        exact ⟨c, σ', τ', rfl, rfl, hup _ _ ⟨_, _, _, _, _, _, _, _, c3⟩⟩
      · rw [show b01 false = 0 from rfl] at c2
        have hst : st = 1 := by rw [w0] at hw; simpa using hw.symm
        have hss : ss = 0 := by simpa using v0
        obtain ⟨d1, s, m, d2, d3, d4, d5, d6, d7, d8⟩ := s4 hst
        obtain ⟨h0, h1, h2, h3, h4, h5, h6, h7, h8, h9⟩ := h
        obtain ⟨b1, b2, b3, b4, b5⟩ := id h4
        have hn6 := h1.1
        obtain ⟨ty, t1, t2, t3, t4, -⟩ := pm_e h1 d2 d3
        rw [c1, c2, xb_e, xb_e, if_pos rfl, if_pos pos0]
        have f1 : fB_takeBackLast σ = x_si σ 6 0 1 (nI (nc - 1)) := by
          unfold fB_takeBackLast
          rw [if_neg (fun q => by have := (cLe b2 (y := 0) (b := 0) rfl).mp q; omega), xl_e, b2, show (1 : Int32) = nI 1 from rfl, pk_sub d1]
        have f2 : τ 30 0 20 - 1 = nI (nc - 1) := by rw [b3, show (1 : Int32) = nI 1 from rfl, pk_sub d1]
        have f3 : (y_si τ 30 0 20 (nI (nc - 1))) 30 0 20 = nI (nc - 1) := by rw [yi_1, u3_e]
        have f4 : (8 : Int32) + 2 * nI (nc - 1) = nI (8 + 2 * (nc - 1)) := by rw [show (8 : Int32) = nI 8 from rfl, show (2 : Int32) = nI 2 from rfl, pk_mul, nI_add]
        have f5 : (y_si τ 30 0 20 (nI (nc - 1))) 39 0 (nc - 1) = nI s := by rw [yi_1, u3_r (by decide)]; exact d5
        have f6 : (y_si τ 30 0 20 (nI (nc - 1))) 40 0 (nc - 1) = nI m := by rw [yi_1, u3_r (by decide)]; exact d7
        obtain ⟨τ1, w1, w2, w3, w4, w5, w6, w7, w8, w9, w10⟩ := tell_e hN (τ := y_si τ 30 0 20 (nI (nc - 1))) (tm := tm) (s := s) (m := m) (ty := ty) (p := pm (τ 31 0) (τ 33 0) s m) (a3 := 8 + 2 * (nc - 1)) (pz := pz) htm (by rw [yi_1, u3_j (by decide)]; exact g3) (by omega) d3 (by rw [yi_1, u3_r (by decide)]; exact t2) t1 (by rw [yi_1, u3_r (by decide)]; exact t4) t3 (by omega) (fun i hi => by rw [yi_1, u3_r (by decide)]; exact d8.sizes t3 i hi) (by rw [yi_1, u3_r (by decide)]; exact h3.2.2.1) h3.1
        rw [f1, xl_e, xl_e, A_begin (tm := tm) (by simp [si_1, u3_r]; exact g2) htm, xp_e, xl_e, f2, f3, if_pos (cIn rfl), cCl rfl, f4, f5, f6, w1, xp_e, xl_e]
        have r1 : (x_si (bT (x_si σ 6 0 1 (nI (nc - 1))) tm) 0 0 12 4).1 0 0 8 - 1 = nI tm := by
          rw [si_1, u3_j (by decide)]; unfold bT; rw [si_1, u3_e, show (1 : Int32) = nI 1 from rfl, pk_sub (by omega)]; rfl
        have r2 : (y_si τ1 30 0 9 4) 30 0 29 - 1 = nI tm := by
          rw [yi_1, u3_j (by decide), w3, if_pos rfl, show (1 : Int32) = nI 1 from rfl, pk_sub (by omega)]; rfl
        rw [r1, r2]
        have n8 : ¬ 8 + 2 * (nc - 1) = 6 := by omega
        have u30 : ∀ j, (y_si τ1 30 0 9 4) 30 0 j = if j = 9 then 4 else if j = 29 then nI (tm + 1) else if j = 20 then nI (nc - 1) else τ 30 0 j := fun j => by
          rw [yi_1, u3_self]; unfold u1
          rw [w3, yi_1, u3_self]; rfl
        have ur : ∀ r, ¬ r = 30 → ¬ r = 35 → ¬ r = 36 → ¬ r = 37 → ¬ r = 45 → ¬ r = 46 → ¬ r = 47 → ¬ r = 48 → ¬ r = 49 → ¬ r = 50 → (y_si τ1 30 0 9 4) r = τ r := fun r e30 e35 e36 e37 e45 e46 e47 e48 e49 e50 => by
          funext k j
          rw [yi_1, u3_r e30, w2 r e30 e35 e36 e37 e45 e46 e47 e48 e49 e50, yi_1, u3_r e30]
        have u45 : ∀ j, (y_si τ1 30 0 9 4) 45 0 j = if j = tm then nI s else τ 45 0 j := fun j => by rw [yi_1, u3_r (by decide), w4, yi_1, u3_r (by decide)]
        have u46 : ∀ j, (y_si τ1 30 0 9 4) 46 0 j = if j = tm then nI m else τ 46 0 j := fun j => by rw [yi_1, u3_r (by decide), w5, yi_1, u3_r (by decide)]
        have u48 : ∀ j, (y_si τ1 30 0 9 4) 48 0 j = if j = tm then 0 else τ 48 0 j := fun j => by rw [yi_1, u3_r (by decide), w6, yi_1, u3_r (by decide)]
        have u47 : ∀ j, (y_si τ1 30 0 9 4) 47 0 j = if j = tm then 0 else τ 47 0 j := fun j => by
          have q1' : ¬ (8 + 2 * (nc - 1) = 6 ∧ j = 16) := fun q => n8 q.1
          rw [yi_1, u3_r (by decide), w9, if_neg q1', if_neg n8, yi_1, u3_r (by decide)]
        have u49 : (y_si τ1 30 0 9 4) 49 0 = τ 49 0 := by
          funext j
          rw [yi_1, u3_r (by decide), w10 49 j (Or.inl rfl), if_neg (fun q => n8 q.1), yi_1, u3_r (by decide)]
        have u50 : (y_si τ1 30 0 9 4) 50 0 = τ 50 0 := by
          funext j
          rw [yi_1, u3_r (by decide), w10 50 j (Or.inr rfl), if_neg (fun q => n8 q.1), yi_1, u3_r (by decide)]
        have u7 : ∀ j, (j < 88 + 2 * tm ∨ 88 + 2 * tm + 2 ≤ j) → sEq (τ 35 0) (τ 36 0) (τ 37 0) ((y_si τ1 30 0 9 4) 35 0) ((y_si τ1 30 0 9 4) 36 0) ((y_si τ1 30 0 9 4) 37 0) j j := fun j hj => by
          have := w7 j hj
          simpa [yi_1, u3_r] using this
        have u8 : ∀ j, j < pm (τ 31 0) (τ 33 0) s m → sEq (τ 35 0) (τ 36 0) (τ 37 0) ((y_si τ1 30 0 9 4) 35 0) ((y_si τ1 30 0 9 4) 36 0) ((y_si τ1 30 0 9 4) 37 0) (8 + 2 * (nc - 1) + j) (88 + 2 * tm + j) := fun j hj => by
          have := w8 j hj
          simpa [yi_1, u3_r] using this
        obtain ⟨T, hT⟩ : ∃ T, T = y_si τ1 30 0 9 4 := ⟨_, rfl⟩
        rw [← hT] at u30 ur u45 u46 u48 u47 u49 u50 u7 u8 ⊢
        have v31 : T 31 = τ 31 := ur 31 (by decide) (by decide) (by decide) (by decide) (by decide) (by decide) (by decide) (by decide) (by decide) (by decide)
        have v32 : T 32 = τ 32 := ur 32 (by decide) (by decide) (by decide) (by decide) (by decide) (by decide) (by decide) (by decide) (by decide) (by decide)
        have v33 : T 33 = τ 33 := ur 33 (by decide) (by decide) (by decide) (by decide) (by decide) (by decide) (by decide) (by decide) (by decide) (by decide)
        have v34 : T 34 = τ 34 := ur 34 (by decide) (by decide) (by decide) (by decide) (by decide) (by decide) (by decide) (by decide) (by decide) (by decide)
        have v38 : T 38 = τ 38 := ur 38 (by decide) (by decide) (by decide) (by decide) (by decide) (by decide) (by decide) (by decide) (by decide) (by decide)
        have v39 : T 39 = τ 39 := ur 39 (by decide) (by decide) (by decide) (by decide) (by decide) (by decide) (by decide) (by decide) (by decide) (by decide)
        have v40 : T 40 = τ 40 := ur 40 (by decide) (by decide) (by decide) (by decide) (by decide) (by decide) (by decide) (by decide) (by decide) (by decide)
        have v41 : T 41 = τ 41 := ur 41 (by decide) (by decide) (by decide) (by decide) (by decide) (by decide) (by decide) (by decide) (by decide) (by decide)
        have v42 : T 42 = τ 42 := ur 42 (by decide) (by decide) (by decide) (by decide) (by decide) (by decide) (by decide) (by decide) (by decide) (by decide)
        have v43 : T 43 = τ 43 := ur 43 (by decide) (by decide) (by decide) (by decide) (by decide) (by decide) (by decide) (by decide) (by decide) (by decide)
        have v44 : T 44 = τ 44 := ur 44 (by decide) (by decide) (by decide) (by decide) (by decide) (by decide) (by decide) (by decide) (by decide) (by decide)
        have v51 : T 51 = τ 51 := ur 51 (by decide) (by decide) (by decide) (by decide) (by decide) (by decide) (by decide) (by decide) (by decide) (by decide)
        have v53 : T 53 = τ 53 := ur 53 (by decide) (by decide) (by decide) (by decide) (by decide) (by decide) (by decide) (by decide) (by decide) (by decide)
        have v54 : T 54 = τ 54 := ur 54 (by decide) (by decide) (by decide) (by decide) (by decide) (by decide) (by decide) (by decide) (by decide) (by decide)
        have n16t : ¬ 16 = tm := by omega
        have e5 := P5.tell (a8' := (x_si (bT (x_si σ 6 0 1 (nI (nc - 1))) tm) 0 0 12 4).1 0 0 8) (t29' := T 30 0 29) (x17' := (x_si (bT (x_si σ 6 0 1 (nI (nc - 1))) tm) 0 0 12 4).1 17) (x18' := σ.1 18) (x19' := σ.1 19) (x20' := σ.1 20) (p17' := (x_si (bT (x_si σ 6 0 1 (nI (nc - 1))) tm) 0 0 12 4).2.1 17) (I' := σ.1 21) (P' := σ.2.1 21) (L' := σ.2.2.1) (sz' := T 35 0) (kd' := T 36 0) (vl' := T 37 0) (t45' := T 45 0) (t46' := T 46 0) (t47' := T 47 0) (t48' := T 48 0) (t49' := T 49 0) (t50' := T 50 0) (az := 0) (s := s) (m := m) h5 htm
          (by rw [si_1, u3_j (by decide)]; unfold bT; rw [si_1, u3_e]) (by rw [u30]; rfl)
          (fun t ht hne => by simp [bT, si_1, si_2, sp_1, sp_21, u3_r, u3_k hne]) (fun _ _ _ => rfl) (fun _ _ _ _ => rfl) (fun _ _ _ _ => rfl)
          (fun t f g p ht hp => hp.to pEq.rfl' (fun _ => u7 _ (by omega)) (fun _ => u7 _ (by omega)))
          (fun t ht hne => by rw [u45, if_neg hne]) (fun t ht hne => by rw [u46, if_neg hne]) (fun t ht hne => by rw [u47, if_neg hne]) (fun t ht hne => by rw [u48, if_neg hne]) (fun t j _ _ _ => by rw [u49]) (fun t j _ _ _ => by rw [u50])
          d2 d3 (by simp [bT, si_1, si_2, sp_1, u3_r, u3_j, u3_e]; exact d4) (by rw [u45, if_pos rfl]) (by simp [bT, si_1, si_2, sp_1, u3_r, u3_e]; exact d6) (by rw [u46, if_pos rfl])
          (by
            have e2 : (x_si (bT (x_si σ 6 0 1 (nI (nc - 1))) tm) 0 0 12 4).2.1 17 tm 2 = σ.2.1 17 16 2 := by simp [bT, si_2, sp_21, u3_j, u3_e]
            have e3 : (x_si (bT (x_si σ 6 0 1 (nI (nc - 1))) tm) 0 0 12 4).2.1 17 tm 3 = σ.2.1 17 16 3 := by simp [bT, si_2, sp_21, u3_e]
            rw [e2, e3]
            exact d8.to pEq.rfl' (fun q => u8 0 q) (fun q => u8 1 q))
          (by omega) (g5 tm (by omega) htm).1 (by rw [u47, if_pos rfl]; rfl) (fun j hj => absurd hj (by omega)) (by rw [u48, if_pos rfl])
        refine ⟨_, _, _, rfl, rfl, hup _ _ ⟨n, 0, pz, nc - 1, tm + 1, fz, ct, 4, h0, ?_, ⟨by decide, ?_, ?_, fun i hi => absurd hi (by omega)⟩, ⟨h3.1, ?_, ?_, ?_⟩, ?_, ?_, ?_, ?_, ?_, ⟨by decide, ?_, ?_, fun q => absurd q (by decide), fun q => absurd q (by decide), fun q => absurd q (by decide), fun q => absurd q (by decide), fun _ => ⟨by omega, ?_, ?_, ?_, ?_⟩⟩⟩⟩
        · simpa [u30, v31, v32, v33, v34, bT, si_1, si_2, sp_1, u3_r, u3_j] using h1
        · have := h2.2.1
          rw [hss] at this
          simpa [bT, si_1, si_2, sp_1, u3_r] using this
        · have := h2.2.2.1
          rw [hss] at this
          simpa [u30] using this
        · simpa [bT, si_1, si_2, sp_1, u3_r] using h3.2.1
        · rw [u47, if_neg n16t]; exact h3.2.2.1
        · have := h3.2.2.2
          simpa [u49, u50, bT, si_1, si_2, sp_1, u3_r] using this
        · have := P4.less h4 (nc' := nc - 1) (b1' := nI (nc - 1)) (t20' := nI (nc - 1)) (by omega) rfl rfl
          simpa [u30, v38, v39, v40, v41, v42, v43, v44, bT, si_1, si_2, sp_1, u3_r, u3_j, u3_e] using this
        · have e16 : (x_si (bT (x_si σ 6 0 1 (nI (nc - 1))) tm) 0 0 12 4).1 16 = σ.1 16 := by simp [bT, si_1, si_2, sp_1, u3_r]
          have e18 : (x_si (bT (x_si σ 6 0 1 (nI (nc - 1))) tm) 0 0 12 4).1 18 = σ.1 18 := by simp [bT, si_1, si_2, sp_1, u3_r]
          have e19 : (x_si (bT (x_si σ 6 0 1 (nI (nc - 1))) tm) 0 0 12 4).1 19 = σ.1 19 := by simp [bT, si_1, si_2, sp_1, u3_r]
          have e20 : (x_si (bT (x_si σ 6 0 1 (nI (nc - 1))) tm) 0 0 12 4).1 20 = σ.1 20 := by simp [bT, si_1, si_2, sp_1, u3_r]
          have e21 : (x_si (bT (x_si σ 6 0 1 (nI (nc - 1))) tm) 0 0 12 4).1 21 = σ.1 21 := by simp [bT, si_1, si_2, sp_1, u3_r]
          have e21' : (x_si (bT (x_si σ 6 0 1 (nI (nc - 1))) tm) 0 0 12 4).2.1 21 = σ.2.1 21 := by simp [bT, si_1, si_2, sp_21, u3_r]
          rw [e16, e18, e19, e20, e21, e21', v31, v33, v51]
          exact e5
        · simpa [u30, v53, bT, si_1, si_2, sp_1, u3_r] using h6
        · simpa [u30, v54, bT, si_1, si_2, sp_1, u3_r] using h7
        · simpa [u30, bT, si_1, si_2, sp_1, u3_r, u3_j] using h8
        · simp [si_1, u3_e]; rfl
        · rw [u30]; rfl
        · rw [show tm + 1 - 1 = tm by omega, u45, if_pos rfl]
          simpa [bT, si_1, si_2, sp_1, u3_r, u3_k n16t] using d4
        · rw [show tm + 1 - 1 = tm by omega, u46, if_pos rfl]
          simpa [bT, si_1, si_2, sp_1, u3_r, u3_k n16t] using d6
        · rw [show tm + 1 - 1 = tm by omega, u48, if_pos rfl]
        · rw [show tm + 1 - 1 = tm by omega, v51]
          exact (g5 tm (by omega) htm).2.2.2.2
    by_cases hst : st = 1
    · rw [if_pos ((cEq s2 (y := 1) (b := 1) rfl).mpr hst), if_pos ((cEq s3 (y := 1) (b := 1) rfl).mpr hst)]
      exact go false (by simp [hst])
    · rw [if_neg (fun q => hst ((cEq s2 (y := 1) (b := 1) rfl).mp q)), if_neg (fun q => hst ((cEq s3 (y := 1) (b := 1) rfl).mp q))]
      exact go true (by simp [hst])
  · rw [if_neg (fun q => htm ((cLt g2 (y := 16) (b := 16) rfl).mp q)), if_pos ((cEq g3 (y := 16) (b := 16) rfl).mpr (by omega))]
    exact ⟨-2, σ, τ, rfl, rfl, hup _ _ ⟨_, _, _, _, _, _, _, _, h⟩⟩
