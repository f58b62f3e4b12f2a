/-! matcher: the step. -/
def psh (σ : xS) (s' : Nat) (z : Nat) : xS := x_si (x_sp σ 5 0 s' (some z)) 4 0 1 (nI (s' + 1))
theorem X_116 {N : Nat} {σ : xS} {s' q3 q4 st : Nat} {a b : Int32} {t0 o6 : Option Nat} (h0 : P0 σ.2.2.1 σ.2.2.2) (hs : s' < 6) (h4 : σ.1 4 0 1 = nI s') (o3 : oS σ t0 q3) (o4 : oS σ o6 q4) (h12 : σ.1 0 0 12 = nI st) (hst : st ≤ 4) : fA_matcher_116 N σ a b o6 t0 = some (nI (s' + 1), if st = 2 ∨ st = 3 then psh (nwH σ a b t0 o6 (1 + q3 + q4)) s' σ.2.2.2 else x_si (psh (nwH σ a b t0 o6 (1 + q3 + q4)) s' σ.2.2.2) 0 0 12 0) := by
  have g4 : (nwH σ a b t0 o6 (1 + q3 + q4)).1 4 0 1 = nI s' := by rw [(nwH_r (by decide)).1]; exact h4
  have g12 : (psh (nwH σ a b t0 o6 (1 + q3 + q4)) s' σ.2.2.2).1 0 0 12 = nI st := by
    unfold psh
    rw [si_1, u3_r (by decide), sp_1, (nwH_r (by decide)).1]; exact h12
  unfold fA_matcher_116 fK_push
  rw [xl_e, H_init_e h0 o3 o4, xp_e, if_neg (fun q => by have := (cLe (x := 6) (a := 6) rfl g4).mp q; omega), g4, if_pos (cIn rfl), cCl rfl, if_pos (by simp [xo]; exact nwH_z.2.2.2.2.2), xl_e, xl_e, xp_e]
  have g5 : (x_sp (nwH σ a b t0 o6 (1 + q3 + q4)) 5 0 s' (some σ.2.2.2)).1 4 0 1 = nI s' := g4
  rw [g5, show nI s' + 1 = nI (s' + 1) by rw [show (1 : Int32) = nI 1 from rfl, nI_add]]
  show (if fA_awaitsCall (psh (nwH σ a b t0 o6 (1 + q3 + q4)) s' σ.2.2.2) = 0 then xl (fA_idleWith (psh (nwH σ a b t0 o6 (1 + q3 + q4)) s' σ.2.2.2) ((psh (nwH σ a b t0 o6 (1 + q3 + q4)) s' σ.2.2.2).1 4 0 1)) fun s37 => some (s37.1, s37.2) else some ((psh (nwH σ a b t0 o6 (1 + q3 + q4)) s' σ.2.2.2).1 4 0 1, psh (nwH σ a b t0 o6 (1 + q3 + q4)) s' σ.2.2.2)) = _
  have g6 : (psh (nwH σ a b t0 o6 (1 + q3 + q4)) s' σ.2.2.2).1 4 0 1 = nI (s' + 1) := by unfold psh; rw [si_1, u3_e]
  rw [A_awaits g12 hst, g6]
  by_cases hq : st = 2 ∨ st = 3
  · rw [if_pos hq, if_neg n10, if_pos hq]
  · rw [if_neg hq, if_pos rfl, if_neg hq]; rfl
theorem mat_end {N k : Nat} {σ σ1 : xS} {τ τs : yS} {n ss pz nc tm fz ct st st' t s' q3 q4 : Nat} {a b : Int32} {t0 o6 : Option Nat} {l : List (Int32 × Int32)} (h : Rl k σ τ n ss pz nc tm fz ct st) (hs' : s' + t = ss) (hs6 : s' < 6) (x1 : ∀ r, ¬ r = 4 → σ1.1 r = σ.1 r) (x2 : σ1.2 = σ.2) (x4 : σ1.1 4 0 1 = nI s') (o3 : oS σ1 t0 q3) (o4 : oS σ1 o6 q4) (hst' : st' = if st = 2 ∨ st = 3 then st else 0) (y1 : ∀ r, ¬ r = 30 → τs r = τ r) (y30 : ∀ j, ¬ j = 9 → τs 30 0 j = τ 30 0 j) (y9 : τs 30 0 9 = nI st') (hl : l.length = 1 + q3 + q4) (hl8 : l.length ≤ 8)
    (hT : xT ((nwH σ1 a b t0 o6 (1 + q3 + q4)).1 21) ((nwH σ1 a b t0 o6 (1 + q3 + q4)).2.1 21) (nwH σ1 a b t0 o6 (1 + q3 + q4)).2.2.1 l.length (some σ1.2.2.2) l) (hM : ∃ τ', fM_matcher_159 N τs a b (nI t) = some (nI (s' + 1), τ') ∧ Mst τs τ' s' l) : ∃ (r : Int32) (σ' : xS) (τ' : yS), fA_matcher_116 N σ1 a b o6 t0 = some (r, σ') ∧ fM_matcher_159 N τs a b (nI t) = some (r, τ') ∧ Rel (k + 1) σ' τ' := by
  have hup : ∀ σ τ, Rel k σ τ → Rel (k + 1) σ τ := fun _ _ => Rel.up (Nat.le_succ k)
  obtain ⟨τ', m0, m1, m2, m3, m4, m5⟩ := hM
  have h0 := h.1
  have h0' : P0 σ1.2.2.1 σ1.2.2.2 := by rw [x2]; exact h0
  obtain ⟨s1, s2, s3, -⟩ := h.2.2.2.2.2.2.2.2.2
  have x12 : σ1.1 0 0 12 = nI st := by rw [x1 0 (by decide)]; exact s2
  rw [X_116 h0' hs6 x4 o3 o4 x12 s1, m0]
  refine ⟨_, _, _, rfl, rfl, hup _ _ ⟨n, s' + 1, pz, nc, tm, fz, ct, st', ?_⟩⟩
  have key : ∀ S : xS, (∀ r, ¬ r = 0 → S.1 r = (psh (nwH σ1 a b t0 o6 (1 + q3 + q4)) s' σ1.2.2.2).1 r) → (∀ j, ¬ j = 12 → S.1 0 0 j = (psh (nwH σ1 a b t0 o6 (1 + q3 + q4)) s' σ1.2.2.2).1 0 0 j) → S.2 = (psh (nwH σ1 a b t0 o6 (1 + q3 + q4)) s' σ1.2.2.2).2 → S.1 0 0 12 = nI st' → Rl k S τ' n (s' + 1) pz nc tm fz ct st' := by
    intro S S1 S0 S2 S12
    have p21 : S.1 21 = (nwH σ1 a b t0 o6 (1 + q3 + q4)).1 21 := by
      rw [S1 21 (by decide)]; unfold psh; funext k j; rw [si_1, u3_r (by decide), sp_1]
    have p21' : S.2.1 21 = (nwH σ1 a b t0 o6 (1 + q3 + q4)).2.1 21 := by
      rw [S2]; unfold psh; funext k j; rw [si_2, sp_21, u3_r (by decide)]
    have pL : S.2.2 = (nwH σ1 a b t0 o6 (1 + q3 + q4)).2.2 := by rw [S2]; rfl
    have hp : pEq (σ.1 21) (σ.2.1 21) σ.2.2.1 (S.1 21) (S.2.1 21) S.2.2.1 := by
      have := nwH_p (a := a) (b := b) (o3 := t0) (o4 := o6) (q := 1 + q3 + q4) h0'
      rw [x1 21 (by decide), x2] at this
      rw [p21, p21', pL]
      exact this
    refine Rl.stk h ?_ ?_ ?_ hp ?_ ?_ ?_ ?_ ?_ S12 ?_ ?_
    · intro r q0 q4 q21
      rw [S1 r q0]; unfold psh; funext k j; rw [si_1, u3_r q4, sp_1, (nwH_r q21).1, x1 r q4]
    · intro j hj
      rw [S0 j hj]; unfold psh; rw [si_1, u3_r (by decide), sp_1, (nwH_r (by decide)).1, x1 0 (by decide)]
    · intro r q5 q21
      rw [S2]; unfold psh; funext k j; rw [si_2, sp_21, u3_r q5, (nwH_r q21).2, x2]
    · rw [pL]; exact nwH_0 h0'
    · intro r q30 q35 q36 q37
      rw [m1 r q30 q35 q36 q37, y1 r q30]
    · intro j q8 q9
      rw [m2, if_neg q8, y30 j q9]
    · intro j hj1 hj2
      have := m3 j (Or.inr hj1)
      rw [y1 35 (by decide), y1 36 (by decide), y1 37 (by decide)] at this
      exact this
    · obtain ⟨k1, k2, k3, k4⟩ := h.2.2.1
      refine ⟨by omega, ?_, ?_, fun i hi => ?_⟩
      · rw [S1 4 (by decide)]; unfold psh; rw [si_1, u3_e]
      · rw [m2, if_pos rfl]
      · by_cases hq : i = s'
        · subst hq
          have e5 : S.2.1 5 0 i = some σ1.2.2.2 := by rw [S2]; unfold psh; rw [si_2, sp_21, u3_e]
          rw [e5, p21, p21', pL]
          exact ⟨l, hT, hl8, m4, m5⟩
        · have e5 : S.2.1 5 0 i = σ.2.1 5 0 i := by
            rw [S2]; unfold psh; rw [si_2, sp_21, u3_j hq, (nwH_r (by decide)).2, x2]
          rw [e5]
          have := m3 i (Or.inl (by omega))
          rw [y1 35 (by decide), y1 36 (by decide), y1 37 (by decide)] at this
          exact (k4 i (by omega)).to hp this
    · rw [m2, if_neg (by decide)]; exact y9
    · by_cases hq : st = 2 ∨ st = 3
      · right; rw [if_pos hq] at hst'; exact ⟨hst', hq⟩
      · left; rw [if_neg hq] at hst'; exact hst'
  have p0 : ∀ j, (psh (nwH σ1 a b t0 o6 (1 + q3 + q4)) s' σ1.2.2.2).1 0 0 j = σ.1 0 0 j := by
    intro j; unfold psh; rw [si_1, u3_r (by decide), sp_1, (nwH_r (by decide)).1, x1 0 (by decide)]
  by_cases hq : st = 2 ∨ st = 3
  · rw [if_pos hq]
    refine key _ (fun _ _ => rfl) (fun _ _ => rfl) rfl ?_
    rw [p0, hst', if_pos hq]; exact s2
  · rw [if_neg hq]
    refine key _ (fun r q0 => ?_) (fun j hj => ?_) rfl ?_
    · funext k j; rw [si_1, u3_r q0]
    · rw [si_1, u3_j hj]
    · rw [si_1, u3_e, hst', if_neg hq]; rfl
theorem oS_Mt {σ : xS} {sz kd vl : Nat → Int32} {o : Option Nat} {s : Nat} (h : Mt (σ.1 21) (σ.2.1 21) σ.2.2.1 sz kd vl o s) : ∃ l, xT (σ.1 21) (σ.2.1 21) σ.2.2.1 l.length o l ∧ l.length ≤ 8 ∧ sz s = nI l.length ∧ (∀ k, k < l.length → l[k]? = some (kd (8 * s + k), vl (8 * s + k))) ∧ oS σ o l.length := by
  obtain ⟨l, h1, h2, h3, h4⟩ := h
  refine ⟨l, h1, h2, h3, h4, Or.inr ?_⟩
  have := h1.pos
  obtain ⟨d, hd⟩ : ∃ d, l.length = d + 1 := ⟨l.length - 1, by omega⟩
  have h1' := h1
  rw [hd] at h1'
  obtain ⟨a, g1, g2, g3, -⟩ := h1'
  exact ⟨a, g1, g2, g3⟩
theorem op_matcher (N : Nat) (hN : 64 ≤ N) : xg_matcher N Rel := by
  intro k σ τ a b hk hR
  obtain ⟨n, ss, pz, nc, tm, fz, ct, st, h⟩ := hR
  have hup : ∀ σ τ, Rel k σ τ → Rel (k + 1) σ τ := fun _ _ => Rel.up (Nat.le_succ k)
  have hRk : Rel (k + 1) σ τ := hup _ _ ⟨_, _, _, _, _, _, _, _, h⟩
  obtain ⟨k1, k2, k3, k4⟩ := h.2.2.1
  obtain ⟨g1, g2, g3, g4, g5⟩ := h.2.2.2.2.2.1
  obtain ⟨s1, s2, s3, s4, s5, s6, s7, s8⟩ := h.2.2.2.2.2.2.2.2.2
  have ht4 : st = 4 → 1 ≤ tm := fun q => (s8 q).1
  rcases pk_ix a (n := 8) (by decide) with ha | ha | ⟨ja, ha, rfl⟩
  · unfold fA_matcher fM_matcher
    rw [if_pos ha, M_in0 (n := 7) (c := 7) rfl (by decide) (Or.inl ha)]
    exact ⟨-1, σ, τ, rfl, rfl, hRk⟩
  · have hb0 : ¬ a < 0 := fun q => by
      have h1 := Int32.le_iff_toInt_le.mp ha
      have h2 := Int32.lt_iff_toInt_lt.mp q
      rw [nI_toInt (by decide)] at h1
      rw [show (0 : Int32).toInt = 0 from rfl] at h2
      omega
    have hb7 : ¬ a ≤ 7 := fun q => by
      have h1 := Int32.le_iff_toInt_le.mp ha
      have h2 := Int32.le_iff_toInt_le.mp q
      rw [nI_toInt (by decide)] at h1
      rw [show (7 : Int32).toInt = 7 from rfl] at h2
      omega
    unfold fA_matcher fM_matcher
    rw [if_neg hb0, if_neg hb7, M_in0 (n := 7) (c := 7) rfl (by decide) (Or.inr ha)]
    exact ⟨-1, σ, τ, rfl, rfl, hRk⟩
  obtain ⟨e1, e2⟩ := taken_e (N := N) (τ := τ) ha b
  have htk := tk_le ja
  have lkX : fA_lacksAnswers σ = some (b01 (lack st tm (σ.1 18))) := A_lacks s2 s1 g2 ht4 g1
  rw [e2]
  unfold fA_matcher fM_matcher_37 fM_matcher_54
  rw [if_neg (nI_pos (by omega)), if_pos ((cLe (x := nI ja) rfl (y := 7) (b := 7) rfl).mpr (by omega)), e1]
  by_cases hen : ss < tk ja
  · rw [if_pos ((cLt k2 (y := nI (tk ja)) rfl).mpr hen), if_neg (fun q => by have := (cLe (x := nI (tk ja)) rfl k3).mp q; omega)]
    unfold fA_matcher_33 fA_matcher_54 fA_matcher_70
    rw [if_pos rfl, lkX, xp_e, if_pos rfl]
    have eM : fM_matcher_64 N N τ (nI ja) b (nI (tk ja)) 1 1 (τ 30 0 8 - nI (tk ja)) = fM_matcher_96 N τ (nI ja) b (nI (tk ja)) 1 1 := by
      obtain ⟨e, rfl⟩ : ∃ e, N = e + 1 := ⟨N - 1, by omega⟩
      unfold fM_matcher_64 fM_matcher_64b
      rw [if_neg n10]
      split <;> rfl
    rw [eM]
    unfold fM_matcher_96 fM_matcher_109
    rw [if_neg (fun q => by have := (cEq (x := nI (tk ja)) rfl (y := 0) (b := 0) rfl).mp q; omega), if_pos (by decide)]
    rcases misG h (isM := true) (isA := false) (w := true) (cof := -1) (u := lack st tm (σ.1 18)) (v := false) (by simp) (by simp) with ⟨c, σ', τ', c0, c1, c2, c3⟩ | ⟨c1, c2, u0, v0, w0⟩
    · rw [show b01 false = 0 from rfl, show b01 true = 1 from rfl] at c1 c2
      rw [c1, c2, xb_e, xb_e, if_neg (ge0 c0).1, if_neg (ge0 c0).2]
      exact ⟨c, σ', τ', rfl, rfl, hup _ _ ⟨_, _, _, _, _, _, _, _, c3⟩⟩
    · cases w0
  · rw [if_neg (fun q => hen ((cLt k2 (y := nI (tk ja)) rfl).mp q)), if_pos ((cLe (x := nI (tk ja)) rfl k3).mpr (by omega))]
    have hsz : ∀ i, i < ss → ∃ q, q ≤ 8 ∧ τ 35 0 i = nI q ∧ fH_sizeOf σ (σ.2.1 5 0 i) = some (nI q) := by
      intro i hi
      obtain ⟨l, l1, l2, l3, l4, l5⟩ := oS_Mt (k4 i hi)
      exact ⟨l.length, l2, l3, sizeOf_e l5⟩
    have hsz' : ∀ i, i < ss → ∃ q, q ≤ 8 ∧ τ 35 0 i = nI q := fun i hi => by
      obtain ⟨q, q1, q2, -⟩ := hsz i hi
      exact ⟨q, q1, q2⟩
    have hsm := sm_le hsz' (tk ja) (ss - tk ja) (by omega)
    have eR : fK_hasRoomFor N σ (nI (tk ja)) = some (b01 (decide (ss - tk ja < 6) && decide (1 + sm (τ 35 0) (ss - tk ja) (tk ja) ≤ 8))) := by
      unfold fK_hasRoomFor
      rw [k2, pk_sub (by omega), if_neg (nI_pos (by omega))]
      exact K_room k1 (by omega) k2 hsz (tk ja) (ss - tk ja) N 1 (by omega) (by omega) (by omega)
    have eM : fM_matcher_64 N N τ (nI ja) b (nI (tk ja)) 1 0 (τ 30 0 8 - nI (tk ja)) = fM_matcher_96 N τ (nI ja) b (nI (tk ja)) (nI (1 + sm (τ 35 0) (ss - tk ja) (tk ja))) 0 := by
      rw [k3, pk_sub (by omega)]
      exact M_room k1 k3 hsz' (tk ja) (ss - tk ja) N 1 (by omega) (by omega)
    unfold fA_matcher_33
    rw [if_neg n10, eR, xp_e, eM]
    unfold fM_matcher_96 fM_matcher_109
    by_cases hroom : ss - tk ja < 6 ∧ 1 + sm (τ 35 0) (ss - tk ja) (tk ja) ≤ 8
    · have er : (decide (ss - tk ja < 6) && decide (1 + sm (τ 35 0) (ss - tk ja) (tk ja) ≤ 8)) = true := by simp [hroom.1, hroom.2]
      rw [er, show b01 true = 1 from rfl, if_neg n10, if_pos ((cLe (x := nI (1 + sm (τ 35 0) (ss - tk ja) (tk ja))) rfl (y := 8) (b := 8) rfl).mpr hroom.2)]
      have e96 : ∀ X : Option (Int32 × yS), (if nI (tk ja) = 0 then if τ 30 0 8 = 6 then some (-2, τ) else X else X) = X := by
        intro X
        by_cases q : tk ja = 0
        · rw [if_pos ((cEq (x := nI (tk ja)) rfl (y := 0) (b := 0) rfl).mpr q), if_neg (fun q => by have := (cEq k3 (y := 6) (b := 6) rfl).mp q; omega)]
        · rw [if_neg (fun q' => q ((cEq (x := nI (tk ja)) rfl (y := 0) (b := 0) rfl).mp q'))]
      rw [e96]
      unfold fA_matcher_54 fA_matcher_70
      rw [lkX, xp_e, if_neg n10]
      rcases misG h (isM := true) (isA := false) (w := false) (cof := -1) (u := lack st tm (σ.1 18)) (v := false) (by simp) (by simp) with ⟨c, σ', τ', c0, c1, c2, c3⟩ | ⟨c1, c2, u0, v0, w0⟩
      · rw [show b01 false = 0 from rfl] at c1
        rw [show b01 false = 0 from rfl, show b01 true = 1 from rfl] at c2
        rw [c1, c2, xb_e, xb_e, if_neg (ge0 c0).1, if_neg (ge0 c0).2]
        exact ⟨c, σ', τ', rfl, rfl, hup _ _ ⟨_, _, _, _, _, _, _, _, c3⟩⟩
      · rw [show b01 false = 0 from rfl] at c1
        rw [show b01 false = 0 from rfl, show b01 true = 1 from rfl] at c2
        rw [c1, c2, xb_e, xb_e, if_pos rfl, if_pos pos0]
        obtain ⟨τs, y1, y30, y9, eS⟩ : ∃ τs : yS, (∀ r, ¬ r = 30 → τs r = τ r) ∧ (∀ j, ¬ j = 9 → τs 30 0 j = τ 30 0 j) ∧ (τs 30 0 9 = nI (if st = 2 ∨ st = 3 then st else 0)) ∧ (if τ 30 0 9 = 2 then fM_matcher_159 N τ (nI ja) b (nI (tk ja)) else if τ 30 0 9 = 3 then fM_matcher_159 N τ (nI ja) b (nI (tk ja)) else xl (y_si τ 30 0 9 0) fun s54 => fM_matcher_159 N s54 (nI ja) b (nI (tk ja))) = fM_matcher_159 N τs (nI ja) b (nI (tk ja)) := by
          by_cases q2 : st = 2
          · refine ⟨τ, fun _ _ => rfl, fun _ _ => rfl, ?_, ?_⟩
            · rw [if_pos (Or.inl q2)]; exact s3
            · rw [if_pos ((cEq s3 (y := 2) (b := 2) rfl).mpr q2)]
          · have n2 : ¬ τ 30 0 9 = 2 := fun q => q2 ((cEq s3 (y := 2) (b := 2) rfl).mp q)
            rw [if_neg n2]
            by_cases q3 : st = 3
            · refine ⟨τ, fun _ _ => rfl, fun _ _ => rfl, ?_, ?_⟩
              · rw [if_pos (Or.inr q3)]; exact s3
              · rw [if_pos ((cEq s3 (y := 3) (b := 3) rfl).mpr q3)]
            · have n3 : ¬ τ 30 0 9 = 3 := fun q => q3 ((cEq s3 (y := 3) (b := 3) rfl).mp q)
              rw [if_neg n3]
              refine ⟨y_si τ 30 0 9 0, fun r hr => ?_, fun j hj => ?_, ?_, rfl⟩
              · funext k j; rw [yi_1, u3_r hr]
              · rw [yi_1, u3_j hj]
              · rw [if_neg (by omega), yi_1, u3_e]; rfl
        rw [eS]
        have t8 : τs 30 0 8 = nI ss := by rw [y30 8 (by decide)]; exact k3
        rcases (show tk ja = 0 ∨ tk ja = 1 ∨ tk ja = 2 by omega) with hT | hT | hT
        · rw [hT] at hroom ⊢
          rw [if_pos (show nI 0 ≤ 1 by decide)]
          unfold fA_matcher_99
          rw [if_pos (show nI 0 ≤ 0 by decide)]
          have hlf : lf (nI ja) := by
            unfold tk at hT
            unfold lf
            rcases (show ja = 0 ∨ ja = 1 ∨ ja = 2 ∨ ja = 3 ∨ ja = 4 ∨ ja = 5 ∨ ja = 6 ∨ ja = 7 by omega) with rfl | rfl | rfl | rfl | rfl | rfl | rfl | rfl
            all_goals first | decide | (exact absurd hT (by decide))
          exact mat_end (t := 0) (s' := ss) (q3 := 0) (q4 := 0) (l := [(nI ja, b)]) h (by omega) (by omega) (fun _ _ => rfl) rfl k2 (Or.inl ⟨rfl, rfl⟩) (Or.inl ⟨rfl, rfl⟩) rfl y1 y30 y9 rfl (by simp) (xT_one hlf) (M_new0 (by omega) t8)
        · rw [hT] at hroom hen ⊢
          rw [if_pos (show nI 1 ≤ 1 by decide)]
          have hne0 : ¬ σ.1 4 0 1 = 0 := fun q => by have := (cEq k2 (y := 0) (b := 0) rfl).mp q; omega
          have e41 : σ.1 4 0 1 - 1 = nI (ss - 1) := by rw [k2, show (1 : Int32) = nI 1 from rfl, pk_sub (by omega)]
          have e42 : (x_si σ 4 0 1 (nI (ss - 1))).1 4 0 1 = nI (ss - 1) := by rw [si_1, u3_e]
          have pop1 : fK_pop σ = some (σ.2.1 5 0 (ss - 1), x_si σ 4 0 1 (nI (ss - 1))) := by
            unfold fK_pop
            rw [if_neg hne0, e41, xl_e, e42, if_pos (cIn rfl), cCl rfl]; rfl
          unfold fA_matcher_99
          rw [if_neg (show ¬ nI 1 ≤ 0 by decide), pop1, xb_e]
          obtain ⟨l1, p1, p2, p3, p4, p5⟩ := oS_Mt (k4 (ss - 1) (by omega))
          have hsum : sm (τ 35 0) (ss - 1) 1 = l1.length := by
            show (τ 35 0 (ss - 1)).toNatClampNeg + 0 = _
            rw [p3, cCl rfl, Nat.add_zero]
          rw [hsum] at hroom
          have hja : ja = 6 := by
            unfold tk at hT
            by_cases q : ja = 4 ∨ ja = 5
            · rw [if_pos q] at hT; omega
            · rw [if_neg q] at hT
              by_cases q' : ja = 6
              · exact q'
              · rw [if_neg q'] at hT; omega
          obtain ⟨τ', n1, v, n2⟩ := M_new1 hN (a := nI ja) (b := b) (τ := τs) (ss := ss) (l1 := l1) (by omega) k1 t8 (by rw [y1 35 (by decide)]; exact p3) (fun k hk => by rw [y1 36 (by decide), y1 37 (by decide)]; exact p4 k hk) hroom.2
          refine mat_end (t := 1) (s' := ss - 1) (q3 := l1.length) (q4 := 0) (l := (nI ja, v) :: l1) (σ1 := x_si σ 4 0 1 (nI (ss - 1))) h (by omega) (by omega) (fun r hr => ?_) rfl e42 ?_ (Or.inl ⟨rfl, rfl⟩) rfl y1 y30 y9 (by simp; omega) (by simp; omega) ?_ ⟨τ', n1, n2⟩
          · funext k j; rw [si_1, u3_r hr]
          · rcases p5 with p5 | ⟨c, c1, c2, c3⟩
            · exact Or.inl p5
            · exact Or.inr ⟨c, c1, c2, by rw [si_1, u3_r (by decide)]; exact c3⟩
          · obtain ⟨z1, z2, z3, z4, z5, z6⟩ := nwH_z (σ := x_si σ 4 0 1 (nI (ss - 1))) (a := nI ja) (b := b) (o3 := σ.2.1 5 0 (ss - 1)) (o4 := none) (q := 1 + l1.length + 0)
            have hp := nwH_p (σ := x_si σ 4 0 1 (nI (ss - 1))) (a := nI ja) (b := b) (o3 := σ.2.1 5 0 (ss - 1)) (o4 := none) (q := 1 + l1.length + 0) h.1
            have e21 : (x_si σ 4 0 1 (nI (ss - 1))).1 21 = σ.1 21 := by funext k j; rw [si_1, u3_r (by decide)]
            rw [e21] at hp
            refine ⟨_, rfl, z6, ?_, Or.inr (Or.inl ⟨?_, v, l1, ?_, ?_⟩)⟩
            · rw [z3]; congr 1; simp; omega
            · rw [z1, hja]; rfl
            · rw [hja]; rfl
            · show xT _ _ _ l1.length _ l1
              rw [z4]
              exact xT.to hp _ _ _ p1
        · rw [hT] at hroom hen ⊢
          rw [if_neg (show ¬ nI 2 ≤ 1 by decide)]
          have hne0 : ¬ σ.1 4 0 1 = 0 := fun q => by have := (cEq k2 (y := 0) (b := 0) rfl).mp q; omega
          have e41 : σ.1 4 0 1 - 1 = nI (ss - 1) := by rw [k2, show (1 : Int32) = nI 1 from rfl, pk_sub (by omega)]
          have e42 : (x_si σ 4 0 1 (nI (ss - 1))).1 4 0 1 = nI (ss - 1) := by rw [si_1, u3_e]
          have pop1 : fK_pop σ = some (σ.2.1 5 0 (ss - 1), x_si σ 4 0 1 (nI (ss - 1))) := by
            unfold fK_pop
            rw [if_neg hne0, e41, xl_e, e42, if_pos (cIn rfl), cCl rfl]; rfl
          have hne1 : ¬ (x_si σ 4 0 1 (nI (ss - 1))).1 4 0 1 = 0 := fun q => by have := (cEq e42 (y := 0) (b := 0) rfl).mp q; omega
          have e43 : (x_si σ 4 0 1 (nI (ss - 1))).1 4 0 1 - 1 = nI (ss - 2) := by rw [e42, show (1 : Int32) = nI 1 from rfl, pk_sub (by omega)]; rfl
          have e44 : (x_si (x_si σ 4 0 1 (nI (ss - 1))) 4 0 1 (nI (ss - 2))).1 4 0 1 = nI (ss - 2) := by rw [si_1, u3_e]
          have pop2 : fK_pop (x_si σ 4 0 1 (nI (ss - 1))) = some (σ.2.1 5 0 (ss - 2), x_si (x_si σ 4 0 1 (nI (ss - 1))) 4 0 1 (nI (ss - 2))) := by
            unfold fK_pop
            rw [if_neg hne1, e43, xl_e, e44, if_pos (cIn rfl), cCl rfl]; rfl
          unfold fA_matcher_99
          rw [pop1, xb_e, if_neg (show ¬ nI 2 ≤ 0 by decide), pop2, xb_e]
          obtain ⟨l1, p1, p2, p3, p4, p5⟩ := oS_Mt (k4 (ss - 2) (by omega))
          obtain ⟨l2, w1, w2, w3, w4, w5⟩ := oS_Mt (k4 (ss - 1) (by omega))
          have hsum : sm (τ 35 0) (ss - 2) 2 = l1.length + l2.length := by
            show (τ 35 0 (ss - 2)).toNatClampNeg + ((τ 35 0 (ss - 2 + 1)).toNatClampNeg + 0) = _
            rw [show ss - 2 + 1 = ss - 1 by omega, p3, w3, cCl rfl, cCl rfl, Nat.add_zero]
          rw [hsum] at hroom
          have hja : ja = 4 ∨ ja = 5 := by
            unfold tk at hT
            by_cases q : ja = 4 ∨ ja = 5
            · exact q
            · rw [if_neg q] at hT
              by_cases q' : ja = 6
              · rw [if_pos q'] at hT; omega
              · rw [if_neg q'] at hT; omega
          obtain ⟨τ', n1, v, n2⟩ := M_new2 hN (a := nI ja) (b := b) (τ := τs) (ss := ss) (l1 := l1) (l2 := l2) (by omega) k1 t8 (by rw [y1 35 (by decide)]; exact p3) (fun k hk => by rw [y1 36 (by decide), y1 37 (by decide)]; exact p4 k hk) (by rw [y1 35 (by decide)]; exact w3) (fun k hk => by rw [y1 36 (by decide), y1 37 (by decide)]; exact w4 k hk) (by omega)
          have oS' : ∀ o q, oS σ o q → oS (x_si (x_si σ 4 0 1 (nI (ss - 1))) 4 0 1 (nI (ss - 2))) o q := by
            intro o q hq
            rcases hq with p5 | ⟨c, c1, c2, c3⟩
            · exact Or.inl p5
            · exact Or.inr ⟨c, c1, c2, by rw [si_1, u3_r (by decide), si_1, u3_r (by decide)]; exact c3⟩
          refine mat_end (t := 2) (s' := ss - 2) (q3 := l1.length) (q4 := l2.length) (l := (nI ja, v) :: (l1 ++ l2)) (σ1 := x_si (x_si σ 4 0 1 (nI (ss - 1))) 4 0 1 (nI (ss - 2))) h (by omega) (by omega) (fun r hr => ?_) rfl e44 (oS' _ _ p5) (oS' _ _ w5) rfl y1 y30 y9 (by simp; omega) (by simp; omega) ?_ ⟨τ', n1, n2⟩
          · funext k j; rw [si_1, u3_r hr, si_1, u3_r hr]
          · obtain ⟨z1, z2, z3, z4, z5, z6⟩ := nwH_z (σ := x_si (x_si σ 4 0 1 (nI (ss - 1))) 4 0 1 (nI (ss - 2))) (a := nI ja) (b := b) (o3 := σ.2.1 5 0 (ss - 2)) (o4 := σ.2.1 5 0 (ss - 1)) (q := 1 + l1.length + l2.length)
            have hp := nwH_p (σ := x_si (x_si σ 4 0 1 (nI (ss - 1))) 4 0 1 (nI (ss - 2))) (a := nI ja) (b := b) (o3 := σ.2.1 5 0 (ss - 2)) (o4 := σ.2.1 5 0 (ss - 1)) (q := 1 + l1.length + l2.length) h.1
            have e21 : (x_si (x_si σ 4 0 1 (nI (ss - 1))) 4 0 1 (nI (ss - 2))).1 21 = σ.1 21 := by funext k j; rw [si_1, u3_r (by decide), si_1, u3_r (by decide)]
            rw [e21] at hp
            refine ⟨_, rfl, z6, ?_, Or.inr (Or.inr ⟨?_, v, l1, l2, ?_, ?_, ?_⟩)⟩
            · rw [z3]; congr 1; simp; omega
            · rw [z1]
              rcases hja with q | q
              · left; rw [q]; rfl
              · right; rw [q]; rfl
            · rw [z1]
            · rw [z4]
              exact xT.up _ _ _ _ (by simp) (xT.to hp _ _ _ p1)
            · rw [z5]
              exact xT.up _ _ _ _ (by simp) (xT.to hp _ _ _ w1)
    · have er : (decide (ss - tk ja < 6) && decide (1 + sm (τ 35 0) (ss - tk ja) (tk ja) ≤ 8)) = false := by
        by_cases q1 : ss - tk ja < 6
        · have q2 : ¬ 1 + sm (τ 35 0) (ss - tk ja) (tk ja) ≤ 8 := fun q => hroom ⟨q1, q⟩
          simp [q2]
        · simp [q1]
      rw [er, show b01 false = 0 from rfl, if_pos rfl]
      have e96 : (if nI (tk ja) = 0 then if τ 30 0 8 = 6 then some (-2, τ) else (if nI (1 + sm (τ 35 0) (ss - tk ja) (tk ja)) ≤ 8 then (xb (fM_misuse τ 1 (-1) 0 0) fun r49 s50 => if 0 ≤ r49 then (if (s50 30 0 9) = 2 then (fM_matcher_159 N s50 (nI ja) b (nI (tk ja))) else (if (s50 30 0 9) = 3 then (fM_matcher_159 N s50 (nI ja) b (nI (tk ja))) else (xl (y_si s50 30 0 9 0) fun s54 => fM_matcher_159 N s54 (nI ja) b (nI (tk ja))))) else (some (r49, s50))) else (some ((-2), τ))) else (if nI (1 + sm (τ 35 0) (ss - tk ja) (tk ja)) ≤ 8 then (xb (fM_misuse τ 1 (-1) 0 0) fun r49 s50 => if 0 ≤ r49 then (if (s50 30 0 9) = 2 then (fM_matcher_159 N s50 (nI ja) b (nI (tk ja))) else (if (s50 30 0 9) = 3 then (fM_matcher_159 N s50 (nI ja) b (nI (tk ja))) else (xl (y_si s50 30 0 9 0) fun s54 => fM_matcher_159 N s54 (nI ja) b (nI (tk ja))))) else (some (r49, s50))) else (some ((-2), τ)))) = some (-2, τ) := by
        by_cases q : tk ja = 0
        · rw [if_pos ((cEq (x := nI (tk ja)) rfl (y := 0) (b := 0) rfl).mpr q)]
          have hs0 : sm (τ 35 0) (ss - tk ja) (tk ja) = 0 := by rw [q]; rfl
          rw [if_pos ((cEq k3 (y := 6) (b := 6) rfl).mpr (by rw [hs0] at hroom; omega))]
        · have n8 : ¬ nI (1 + sm (τ 35 0) (ss - tk ja) (tk ja)) ≤ 8 := fun q' => by
            have := (cLe (x := nI (1 + sm (τ 35 0) (ss - tk ja) (tk ja))) rfl (y := 8) (b := 8) rfl).mp q'
            exact hroom ⟨by omega, this⟩
          rw [if_neg (fun q' => q ((cEq (x := nI (tk ja)) rfl (y := 0) (b := 0) rfl).mp q')), if_neg n8]
      rw [e96]
      exact ⟨-2, σ, τ, rfl, rfl, hRk⟩
