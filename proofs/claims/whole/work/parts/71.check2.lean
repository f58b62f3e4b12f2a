/-! call: a check; seen and caught. -/
def Q7 (ct : Nat) (c1 c2 c3 t36 : Int32) (x13 t54 : Nat → Int32) : Prop := c3 = nI ct ∧ t36 = nI ct ∧ c2 = nI (min ct 12) ∧ c1 = nI (ct % 12) ∧ ∀ j, j < 12 → j < ct → x13 j = t54 j
theorem C_add_e {σ : xS} {τ : yS} {ct : Nat} {v : Int32} (h : Q7 ct (σ.1 12 0 1) (σ.1 12 0 2) (σ.1 12 0 3) (τ 30 0 36) (σ.1 13 0) (τ 54 0)) (hct : ct < 1000000) : ∃ σ', fC_add σ v = some σ' ∧ (∀ r, ¬ r = 12 → ¬ r = 13 → σ'.1 r = σ.1 r) ∧ σ'.2 = σ.2 ∧ Q7 (ct + 1) (σ'.1 12 0 1) (σ'.1 12 0 2) (σ'.1 12 0 3) ((y_si (y_si τ 54 0 (ct % 12) v) 30 0 36 (nI (ct + 1))) 30 0 36) (σ'.1 13 0) ((y_si (y_si τ 54 0 (ct % 12) v) 30 0 36 (nI (ct + 1))) 54 0) := by
  obtain ⟨h3, h36, h2, h1, h13⟩ := h
  have hm := Nat.mod_lt ct (show 0 < 12 by decide)
  have core : ∀ t0 : Int32, t0 = nI ((ct + 1) % 12) → ∃ σ', fC_add_32 (x_si σ 13 0 (ct % 12) v) t0 = some σ' ∧ (∀ r, ¬ r = 12 → ¬ r = 13 → σ'.1 r = σ.1 r) ∧ σ'.2 = σ.2 ∧ Q7 (ct + 1) (σ'.1 12 0 1) (σ'.1 12 0 2) (σ'.1 12 0 3) ((y_si (y_si τ 54 0 (ct % 12) v) 30 0 36 (nI (ct + 1))) 30 0 36) (σ'.1 13 0) ((y_si (y_si τ 54 0 (ct % 12) v) 30 0 36 (nI (ct + 1))) 54 0) := by
    intro t0 ht0
    have e2 : (x_si (x_si σ 13 0 (ct % 12) v) 12 0 1 t0).1 12 0 2 = nI (min ct 12) := by rw [si_1, u3_j (by decide), si_1, u3_r (by decide)]; exact h2
    unfold fC_add_32
    rw [xl_e, e2, nI_1]
    have e2' : (if (12 : Int32) < nI (min ct 12 + 1) then 12 else nI (min ct 12 + 1)) = nI (min (ct + 1) 12) := by
      by_cases q : 12 < min ct 12 + 1
      · rw [if_pos ((cLt (x := 12) (a := 12) rfl (y := nI (min ct 12 + 1)) rfl).mpr q), show min (ct + 1) 12 = 12 by omega]; rfl
      · rw [if_neg (fun q' => q ((cLt (x := 12) (a := 12) rfl (y := nI (min ct 12 + 1)) rfl).mp q')), show min (ct + 1) 12 = min ct 12 + 1 by omega]
    rw [e2', xl_e]
    have e3 : (x_si (x_si (x_si σ 13 0 (ct % 12) v) 12 0 1 t0) 12 0 2 (nI (min (ct + 1) 12))).1 12 0 3 = nI ct := by rw [si_1, u3_j (by decide), si_1, u3_j (by decide), si_1, u3_r (by decide)]; exact h3
    rw [e3, nI_1, xl_e]
    refine ⟨_, rfl, fun r q12 q13 => ?_, rfl, ?_, ?_, ?_, ?_, fun j hj hj2 => ?_⟩
    · funext k j; rw [si_1, u3_r q12, si_1, u3_r q12, si_1, u3_r q12, si_1, u3_r q13]
    · rw [si_1, u3_e]
    · rw [yi_1, u3_e]
    · rw [si_1, u3_j (by decide), si_1, u3_e]
    · rw [si_1, u3_j (by decide), si_1, u3_j (by decide), si_1, u3_e]; exact ht0
    · rw [si_1, u3_r (by decide), si_1, u3_r (by decide), si_1, u3_r (by decide), si_1, u3_self, yi_1, u3_r (by decide), yi_1, u3_self]
      unfold u1
      by_cases q : j = ct % 12
      · rw [if_pos q, if_pos q]
      · rw [if_neg q, if_neg q]
        exact h13 j hj (by omega)
  have e1 : (x_si σ 13 0 (ct % 12) v).1 12 0 1 = nI (ct % 12) := by rw [si_1, u3_r (by decide)]; exact h1
  unfold fC_add
  rw [h1, if_pos (cIn rfl), cCl rfl, xl_e, e1, nI_1]
  by_cases q : 12 ≤ ct % 12 + 1
  · rw [if_pos ((cLe (x := 12) (a := 12) rfl (y := nI (ct % 12 + 1)) rfl).mpr q)]
    exact core 0 (by rw [show (ct + 1) % 12 = 0 by omega]; rfl)
  · rw [if_neg (fun q' => q ((cLe (x := 12) (a := 12) rfl (y := nI (ct % 12 + 1)) rfl).mp q'))]
    exact core _ (by rw [show (ct + 1) % 12 = ct % 12 + 1 by omega])
theorem isCatch_e {σ : xS} {sz kd vl : Nat → Int32} {o : Option Nat} {s : Nat} (h : Mt (σ.1 21) (σ.2.1 21) σ.2.2.1 sz kd vl o s) : fH_isCatch σ o = some (b01 (decide (kd (8 * s) = 7))) := by
  obtain ⟨l, h1, h2, h3, h4⟩ := h
  have hpos := h1.pos
  obtain ⟨d, hd⟩ : ∃ d, l.length = d + 1 := ⟨l.length - 1, by omega⟩
  have g4 := h4 0 (by omega)
  rw [hd] at h1
  obtain ⟨a, a1, a2, a3, a4⟩ := h1
  have hk : σ.1 21 a 0 = kd (8 * s) := by
    rcases a4 with ⟨-, a5⟩ | ⟨a6, v, l1, a5, -⟩ | ⟨-, v, l1, l2, a5, -⟩
    · rw [a5] at g4
      simp at g4
      exact g4.1
    · rw [a5] at g4
      simp at g4
      rw [a6]; exact g4.1
    · rw [a5] at g4
      simp at g4
      exact g4.1
  unfold fH_isCatch
  rw [if_neg (by rw [a1]; simp), a1]
  have hxd : xd σ.2.2.1 (some a) = some a := by simp [xd, a2]
  rw [hxd, xp_e, hk]
  by_cases q : kd (8 * s) = 7
  · rw [if_pos q]; simp [q, b01]
  · rw [if_neg q]; simp [q, b01]
/-- one matcher's catch, in both -/
theorem catch1 {σ : xS} {τ : yS} {ct s : Nat} {v : Int32} {o : Option Nat} (h : Q7 ct (σ.1 12 0 1) (σ.1 12 0 2) (σ.1 12 0 3) (τ 30 0 36) (σ.1 13 0) (τ 54 0)) (hct : ct < 1000000) (hM : Mt (σ.1 21) (σ.2.1 21) σ.2.2.1 (τ 35 0) (τ 36 0) (τ 37 0) o s) :
    ∃ (σ' : xS) (τ' : yS) (ct' : Nat), ct' ≤ ct + 1 ∧ (∀ F : xS → Option xS, (xp (fH_isCatch σ o) fun r => if r = 0 then F σ else xp (fC_add σ v) fun S => F S) = F σ') ∧ (τ' = if τ 36 0 (8 * s) = 7 then y_si (y_si τ 54 0 (ct % 12) v) 30 0 36 (nI (ct + 1)) else τ) ∧ Q7 ct' (σ'.1 12 0 1) (σ'.1 12 0 2) (σ'.1 12 0 3) (τ' 30 0 36) (σ'.1 13 0) (τ' 54 0) ∧ (∀ r, ¬ r = 12 → ¬ r = 13 → σ'.1 r = σ.1 r) ∧ σ'.2 = σ.2 ∧ (∀ r, ¬ r = 30 → ¬ r = 54 → τ' r = τ r) ∧ (∀ j, ¬ j = 36 → τ' 30 0 j = τ 30 0 j) := by
  rw [isCatch_e hM]
  by_cases q : τ 36 0 (8 * s) = 7
  · obtain ⟨σ', c1, c2, c3, c4⟩ := C_add_e (v := v) h hct
    refine ⟨σ', _, ct + 1, by omega, fun F => ?_, (if_pos q).symm, c4, c2, c3, fun r q30 q54 => ?_, fun j hj => ?_⟩
    · rw [show decide (τ 36 0 (8 * s) = 7) = true by simp [q], xp_e, show b01 true = 1 from rfl, if_neg n10, c1, xp_e]
    · funext k j; rw [yi_1, u3_r q30, yi_1, u3_r q54]
    · rw [yi_1, u3_j hj, yi_1, u3_r (by decide)]
  · refine ⟨σ, τ, ct, by omega, fun F => ?_, (if_neg q).symm, h, fun _ _ _ => rfl, rfl, fun _ _ _ => rfl, fun _ _ => rfl⟩
    rw [show decide (τ 36 0 (8 * s) = 7) = false by simp [q], xp_e, show b01 false = 0 from rfl, if_pos rfl]
theorem M_c1 {N e : Nat} {rec : yS → Int32 → Int32 → Option (Int32 × yS)} {τ : yS} {idx p c a7 ct : Nat} {a5 : Int32} (hi : idx < 12) (hc : c < 40) (hp : p ≤ 2) (h31 : τ 31 0 idx = nI p) (ha : a7 < p) (h36 : τ 30 0 36 = nI ct) (hct : ct < 1000000) : fM_check_Z2_352 N rec (e + 1) τ (nI idx) a5 (nI c) (nI a7) = fM_check_Z2_352 N rec e (if τ 36 0 (8 * (6 + a7)) = 7 then y_si (y_si τ 54 0 (ct % 12) (if a7 = 0 then τ 41 0 c else τ 42 0 c)) 30 0 36 (nI (ct + 1)) else τ) (nI idx) a5 (nI c) (nI (a7 + 1)) := by
  have hm := Nat.mod_lt ct (show 0 < 12 by decide)
  have e8 : (8 : Int32) * (6 + nI a7) = nI (8 * (6 + a7)) := by rw [show (8 : Int32) = nI 8 from rfl, show (6 : Int32) = nI 6 from rfl, nI_add, pk_mul]
  have em : nI ct - nI ct / 12 * 12 = nI (ct % 12) := by
    rw [show (12 : Int32) = nI 12 from rfl, pk_rem (by omega) (by decide) (by decide)]
  have e414 : ∀ v : Int32, fM_check_Z2_414 N rec (fM_check_Z2_352 N rec e) τ (nI idx) a5 (nI c) (nI a7) v (nI (ct % 12)) = fM_check_Z2_352 N rec e (y_si (y_si τ 54 0 (ct % 12) v) 30 0 36 (nI (ct + 1))) (nI idx) a5 (nI c) (nI (a7 + 1)) := by
    intro v
    unfold fM_check_Z2_414 fM_check_Z2_425
    have e36 : (y_si τ 54 0 (ct % 12) v) 30 0 36 = nI ct := by rw [yi_1, u3_r (by decide)]; exact h36
    rw [if_pos (cIn rfl), cCl rfl, xl_e, e36, nI_1, xl_e, nI_1]
  have el : fM_check_Z2_352 N rec (e + 1) τ (nI idx) a5 (nI c) (nI a7) = fM_check_Z2_352b N rec (fM_check_Z2_352 N rec e) τ (nI idx) a5 (nI c) (nI a7) := rfl
  rw [el]
  unfold fM_check_Z2_352b fM_check_Z2_425
  rw [if_pos (cIn rfl), cCl (a := idx) rfl, if_neg (fun q => by have := (cLe h31 (y := nI a7) rfl).mp q; omega), e8, if_pos (cIn rfl), cCl (a := 8 * (6 + a7)) rfl, if_pos (cIn rfl), if_pos (cIn rfl), cCl (a := c) rfl, h36, em, e414, e414, nI_1]
  by_cases q : τ 36 0 (8 * (6 + a7)) = 7
  · rw [if_pos q, if_pos q]
    by_cases q0 : a7 = 0
    · rw [if_pos ((cEq (x := nI a7) rfl (y := 0) (b := 0) rfl).mpr q0), if_pos q0]
    · rw [if_neg (fun q' => q0 ((cEq (x := nI a7) rfl (y := 0) (b := 0) rfl).mp q')), if_neg q0]
  · rw [if_neg q, if_neg q]
theorem M_c0 {N e : Nat} {rec : yS → Int32 → Int32 → Option (Int32 × yS)} {τ : yS} {idx p c i : Nat} (hi : idx < 12) (hp : p ≤ 2) (h31 : τ 31 0 idx = nI p) : fM_check_Z2_352 N rec (e + 1) τ (nI idx) (nI i) (nI c) (nI p) = rec τ (nI idx) (nI (i + 1)) := by
  have el : fM_check_Z2_352 N rec (e + 1) τ (nI idx) (nI i) (nI c) (nI p) = fM_check_Z2_352b N rec (fM_check_Z2_352 N rec e) τ (nI idx) (nI i) (nI c) (nI p) := rfl
  rw [el]
  unfold fM_check_Z2_352b
  rw [if_pos (cIn rfl), cCl (a := idx) rfl, if_pos ((cLe h31 (y := nI p) rfl).mpr (by omega)), nI_1]
/-- the catches of one note -/
theorem see1 {N : Nat} (hN : 64 ≤ N) {recX : xS → Int32 → Option xS} {recM : yS → Int32 → Int32 → Option (Int32 × yS)} {σ : xS} {τ : yS} {idx p c ct i : Nat} (h : Q7 ct (σ.1 12 0 1) (σ.1 12 0 2) (σ.1 12 0 3) (τ 30 0 36) (σ.1 13 0) (τ 54 0)) (hct : ct < 500000) (hi : idx < 12) (hc : c < 40) (hp : p ≤ 2) (h31 : τ 31 0 idx = nI p) (hP : Pat (σ.1 21) (σ.2.1 21) σ.2.2.1 (τ 35 0) (τ 36 0) (τ 37 0) (σ.2.1 17 16 2) (σ.2.1 17 16 3) p 6) (x3 : σ.1 15 c 3 = τ 41 0 c) (x4 : σ.1 15 c 4 = τ 42 0 c) :
    ∃ (σ' : xS) (τ' : yS) (ct' : Nat), ct' ≤ ct + 2 ∧ (xp (fH_isCatch σ (σ.2.1 17 16 2)) fun r29 => if r29 = 0 then (fA_seeAndCatch_60 N recX σ (nI i) c) else (xp (fC_add σ (σ.1 15 c 3)) fun s32 => fA_seeAndCatch_60 N recX s32 (nI i) c)) = recX σ' (nI (i + 1)) ∧ fM_check_Z2_352 N recM N τ (nI idx) (nI i) (nI c) 0 = recM τ' (nI idx) (nI (i + 1)) ∧ Q7 ct' (σ'.1 12 0 1) (σ'.1 12 0 2) (σ'.1 12 0 3) (τ' 30 0 36) (σ'.1 13 0) (τ' 54 0) ∧ (∀ r, ¬ r = 12 → ¬ r = 13 → σ'.1 r = σ.1 r) ∧ σ'.2 = σ.2 ∧ (∀ r, ¬ r = 30 → ¬ r = 54 → τ' r = τ r) ∧ (∀ j, ¬ j = 36 → τ' 30 0 j = τ 30 0 j) := by
  obtain ⟨p1, p2, p3, p4⟩ := hP
  have cnone : ∀ S : xS, fH_isCatch S none = some 0 := fun S => rfl
  obtain ⟨e, rfl⟩ : ∃ e, N = e + 3 := ⟨N - 3, by omega⟩
  have e60n : ∀ S : xS, S.2 = σ.2 → p ≤ 1 → fA_seeAndCatch_60 (e + 3) recX S (nI i) c = recX S (nI (i + 1)) := by
    intro S hS hp1
    unfold fA_seeAndCatch_60 fA_seeAndCatch_84
    rw [hS, p4 hp1, cnone, xp_e, if_pos rfl, nI_1]
  by_cases hp0 : p = 0
  · refine ⟨σ, τ, ct, by omega, ?_, ?_, h, fun _ _ _ => rfl, rfl, fun _ _ _ => rfl, fun _ _ => rfl⟩
    · rw [p3 hp0, cnone, xp_e, if_pos rfl, e60n σ rfl (by omega)]
    · subst hp0
      exact M_c0 hi hp h31
  · obtain ⟨σa, τa, ca, a1, a2, a3, a4, a5, a6, a7, a8⟩ := catch1 (v := σ.1 15 c 3) h (by omega) (p1 (by omega))
    have m1 := M_c1 (N := e + 3) (e := e + 2) (rec := recM) (a5 := nI i) (a7 := 0) hi hc hp h31 (by omega) h.2.1 (by omega)
    have m1' : fM_check_Z2_352 (e + 3) recM (e + 3) τ (nI idx) (nI i) (nI c) 0 = fM_check_Z2_352 (e + 3) recM (e + 2) τa (nI idx) (nI i) (nI c) (nI 1) := by
      rw [a3, x3]; exact m1
    have ta31 : τa 31 0 idx = nI p := by rw [a7 31 (by decide) (by decide)]; exact h31
    by_cases hp1 : p = 1
    · refine ⟨σa, τa, ca, by omega, ?_, ?_, a4, a5, a6, a7, a8⟩
      · rw [a2 (fun S => fA_seeAndCatch_60 (e + 3) recX S (nI i) c)]
        exact e60n σa a6 (by omega)
      · rw [m1']
        subst hp1
        exact M_c0 hi hp ta31
    · have hp2 : p = 2 := by omega
      have hM2 : Mt (σa.1 21) (σa.2.1 21) σa.2.2.1 (τa 35 0) (τa 36 0) (τa 37 0) (σa.2.1 17 16 3) 7 := by
        rw [a5 21 (by decide) (by decide), a6, a7 35 (by decide) (by decide), a7 36 (by decide) (by decide), a7 37 (by decide) (by decide)]
        exact p2 (by omega)
      obtain ⟨σb, τb, cb, b1, b2, b3, b4, b5, b6, b7, b8⟩ := catch1 (v := σa.1 15 c 4) a4 (by omega) hM2
      have m2 := M_c1 (N := e + 3) (e := e + 1) (rec := recM) (a5 := nI i) (a7 := 1) hi hc hp ta31 (by omega) a4.2.1 (by omega)
      have m2' : fM_check_Z2_352 (e + 3) recM (e + 2) τa (nI idx) (nI i) (nI c) (nI 1) = fM_check_Z2_352 (e + 3) recM (e + 1) τb (nI idx) (nI i) (nI c) (nI 2) := by
        rw [b3, a5 15 (by decide) (by decide), x4]
        rw [if_neg (show ¬ (1 : Nat) = 0 by decide), a7 42 (by decide) (by decide)] at m2
        exact m2
      have tb31 : τb 31 0 idx = nI p := by rw [b7 31 (by decide) (by decide)]; exact ta31
      refine ⟨σb, τb, cb, by omega, ?_, ?_, b4, fun r q1 q2 => (b5 r q1 q2).trans (a5 r q1 q2), b6.trans a6, fun r q1 q2 => (b7 r q1 q2).trans (a7 r q1 q2), fun j hj => (b8 j hj).trans (a8 j hj)⟩
      · rw [a2 (fun S => fA_seeAndCatch_60 (e + 3) recX S (nI i) c)]
        unfold fA_seeAndCatch_60
        rw [if_pos hc, b2 (fun S => fA_seeAndCatch_84 (e + 3) recX S (nI i))]
        unfold fA_seeAndCatch_84
        rw [nI_1]
      · rw [m1', m2']
        subst hp2
        exact M_c0 hi hp tb31
/-- what both have seen and caught so far -/
def Sn (σ0 : xS) (τ0 : yS) (σi : xS) (τi : yS) (nc ct : Nat) : Prop := (∀ r, ¬ r = 12 → ¬ r = 13 → ¬ r = 15 → σi.1 r = σ0.1 r) ∧ σi.2 = σ0.2 ∧ (∀ c j, ¬ j = 5 → σi.1 15 c j = σ0.1 15 c j) ∧ (∀ r, ¬ r = 30 → ¬ r = 44 → ¬ r = 54 → τi r = τ0 r) ∧ (∀ j, ¬ j = 36 → τi 30 0 j = τ0 30 0 j) ∧ (∀ c, c < nc → σi.1 15 c 5 = τi 44 0 c ∧ (τi 44 0 c = 0 ∨ τi 44 0 c = 1)) ∧ Q7 ct (σi.1 12 0 1) (σi.1 12 0 2) (σi.1 12 0 3) (τi 30 0 36) (σi.1 13 0) (τi 54 0)
theorem see_loop {N : Nat} (hN : 64 ≤ N) {σ : xS} {τ : yS} {idx p nc f : Nat} (hnc : nc ≤ 40) (hf40 : f ≤ 40) (hi : idx < 12) (hp : p ≤ 2) (h31 : τ 31 0 idx = nI p) (hP : Pat (σ.1 21) (σ.2.1 21) σ.2.2.1 (τ 35 0) (τ 36 0) (τ 37 0) (σ.2.1 17 16 2) (σ.2.1 17 16 3) p 6) (x34 : ∀ c, c < nc → σ.1 15 c 3 = τ 41 0 c ∧ σ.1 15 c 4 = τ 42 0 c) (h9 : σ.1 9 0 2 = nI f) (h35 : τ 30 0 35 = nI f) (hfd : ∀ j, j < f → ∃ c, c < nc ∧ σ.1 10 0 j = nI c ∧ τ 52 0 j = nI c) :
    ∀ (j i fuel : Nat) (σi : xS) (τi : yS) (ct : Nat), i + j = f → j < fuel → ct + 2 * j < 100000 → Sn σ τ σi τi nc ct → ∃ (σ' : xS) (τ' : yS) (ct' : Nat), ct' ≤ ct + 2 * j ∧ fA_seeAndCatch_2 N fuel σi (nI i) = some σ' ∧ fM_check_Z2_323 N fuel τi (nI idx) (nI i) = some (1, τ') ∧ Sn σ τ σ' τ' nc ct' := by
  intro j
  induction j with
  | zero =>
    intro i fuel σi τi ct hij hf hct hS
    obtain ⟨e, rfl⟩ : ∃ e, fuel = e + 1 := ⟨fuel - 1, by omega⟩
    have hiq : i = f := by omega
    subst hiq
    obtain ⟨h1, h2, h3, h4, h5, h6, h7⟩ := id hS
    have e9 : σi.1 9 0 2 = nI i := by rw [h1 9 (by decide) (by decide) (by decide)]; exact h9
    have e35 : τi 30 0 35 = nI i := by rw [h5 35 (by decide)]; exact h35
    refine ⟨σi, τi, ct, by omega, ?_, ?_, hS⟩
    · unfold fA_seeAndCatch_2 fA_seeAndCatch_2b
      rw [if_pos ((cLe e9 (y := nI i) rfl).mpr (by omega))]
    · unfold fM_check_Z2_323 fM_check_Z2_323b
      rw [if_pos ((cLe e35 (y := nI i) rfl).mpr (by omega))]
  | succ j ih =>
    intro i fuel σi τi ct hij hf hct hS
    obtain ⟨e, rfl⟩ : ∃ e, fuel = e + 1 := ⟨fuel - 1, by omega⟩
    obtain ⟨h1, h2, h3, h4, h5, h6, h7⟩ := id hS
    have e9 : σi.1 9 0 2 = nI f := by rw [h1 9 (by decide) (by decide) (by decide)]; exact h9
    have e35 : τi 30 0 35 = nI f := by rw [h5 35 (by decide)]; exact h35
    obtain ⟨c, c1, c2, c3⟩ := hfd i (by omega)
    have e10 : σi.1 10 0 i = nI c := by rw [h1 10 (by decide) (by decide) (by decide)]; exact c2
    have e52 : τi 52 0 i = nI c := by rw [h4 52 (by decide) (by decide) (by decide)]; exact c3
    have eX : fA_seeAndCatch_2 N (e + 1) σi (nI i) = fA_seeAndCatch_2b N (fA_seeAndCatch_2 N e) σi (nI i) := rfl
    have eM : fM_check_Z2_323 N (e + 1) τi (nI idx) (nI i) = fM_check_Z2_323b N (fM_check_Z2_323 N e) τi (nI idx) (nI i) := rfl
    rw [eX, eM]
    unfold fA_seeAndCatch_2b fM_check_Z2_323b
    have n9 : ¬ σi.1 9 0 2 ≤ nI i := fun h => by have := (cLe e9 (y := nI i) rfl).mp h; omega
    have n35 : ¬ τi 30 0 35 ≤ nI i := fun h => by have := (cLe e35 (y := nI i) rfl).mp h; omega
    rw [if_neg n9, if_neg n35, cCl (a := i) rfl, if_pos (cIn' (n := 40) (by omega)), if_pos (cIn' (n := 40) (by omega)), e10, e52, if_pos (cIn rfl), if_pos (cIn rfl), cCl (a := c) rfl, xl_e, xl_e]
    have q7 : Q7 ct ((x_si σi 15 c 5 1).1 12 0 1) ((x_si σi 15 c 5 1).1 12 0 2) ((x_si σi 15 c 5 1).1 12 0 3) ((y_si τi 44 0 c 1) 30 0 36) ((x_si σi 15 c 5 1).1 13 0) ((y_si τi 44 0 c 1) 54 0) := by
      rw [si_1, u3_r (by decide), u3_r (by decide), yi_1, u3_r (by decide), u3_r (by decide)]; exact h7
    have P' : Pat ((x_si σi 15 c 5 1).1 21) ((x_si σi 15 c 5 1).2.1 21) (x_si σi 15 c 5 1).2.2.1 ((y_si τi 44 0 c 1) 35 0) ((y_si τi 44 0 c 1) 36 0) ((y_si τi 44 0 c 1) 37 0) ((x_si σi 15 c 5 1).2.1 17 16 2) ((x_si σi 15 c 5 1).2.1 17 16 3) p 6 := by
      rw [si_1, u3_r (by decide), si_2, yi_1, u3_r (by decide), u3_r (by decide), u3_r (by decide), h1 21 (by decide) (by decide) (by decide), h2, h4 35 (by decide) (by decide) (by decide), h4 36 (by decide) (by decide) (by decide), h4 37 (by decide) (by decide) (by decide)]
      exact hP
    obtain ⟨σa, τa, ca, s1, s2, s3, s4, s5, s6, s7, s8⟩ := see1 (recX := fA_seeAndCatch_2 N e) (recM := fM_check_Z2_323 N e) (i := i) hN q7 (by omega) hi (c := c) (by omega) hp (by rw [yi_1, u3_r (by decide), h4 31 (by decide) (by decide) (by decide)]; exact h31) P' (by rw [si_1, u3_j (by decide), h3 c 3 (by decide), yi_1, u3_r (by decide), h4 41 (by decide) (by decide) (by decide)]; exact (x34 c c1).1) (by rw [si_1, u3_j (by decide), h3 c 4 (by decide), yi_1, u3_r (by decide), h4 42 (by decide) (by decide) (by decide)]; exact (x34 c c1).2)
    rw [s2, s3]
    have hS' : Sn σ τ σa τa nc ca := by
      refine ⟨fun r q12 q13 q15 => ?_, ?_, fun c' j' hj => ?_, fun r q30 q44 q54 => ?_, fun j' hj => ?_, fun c' hc' => ?_, s4⟩
      · rw [s5 r q12 q13, ← h1 r q12 q13 q15]; funext k j; rw [si_1, u3_r q15]
      · rw [s6]; exact h2
      · rw [s5 15 (by decide) (by decide), ← h3 c' j' hj, si_1]
        by_cases q : c' = c
        · subst q; rw [u3_j hj]
        · rw [u3_k q]
      · rw [s7 r q30 q54, ← h4 r q30 q44 q54]; funext k j; rw [yi_1, u3_r q44]
      · rw [s8 j' hj, yi_1, u3_r (by decide)]; exact h5 j' hj
      · rw [s5 15 (by decide) (by decide), s7 44 (by decide) (by decide), si_1, yi_1]
        by_cases q : c' = c
        · subst q; rw [u3_e, u3_e]; exact ⟨rfl, Or.inr rfl⟩
        · rw [u3_k q, u3_j q]; exact h6 c' hc'
    obtain ⟨σ', τ', ct', w1, w2, w3, w4⟩ := ih (i + 1) e σa τa ca (by omega) (by omega) (by omega) hS'
    exact ⟨σ', τ', ct', by omega, w2, w3, w4⟩
