/-! Transport of the groups; MISUSE. -/
theorem P5.congr {tm n kk : Nat} {a8 t29 : Int32} {x16 x17 x18 x19 x20 x16' x17' x18' x19' x20' : Nat → Nat → Int32} {p17 p17' : Nat → Nat → Option Nat} {I I' : Nat → Nat → Int32} {P P' : Nat → Nat → Option Nat} {L L' : List Nat} {sz kd vl t31 t33 t45 t46 t47 t48 t49 t50 t51 sz' kd' vl' t31' t33' t45' t46' t47' t48' t49' t50' t51' : Nat → Int32} (h : P5 tm n kk a8 t29 x16 x17 x18 x19 x20 p17 I P L sz kd vl t31 t33 t45 t46 t47 t48 t49 t50 t51)
    (h16 : ∀ t, t < 16 → x16' t = x16 t) (h17 : ∀ t, t < 16 → x17' t = x17 t) (h18 : ∀ t, t < 16 → x18' t = x18 t) (h19 : ∀ t, t < 16 → x19' t = x19 t) (h20 : ∀ t, t < 16 → x20' t = x20 t) (hp : ∀ t, t < 16 → p17' t = p17 t)
    (hPat : ∀ f g p slot, 88 ≤ slot → slot + 1 < 120 → Pat I P L sz kd vl f g p slot → Pat I' P' L' sz' kd' vl' f g p slot) (hpm : ∀ s m, s < n → m < 4 → pm t31' t33' s m = pm t31 t33 s m)
    (h45 : ∀ t, t < 16 → t45' t = t45 t) (h46 : ∀ t, t < 16 → t46' t = t46 t) (h47 : ∀ t, t < 16 → t47' t = t47 t) (h48 : ∀ t, t < 16 → t48' t = t48 t) (h49 : ∀ j, j < 64 → t49' j = t49 j) (h50 : ∀ j, j < 64 → t50' j = t50 j) (h51 : ∀ t, t < 16 → t51' t = t51 t) :
    P5 tm n kk a8 t29 x16' x17' x18' x19' x20' p17' I' P' L' sz' kd' vl' t31' t33' t45' t46' t47' t48' t49' t50' t51' := by
  obtain ⟨e1, e2, e3, e4, e5⟩ := h
  refine ⟨e1, e2, e3, fun t ht => ?_, fun t h1 h2 => ?_⟩
  · obtain ⟨az, us, ⟨s, m, g1, g2, g3, g4, g5, g6, g7⟩, f1, f2, f3, f4, f5, f6, f7, f8, f9, f10, f11⟩ := e4 t ht
    have ht' : t < 16 := by omega
    refine ⟨az, us, ⟨s, m, g1, g2, ?_, ?_, ?_, ?_, ?_⟩, f1, ?_, ?_, fun j hj => ⟨?_, ?_⟩, f5, ?_, ?_, ?_, f9, ?_, ?_⟩
    · rw [h17 t ht']; exact g3
    · rw [h45 t ht']; exact g4
    · rw [h17 t ht']; exact g5
    · rw [h46 t ht']; exact g6
    · rw [hp t ht', hpm s m g1 g2]; exact hPat _ _ _ _ (by omega) (by omega) g7
    · rw [h18 t ht']; exact f2
    · rw [h47 t ht']; exact f3
    · rw [h19 t ht', h49 _ (by omega)]; exact (f4 j hj).1
    · rw [h20 t ht', h50 _ (by omega)]; exact (f4 j hj).2
    · rw [h16 t ht']; exact f6
    · rw [h48 t ht']; exact f7
    · rw [h16 t ht']; exact f8
    · rw [h16 t ht', h51 t ht']; exact f10
    · rw [h51 t ht']; exact f11
  · obtain ⟨g1, g2, g3, g4, g5⟩ := e5 t h1 h2
    rw [h18 t h2, h16 t h2, h51 t h2]
    exact ⟨g1, g2, g3, g4, g5⟩
theorem P9_idle {n nc tm pz : Nat} {a12 a13 a14 a15 t9 t10 t11 t12 : Int32} {x17 : Nat → Nat → Int32} {p17 : Nat → Nat → Option Nat} {I : Nat → Nat → Int32} {P : Nat → Nat → Option Nat} {L : List Nat} {sz kd vl t31 t33 t39 t40 t45 t46 t48 t51 : Nat → Int32} (h1 : a12 = 0) (h2 : t9 = 0) : P9 0 n nc tm pz a12 a13 a14 a15 t9 t10 t11 t12 x17 p17 I P L sz kd vl t31 t33 t39 t40 t45 t46 t48 t51 :=
  ⟨by decide, h1, h2, fun h => absurd h (by decide), fun h => absurd h (by decide), fun h => absurd h (by decide), fun h => absurd h (by decide), fun h => absurd h (by decide)⟩
-- MISUSE of the class
theorem A_latest {σ : xS} {tm : Nat} (h8 : σ.1 0 0 8 = nI tm) (h1 : 1 ≤ tm) (h2 : tm ≤ 16) : fA_latestTelling σ = some (tm - 1) := by
  unfold fA_latestTelling
  have e : σ.1 0 0 8 - 1 = nI (tm - 1) := by rw [h8, show (1 : Int32) = nI 1 from rfl, pk_sub h1]
  have e2 : (if nI (tm - 1) < 0 then 0 else nI (tm - 1)) = nI (tm - 1) := if_neg (nI_pos (by omega))
  rw [e, e2, if_pos (cIn rfl), cCl rfl]
theorem A_awaits {σ : xS} {st : Nat} (h12 : σ.1 0 0 12 = nI st) (hs : st ≤ 4) : fA_awaitsCall σ = if st = 2 ∨ st = 3 then 1 else 0 := by
  unfold fA_awaitsCall fA_awaitsCall_16
  rw [h12]
  rcases (show st = 0 ∨ st = 1 ∨ st = 2 ∨ st = 3 ∨ st = 4 by omega) with rfl | rfl | rfl | rfl | rfl <;> decide
def lack (st tm : Nat) (x18 : Nat → Nat → Int32) : Bool := decide (st = 4) && decide (x18 (tm - 1) 2 = 0)
theorem A_lacks {σ : xS} {st tm : Nat} (h12 : σ.1 0 0 12 = nI st) (hs : st ≤ 4) (h8 : σ.1 0 0 8 = nI tm) (h4 : st = 4 → 1 ≤ tm) (h2 : tm ≤ 16) : fA_lacksAnswers σ = some (if lack st tm (σ.1 18) = true then 1 else 0) := by
  unfold fA_lacksAnswers lack
  by_cases h : st = 4
  · rw [if_pos ((cEq h12 (y := 4) (b := 4) rfl).mpr h), A_latest h8 (h4 h) h2, xp_e, if_pos (by have := h4 h; omega), if_pos (by have := h4 h; omega)]
    by_cases h0 : σ.1 18 (tm - 1) 2 = 0
    · rw [if_pos h0, if_pos (by simp [h, h0])]
    · rw [if_neg h0, if_neg (by simp [h, h0])]
  · rw [if_neg (fun q => h ((cEq h12 (y := 4) (b := 4) rfl).mp q)), if_neg (by simp [h])]
def xmE (σ : xS) : xS := x_si (x_si (x_si (x_si σ 4 0 1 0) 18 16 2 0) 0 0 12 0) 0 0 17 (σ.1 0 0 17 + 1)
def ymE (τ : yS) : yS := y_si (y_si (y_si (y_si τ 30 0 8 0) 30 0 9 0) 47 0 16 0) 30 0 30 (τ 30 0 30 + 1)
def xm (b : Bool) (t : Nat) (σ : xS) : xS := xmE (if b = true then x_si σ 16 t 4 1 else σ)
def ym (b : Bool) (t : Nat) (τ : yS) : yS := ymE (if b = true then y_si τ 51 0 t 1 else τ)
def mcode (a b : Int32) : Int32 := if a = 0 then (if b = 0 then -5 else -4) else -3
theorem A_mis29 (σ : xS) (a b : Int32) : fA_misuseIf_29 σ a b = some (mcode a b, xmE σ) := by
  unfold fA_misuseIf_29 xmE mcode
  simp only [xl_e]
  have e : (x_si (x_si (x_si σ 4 0 1 0) 18 16 2 0) 0 0 12 0).1 0 0 17 = σ.1 0 0 17 := by
    simp [si_1, u3_r, u3_j]
  rw [e]
  by_cases h1 : a = 0
  · rw [if_pos h1, if_pos h1]
    by_cases h2 : b = 0
    · rw [if_pos h2, if_pos h2]
    · rw [if_neg h2, if_neg h2]
  · rw [if_neg h1, if_neg h1]
theorem A_mis14 {σ : xS} {st tm : Nat} {a b : Int32} (h12 : σ.1 0 0 12 = nI st) (hs : st ≤ 4) (h8 : σ.1 0 0 8 = nI tm) (h4 : st = 4 → 1 ≤ tm) (h2 : tm ≤ 16) : fA_misuseIf_14 σ a b = some (mcode a b, xm (lack st tm (σ.1 18)) (tm - 1) σ) := by
  unfold fA_misuseIf_14 xm
  rw [A_lacks h12 hs h8 h4 h2, xp_e]
  by_cases h : lack st tm (σ.1 18) = true
  · have h4' : st = 4 := by unfold lack at h; simp at h; exact h.1
    rw [if_pos h, if_neg (by decide), A_latest h8 (h4 h4') h2, xp_e, if_pos (by have := h4 h4'; omega), xl_e, A_mis29, if_pos h]
  · rw [if_neg h, if_pos rfl, A_mis29, if_neg h]
theorem A_misuse {σ : xS} {st tm : Nat} {a b c : Int32} (h12 : σ.1 0 0 12 = nI st) (hs : st ≤ 4) (h8 : σ.1 0 0 8 = nI tm) (h4 : st = 4 → 1 ≤ tm) (h2 : tm ≤ 16) : fA_misuseIf σ a b c = if a = 0 ∧ b = 0 ∧ c = 0 then some (0, σ) else some (mcode a b, xm (lack st tm (σ.1 18)) (tm - 1) σ) := by
  unfold fA_misuseIf
  rw [A_mis14 h12 hs h8 h4 h2]
  by_cases ha : a = 0
  · by_cases hb : b = 0
    · by_cases hc : c = 0
      · simp [ha, hb, hc]
      · simp [ha, hb, hc]
    · simp [ha, hb]
  · simp [ha]
-- of the model
theorem M_mis111 {τ : yS} {st tm : Nat} {bad : Int32} (h9 : τ 30 0 9 = nI st) (hs : st ≤ 4) (h29 : τ 30 0 29 = nI tm) (h4 : st = 4 → 1 ≤ tm) (h2 : tm ≤ 16) (hb : ¬ bad = 0) : fM_misuse_111 τ bad = some (bad, ym (decide (st = 4) && decide (τ 47 0 (tm - 1) = 0)) (tm - 1) τ) := by
  have e152 : ∀ τ : yS, fM_misuse_152 τ bad = some (bad, ymE τ) := by
    intro τ
    unfold fM_misuse_152 ymE
    simp only [xl_e, c16]
    have e : (y_si (y_si (y_si τ 30 0 8 0) 30 0 9 0) 47 0 16 0) 30 0 30 = τ 30 0 30 := by simp [yi_1, u3_r, u3_j]
    rw [e]
  unfold fM_misuse_111 ym
  rw [if_neg hb]
  by_cases h : st = 4
  · have ht := h4 h
    have e : τ 30 0 29 - 1 = nI (tm - 1) := by rw [h29, show (1 : Int32) = nI 1 from rfl, pk_sub ht]
    rw [if_pos ((cEq h9 (y := 4) (b := 4) rfl).mpr h), e, if_pos (cIn rfl), cCl rfl]
    by_cases h0 : τ 47 0 (tm - 1) = 0
    · rw [if_pos h0, if_pos (cIn' (by omega)), xl_e, e152, if_pos (by simp [h, h0])]
    · rw [if_neg h0, e152, if_neg (by simp [h0])]
  · rw [if_neg (fun q => h ((cEq h9 (y := 4) (b := 4) rfl).mp q)), e152, if_neg (by simp [h])]
theorem M_mis111z (τ : yS) : fM_misuse_111 τ 0 = some (0, τ) := by unfold fM_misuse_111; rw [if_pos rfl]
def b01 (b : Bool) : Int32 := if b = true then 1 else 0
/-- the model's misuse: u unfinished, v misplaced, w wrong -/
theorem M_misuse {τ : yS} {st tm ss : Nat} {isM isA w : Bool} {cof : Int32} (h9 : τ 30 0 9 = nI st) (hs : st ≤ 4) (h29 : τ 30 0 29 = nI tm) (h4 : st = 4 → 1 ≤ tm) (h2 : tm ≤ 16) (h8 : τ 30 0 8 = nI ss) (hss : ss ≤ 6) {goes : Bool} (hg : goes = (isM || (!decide (cof < 0) && decide (cof = τ 30 0 10)))) {lk u v : Bool} (hlk : lk = (decide (st = 4) && decide (τ 47 0 (tm - 1) = 0))) (hu : u = (((decide (st = 2) || decide (st = 3)) && !goes) || (lk && !isA))) (hv : v = (decide (0 < ss) && !isM && decide (cof < 0))) :
    fM_misuse τ (b01 isM) cof (b01 isA) (b01 w) = if u = false ∧ v = false ∧ w = false then some (0, τ) else some (if u = true then -3 else if v = true then -4 else -5, ym lk (tm - 1) τ) := by
  subst hlk
  have e102 : fM_misuse_102 τ (b01 w) 0 = if w = true then some (-5, ym (decide (st = 4) && decide (τ 47 0 (tm - 1) = 0)) (tm - 1) τ) else some (0, τ) := by
    unfold fM_misuse_102 b01
    cases w
    · simp [M_mis111z]
    · simp [M_mis111 h9 hs h29 h4 h2 (show ¬ (-5 : Int32) = 0 by decide)]
  have e80 : fM_misuse_80 τ (b01 isM) cof (b01 w) 0 = if v = true then some (-4, ym (decide (st = 4) && decide (τ 47 0 (tm - 1) = 0)) (tm - 1) τ) else if w = true then some (-5, ym (decide (st = 4) && decide (τ 47 0 (tm - 1) = 0)) (tm - 1) τ) else some (0, τ) := by
    unfold fM_misuse_80
    rw [e102, M_mis111 h9 hs h29 h4 h2 (show ¬ (-4 : Int32) = 0 by decide)]
    subst hv
    by_cases h0 : ss ≤ 0
    · have h0' : ¬ 0 < ss := by omega
      rw [if_pos ((cLe h8 (y := 0) (b := 0) rfl).mpr h0)]
      simp [h0']
    · rw [if_neg (fun q => h0 ((cLe h8 (y := 0) (b := 0) rfl).mp q))]
      cases isM
      · by_cases hc : 0 ≤ cof
        · have hc' : ¬ cof < 0 := Int32.not_lt.mpr hc
          simp [b01, hc, hc']
        · have hc' : cof < 0 := Int32.not_le.mp hc
          have h0' : 0 < ss := by omega
          simp [b01, hc, hc', h0']
      · simp [b01]
  have e73 : fM_misuse_73 τ = some (-3, ym (decide (st = 4) && decide (τ 47 0 (tm - 1) = 0)) (tm - 1) τ) := by
    unfold fM_misuse_73
    exact M_mis111 h9 hs h29 h4 h2 (by decide)
  have e47 : fM_misuse_47 τ (b01 isM) cof (b01 isA) (b01 w) 0 = if ((decide (st = 4) && decide (τ 47 0 (tm - 1) = 0)) && !isA) = true then fM_misuse_73 τ else fM_misuse_80 τ (b01 isM) cof (b01 w) 0 := by
    unfold fM_misuse_47
    by_cases h : st = 4
    · have ht := h4 h
      have e : τ 30 0 29 - 1 = nI (tm - 1) := by rw [h29, show (1 : Int32) = nI 1 from rfl, pk_sub ht]
      rw [if_pos ((cEq h9 (y := 4) (b := 4) rfl).mpr h), e, if_pos (cIn rfl), cCl rfl]
      by_cases h0 : τ 47 0 (tm - 1) = 0
      · rw [if_pos h0]
        cases isA <;> simp [b01, h, h0]
      · rw [if_neg h0, if_neg (by simp [h0])]
    · rw [if_neg (fun q => h ((cEq h9 (y := 4) (b := 4) rfl).mp q)), if_neg (by simp [h])]
  have e21 : ∀ g : Bool, fM_misuse_21 τ (b01 isM) cof (b01 isA) (b01 w) (b01 g) = if ((decide (st = 2) || decide (st = 3)) && !g) = true then fM_misuse_73 τ else fM_misuse_47 τ (b01 isM) cof (b01 isA) (b01 w) 0 := by
    intro g
    unfold fM_misuse_21 fM_misuse_42
    by_cases ha : st = 2
    · rw [if_pos ((cEq h9 (y := 2) (b := 2) rfl).mpr ha)]
      cases g <;> simp [ha, b01]
    · rw [if_neg (fun q => ha ((cEq h9 (y := 2) (b := 2) rfl).mp q))]
      by_cases hb : st = 3
      · rw [if_pos ((cEq h9 (y := 3) (b := 3) rfl).mpr hb)]
        cases g <;> simp [hb, b01]
      · rw [if_neg (fun q => hb ((cEq h9 (y := 3) (b := 3) rfl).mp q))]
        simp [ha, hb]
  have eM : fM_misuse τ (b01 isM) cof (b01 isA) (b01 w) = fM_misuse_21 τ (b01 isM) cof (b01 isA) (b01 w) (b01 goes) := by
    unfold fM_misuse fM_misuse_16 fM_misuse_20
    subst hg
    cases isM
    · by_cases hc : cof < 0
      · simp [b01, hc]
      · by_cases hd : cof = τ 30 0 10
        · simp [b01, hc, ← hd]
        · simp [b01, hc, hd]
    · simp [b01]
  rw [eM, e21, e47, e73, e80]
  subst hu
  cases hq1 : ((decide (st = 2) || decide (st = 3)) && !goes)
  · cases hq2 : ((decide (st = 4) && decide (τ 47 0 (tm - 1) = 0)) && !isA)
    · cases v
      · cases w <;> simp
      · simp
    · simp
  · simp
