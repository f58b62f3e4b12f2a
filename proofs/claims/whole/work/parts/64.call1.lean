/-! call: room, misuse. -/
def anyW (p g : Int32) (kd vl : Nat → Int32) : Nat → Nat → Bool
  | _, 0 => false
  | i, j + 1 => wnd p g (kd i) (vl i) || anyW p g kd vl (i + 1) j
theorem Q_all {N : Nat} {σ : xS} {pz idx : Nat} {kd vl : Nat → Int32} (hi : idx < 12) (h18 : σ.1 18 16 2 = nI pz) (hpz : pz ≤ 4) (hv : ∀ j, j < pz → σ.1 19 16 j = kd j ∧ σ.1 20 16 j = vl j) : ∀ (j i fuel : Nat), i + j = pz → j < fuel → fQ_allDoFor_2 N σ fuel 16 idx (nI i) = some (b01 (!anyW (σ.1 14 idx 0) (σ.1 14 idx 1) kd vl i j)) := by
  intro j
  induction j with
  | zero =>
    intro i fuel hij hf
    obtain ⟨e, rfl⟩ : ∃ e, fuel = e + 1 := ⟨fuel - 1, by omega⟩
    unfold fQ_allDoFor_2 fQ_allDoFor_2b anyW
    rw [if_pos (by decide), if_pos ((cLe h18 (y := nI i) rfl).mpr (by omega))]
    rfl
  | succ j ih =>
    intro i fuel hij hf
    obtain ⟨e, rfl⟩ : ∃ e, fuel = e + 1 := ⟨fuel - 1, by omega⟩
    obtain ⟨v1, v2⟩ := hv i (by omega)
    unfold fQ_allDoFor_2 fQ_allDoFor_2b anyW
    rw [if_pos (by decide), if_neg (fun h => by have := (cLe h18 (y := nI i) rfl).mp h; omega), if_pos (cIn rfl), cCl rfl, D_can hi, xp_e, if_pos hi, v1, v2, nI_1, ih (i + 1) e (by omega) (by omega)]
    cases wnd (σ.1 14 idx 0) (σ.1 14 idx 1) (kd i) (vl i)
    · rw [show b01 (!false) = 1 from rfl, if_neg n10]; simp
    · rw [show b01 (!true) = 0 from rfl, if_pos rfl]; rfl
theorem or01 (x y : Bool) : b01 x ||| b01 y = b01 (x || y) := by cases x <;> cases y <;> decide
theorem M_all {N : Nat} {τ : yS} {pz idx : Nat} {a1 a2 a7 a8 a9 : Int32} (hi : idx < 12) (h47 : τ 47 0 16 = nI pz) (hpz : pz ≤ 4) : ∀ (j i fuel : Nat) (w : Bool), i + j = pz → j < fuel → fM_call_162 N fuel τ a1 a2 1 (nI idx) a7 a8 a9 (b01 w) (nI i) = fM_call_200 N τ a1 a2 a7 a8 a9 (b01 (w || anyW (τ 31 0 idx) (τ 32 0 idx) (fun j => τ 49 0 (64 + j)) (fun j => τ 50 0 (64 + j)) i j)) := by
  intro j
  induction j with
  | zero =>
    intro i fuel w hij hf
    obtain ⟨e, rfl⟩ : ∃ e, fuel = e + 1 := ⟨fuel - 1, by omega⟩
    unfold fM_call_162 fM_call_162b anyW
    rw [c16, if_pos ((cLe h47 (y := nI i) rfl).mpr (by omega)), Bool.or_false]
  | succ j ih =>
    intro i fuel w hij hf
    obtain ⟨e, rfl⟩ : ∃ e, fuel = e + 1 := ⟨fuel - 1, by omega⟩
    have ew := M_wnd (τ := τ) (t := 16) (k := i) (idx := idx) (by omega) hi
    have ew' : fM_willNotDo τ 16 (nI i) (nI idx) = some (b01 (wnd (τ 31 0 idx) (τ 32 0 idx) (τ 49 0 (64 + i)) (τ 50 0 (64 + i)))) := ew
    unfold fM_call_162 fM_call_162b anyW
    rw [c16, if_neg (fun h => by have := (cLe h47 (y := nI i) rfl).mp h; omega), if_neg n10, ew', xp_e, or01, nI_1, ih (i + 1) e _ (by omega) (by omega), Bool.or_assoc]
theorem M_all0 {N : Nat} (hN : 64 ≤ N) {τ : yS} {a1 a2 a6 a7 a8 a9 a10 a11 : Int32} : fM_call_162 N N τ a1 a2 0 a6 a7 a8 a9 a10 a11 = fM_call_200 N τ a1 a2 a7 a8 a9 a10 := by
  obtain ⟨e, rfl⟩ : ∃ e, N = e + 1 := ⟨N - 1, by omega⟩
  unfold fM_call_162 fM_call_162b
  rw [if_pos rfl]
  split <;> rfl
/-- room: both alike -/
theorem call_room {N k : Nat} {σ : xS} {τ : yS} {n ss pz nc tm fz ct st s : Nat} {a2 a b : Int32} (h : Rl k σ τ n ss pz nc tm fz ct st) (hs : s < n) :
    (fA_hasNoRoomForCallOf σ (nI s) = 1 ∧ (if τ 30 0 9 = 2 then (if τ 30 0 10 = nI s then fM_call_48 N τ (nI s) a2 a b 1 else fM_call_47 N τ (nI s) a2 a b) else fM_call_47 N τ (nI s) a2 a b) = some (17592186044414, τ)) ∨
    (fA_hasNoRoomForCallOf σ (nI s) = 0 ∧ (if τ 30 0 9 = 2 then (if τ 30 0 10 = nI s then fM_call_48 N τ (nI s) a2 a b 1 else fM_call_47 N τ (nI s) a2 a b) else fM_call_47 N τ (nI s) a2 a b) = fM_call_93 N τ (nI s) a2 a b (b01 (decide (st = 2) && decide (τ 30 0 10 = nI s))) ∧ (¬ (st = 2 ∨ st = 3) → nc < 40) ∧ (st = 2 → τ 30 0 10 = nI s → tm < 16)) := by
  obtain ⟨h0, h1, h2, h3, h4, h5, h6, h7, h8, h9⟩ := h
  obtain ⟨s1, s2, s3, s4, s5, s6, s7, s8⟩ := h9
  obtain ⟨b1, b2, b3, b4, b5⟩ := h4
  obtain ⟨g1, g2, g3, g4, g5⟩ := h5
  unfold fA_hasNoRoomForCallOf fM_call_47 fM_call_48 fM_call_64
  rw [A_awaits s2 s1]
  by_cases q2 : st = 2
  · obtain ⟨s0, z1, z2, z3⟩ := s5 (Or.inl q2)
    have e2 : σ.1 0 0 12 = 2 := (cEq s2 (y := 2) (b := 2) rfl).mpr q2
    have e3 : τ 30 0 9 = 2 := (cEq s3 (y := 2) (b := 2) rfl).mpr q2
    rw [if_pos (Or.inl q2), if_neg n10, if_pos e2, if_pos e3, if_pos e3, if_pos rfl, if_neg n10]
    by_cases q : τ 30 0 10 = nI s
    · have q' : nI s = σ.1 0 0 13 := by rw [z2, ← z3]; exact q.symm
      rw [if_pos q', if_pos q]
      by_cases qt : tm < 16
      · right
        have n16 : ¬ τ 30 0 29 = 16 := fun q => by have := (cEq g3 (y := 16) (b := 16) rfl).mp q; omega
        rw [if_pos ((cLt g2 (y := 16) (b := 16) rfl).mpr qt), if_neg n16]
        refine ⟨rfl, ?_, fun q3 => absurd (Or.inl q2) q3, fun _ _ => qt⟩
        simp [q2, q, b01]
      · left
        rw [if_neg (fun q => qt ((cLt g2 (y := 16) (b := 16) rfl).mp q)), if_pos ((cEq g3 (y := 16) (b := 16) rfl).mpr (by omega))]
        exact ⟨rfl, rfl⟩
    · have q' : ¬ nI s = σ.1 0 0 13 := fun q3 => q (by rw [z3, ← z2]; exact q3.symm)
      right
      rw [if_neg q', if_neg q]
      refine ⟨rfl, ?_, fun q3 => absurd (Or.inl q2) q3, fun _ q3 => absurd q3 q⟩
      simp [q, b01, e3]
  · have e3 : ¬ τ 30 0 9 = 2 := fun q => q2 ((cEq s3 (y := 2) (b := 2) rfl).mp q)
    have e2 : ¬ σ.1 0 0 12 = 2 := fun q => q2 ((cEq s2 (y := 2) (b := 2) rfl).mp q)
    rw [if_neg e3, if_neg e3, if_pos rfl]
    by_cases q3 : st = 3
    · right
      rw [if_pos (Or.inr q3), if_neg n10, if_neg e2, if_pos ((cEq s3 (y := 3) (b := 3) rfl).mpr q3)]
      refine ⟨rfl, ?_, fun q => absurd (Or.inr q3) q, fun q => absurd q q2⟩
      simp [q2, b01]
    · have hns : ¬ (st = 2 ∨ st = 3) := fun q => q.elim q2 q3
      rw [if_neg hns, if_pos rfl, if_neg (fun q => q3 ((cEq s3 (y := 3) (b := 3) rfl).mp q))]
      by_cases hc : nc < 40
      · right
        have n40 : ¬ τ 30 0 20 = 40 := fun q => by have := (cEq b3 (y := 40) (b := 40) rfl).mp q; omega
        rw [if_pos ((cLt b2 (y := 40) (b := 40) rfl).mpr hc), if_neg n40]
        refine ⟨rfl, ?_, fun _ => hc, fun q => absurd q q2⟩
        simp [q2, b01]
      · left
        rw [if_neg (fun q => hc ((cLt b2 (y := 40) (b := 40) rfl).mp q)), if_pos ((cEq b3 (y := 40) (b := 40) rfl).mpr (by omega))]
        exact ⟨rfl, rfl⟩
/-- misuse of a call: both alike -/
theorem call_mis {N k : Nat} (hN : 64 ≤ N) {σ : xS} {τ : yS} {n ss pz nc tm fz ct st s m ty : Nat} {a b : Int32} (h : Rl k σ τ n ss pz nc tm fz ct st) (hs : s < n) (hm : m < 4) (hty : ty < 3) (h33 : τ 33 0 s = nI ty) (h31 : τ 31 0 (4 * ty + m) = nI (pm (τ 31 0) (τ 33 0) s m)) (hp : pm (τ 31 0) (τ 33 0) s m ≤ 2) (h14 : σ.1 14 (4 * ty + m) 0 = nI (pm (τ 31 0) (τ 33 0) s m)) (h14' : σ.1 14 (4 * ty + m) 1 = τ 32 0 (4 * ty + m)) :
    ∃ u w : Bool, ((∃ (c : Int32) (σ' : xS) (τ' : yS), c < 0 ∧ fA_misuseOfCall N σ (nI s) (4 * ty + m) = some (c, σ') ∧ fM_call_93 N τ (nI s) (nI m) a b (b01 (decide (st = 2) && decide (τ 30 0 10 = nI s))) = some (17592186044416 + c.toInt64, τ') ∧ Rl k σ' τ' n 0 0 nc tm fz ct 0) ∨
      (fA_misuseOfCall N σ (nI s) (4 * ty + m) = some (0, σ) ∧ fM_call_93 N τ (nI s) (nI m) a b (b01 (decide (st = 2) && decide (τ 30 0 10 = nI s))) = fM_call_227 N N τ (nI s) (nI m) (nI (pm (τ 31 0) (τ 33 0) s m)) (if pm (τ 31 0) (τ 33 0) s m = 0 then 0 else a) (if pm (τ 31 0) (τ 33 0) s m ≤ 1 then 0 else b) 0 ∧ (ss = 0 ∨ ss = pm (τ 31 0) (τ 33 0) s m) ∧ (st = 2 ∨ st = 3 → τ 30 0 10 = nI s))) := by
  have hlk := lack_eq h
  obtain ⟨h0, h1, h2, h3, h4, h5, h6, h7, h8, h9⟩ := id h
  obtain ⟨s1, s2, s3, s4, s5, s6, s7, s8⟩ := h9
  obtain ⟨k1, k2, k3, k4⟩ := h2
  obtain ⟨q1, q2, q3, q4⟩ := h3
  obtain ⟨g1, g2, g3, g4, g5⟩ := h5
  have ht4 : st = 4 → 1 ≤ tm := fun q => (s8 q).1
  have hidx : 4 * ty + m < 12 := by omega
  have hn6 := h1.1
  have neg : ¬ nI s < 0 := nI_pos (by omega)
  obtain ⟨P, hP⟩ : ∃ P, P = pm (τ 31 0) (τ 33 0) s m := ⟨_, rfl⟩
  rw [← hP] at h31 hp h14 ⊢
  obtain ⟨W, hW⟩ : ∃ W, W = anyW (τ 31 0 (4 * ty + m)) (τ 32 0 (4 * ty + m)) (fun j => τ 49 0 (64 + j)) (fun j => τ 50 0 (64 + j)) 0 pz := ⟨_, rfl⟩
  -- the model
  have eM : fM_call_93 N τ (nI s) (nI m) a b (b01 (decide (st = 2) && decide (τ 30 0 10 = nI s))) = fM_call_200 N τ (nI s) (nI m) (nI P) (if P = 0 then 0 else a) (if P ≤ 1 then 0 else b) (b01 ((decide (0 < ss) && !decide (ss = P)) || ((decide (st = 2) && decide (τ 30 0 10 = nI s)) && W))) := by
    have e162 : ∀ (A B : Int32) (w : Bool), fM_call_162 N N τ (nI s) (nI m) (b01 (decide (st = 2) && decide (τ 30 0 10 = nI s))) (nI (4 * ty + m)) (nI P) A B (b01 w) 0 = fM_call_200 N τ (nI s) (nI m) (nI P) A B (b01 (w || ((decide (st = 2) && decide (τ 30 0 10 = nI s)) && W))) := by
      intro A B w
      cases (decide (st = 2) && decide (τ 30 0 10 = nI s))
      · rw [show b01 false = 0 from rfl, M_all0 hN]; simp
      · rw [show b01 true = 1 from rfl, hW]
        have := M_all (N := N) (τ := τ) (a1 := nI s) (a2 := nI m) (a7 := nI P) (a8 := A) (a9 := B) hidx q3 q1 pz 0 N w (by omega) (by omega)
        rw [Bool.true_and]
        exact this
    have e134 : ∀ A B : Int32, fM_call_134 N τ (nI s) (nI m) (b01 (decide (st = 2) && decide (τ 30 0 10 = nI s))) (nI (4 * ty + m)) (nI P) A B = fM_call_200 N τ (nI s) (nI m) (nI P) A B (b01 ((decide (0 < ss) && !decide (ss = P)) || ((decide (st = 2) && decide (τ 30 0 10 = nI s)) && W))) := by
      intro A B
      unfold fM_call_134 fM_call_156 fM_call_157
      by_cases z : ss ≤ 0
      · have z' : ¬ 0 < ss := by omega
        rw [if_pos ((cLe k3 (y := 0) (b := 0) rfl).mpr z), show (0 : Int32) = b01 false from rfl]
        have := e162 A B false
        rw [show (0 : Int32) = b01 false from rfl] at this
        rw [this]
        simp [z']
      · have z' : 0 < ss := by omega
        rw [if_neg (fun q => z ((cLe k3 (y := 0) (b := 0) rfl).mp q))]
        by_cases y : ss = P
        · rw [if_pos ((cEq k3 (y := nI P) rfl).mpr y)]
          have := e162 A B false
          rw [show b01 false = 0 from rfl] at this
          rw [this]
          simp [y]
        · rw [if_neg (fun q => y ((cEq k3 (y := nI P) rfl).mp q))]
          have := e162 A B true
          rw [show b01 true = 1 from rfl] at this
          rw [this]
          simp [y, z']
    have e120 : ∀ A : Int32, fM_call_120 N τ (nI s) (nI m) b (b01 (decide (st = 2) && decide (τ 30 0 10 = nI s))) (nI (4 * ty + m)) (nI P) A = fM_call_200 N τ (nI s) (nI m) (nI P) A (if P ≤ 1 then 0 else b) (b01 ((decide (0 < ss) && !decide (ss = P)) || ((decide (st = 2) && decide (τ 30 0 10 = nI s)) && W))) := by
      intro A
      unfold fM_call_120
      by_cases z : P ≤ 1
      · rw [if_pos ((cLe (x := nI P) rfl (y := 1) (b := 1) rfl).mpr z), if_pos z, e134]
      · rw [if_neg (fun q => z ((cLe (x := nI P) rfl (y := 1) (b := 1) rfl).mp q)), if_neg z, e134]
    unfold fM_call_93
    rw [M_shape_e (by omega) h33, xp_e, if_pos (cIn rfl), cCl rfl, h31, e120, e120]
    by_cases z : P = 0
    · rw [if_pos ((cLe (x := nI P) rfl (y := 0) (b := 0) rfl).mpr (by omega)), if_pos z]
    · rw [if_neg (fun q => z (by have := (cLe (x := nI P) rfl (y := 0) (b := 0) rfl).mp q; omega)), if_neg z]
  -- the class
  have eAll : fQ_allDoFor N σ 16 (4 * ty + m) = some (b01 (!W)) := by
    unfold fQ_allDoFor
    have := Q_all (N := N) (σ := σ) (kd := fun j => τ 49 0 (64 + j)) (vl := fun j => τ 50 0 (64 + j)) hidx q2 q1 q4 pz 0 N (by omega) (by omega)
    rw [h14, h14', ← h31] at this
    rw [hW]
    exact this
  obtain ⟨u, hu⟩ : ∃ u : Bool, u = (((decide (st = 2) || decide (st = 3)) && !(false || (!decide (nI s < 0) && decide (nI s = τ 30 0 10)))) || (lack st tm (σ.1 18) && !false)) := ⟨_, rfl⟩
  have e76 : ∀ x y : Int32, fA_misuseOfCall_76 N σ x y = fA_misuseIf σ x 0 y := by
    intro x y
    unfold fA_misuseOfCall_76
    rw [A_misuse s2 s1 g2 ht4 g1]
    by_cases q : x = 0 ∧ (0 : Int32) = 0 ∧ y = 0
    · rw [if_pos q]; rfl
    · rw [if_neg q]; rfl
  have e52 : ∀ x : Int32, fA_misuseOfCall_52 N σ (4 * ty + m) x = fA_misuseIf σ x 0 (b01 (decide (st = 2) && W)) := by
    intro x
    unfold fA_misuseOfCall_52 fA_misuseOfCall_71 fA_misuseOfCall_75
    rw [eAll, xp_e, e76, e76]
    by_cases z : st = 2
    · rw [if_pos ((cEq s2 (y := 2) (b := 2) rfl).mpr z)]
      cases W
      · rw [show b01 (!false) = 1 from rfl, if_neg n10]; simp [b01]
      · rw [show b01 (!true) = 0 from rfl, if_pos rfl]; simp [z, b01]
    · rw [if_neg (fun q => z ((cEq s2 (y := 2) (b := 2) rfl).mp q))]; simp [z, b01]
  have e27 : ∀ x : Int32, fA_misuseOfCall_27 N σ (4 * ty + m) x = fA_misuseIf σ x 0 (b01 ((decide (0 < ss) && !decide (ss = P)) || (decide (st = 2) && W))) := by
    intro x
    unfold fA_misuseOfCall_27 fA_misuseOfCall_71
    rw [e52, e76, h14]
    by_cases z : ss ≤ 0
    · have z' : ¬ 0 < ss := by omega
      rw [if_pos ((cLe k2 (y := 0) (b := 0) rfl).mpr z)]; simp [z']
    · have z' : 0 < ss := by omega
      rw [if_neg (fun q => z ((cLe k2 (y := 0) (b := 0) rfl).mp q)), if_pos hidx]
      by_cases y : ss = P
      · rw [if_pos ((cEq k2 (y := nI P) rfl).mpr y)]; simp [y]
      · rw [if_neg (fun q => y ((cEq k2 (y := nI P) rfl).mp q))]; simp [y, z', b01]
  have eX : fA_misuseOfCall N σ (nI s) (4 * ty + m) = fA_misuseIf σ (b01 u) 0 (b01 ((decide (0 < ss) && !decide (ss = P)) || (decide (st = 2) && W))) := by
    have e15 : fA_misuseOfCall_15 N σ (4 * ty + m) = fA_misuseIf σ (b01 (lack st tm (σ.1 18))) 0 (b01 ((decide (0 < ss) && !decide (ss = P)) || (decide (st = 2) && W))) := by
      unfold fA_misuseOfCall_15 fA_misuseOfCall_22
      rw [A_lacks s2 s1 g2 ht4 g1, xp_e, e27, e27]
      cases lack st tm (σ.1 18)
      · rfl
      · rfl
    unfold fA_misuseOfCall fA_misuseOfCall_22
    rw [A_awaits s2 s1, e15, e27, hu]
    by_cases z : st = 2 ∨ st = 3
    · obtain ⟨s0, z1, z2, z3⟩ := s5 z
      rw [if_pos z, if_neg n10, z2, z3]
      have zz : (decide (st = 2) || decide (st = 3)) = true := by rcases z with z | z <;> simp [z]
      rw [zz]
      by_cases y : nI s = nI s0
      · rw [if_pos y, ← y]; simp [neg]
      · rw [if_neg y]; simp [y, b01]
    · have z2 : ¬ st = 2 := fun q => z (Or.inl q)
      have z3 : ¬ st = 3 := fun q => z (Or.inr q)
      rw [if_neg z, if_pos rfl]; simp [z2, z3]
  -- both
  obtain ⟨w, hw⟩ : ∃ w : Bool, w = ((decide (0 < ss) && !decide (ss = P)) || ((decide (st = 2) && decide (τ 30 0 10 = nI s)) && W)) := ⟨_, rfl⟩
  have eX2 : fA_misuseIf σ (b01 u) 0 (b01 ((decide (0 < ss) && !decide (ss = P)) || (decide (st = 2) && W))) = fA_misuseIf σ (b01 u) 0 (b01 w) := by
    by_cases z : u = true
    · rw [z, A_misuse s2 s1 g2 ht4 g1, A_misuse s2 s1 g2 ht4 g1, if_neg (fun q => n10 q.1), if_neg (fun q => n10 q.1)]
    · have : st = 2 → τ 30 0 10 = nI s := by
        intro y
        rw [hu] at z
        by_cases y2 : nI s = τ 30 0 10
        · exact y2.symm
        · exact absurd (by simp [y, y2]) z
      rw [hw]
      by_cases y : st = 2
      · simp [y, this y]
      · simp [y]
  refine ⟨u, w, ?_⟩
  rw [eX, eX2, eM, ← hw]
  unfold fM_call_200
  rcases misG h (isM := false) (isA := false) (w := w) (cof := nI s) (u := u) (v := false) hu (by simp [neg]) with ⟨c, σ', τ', c0, c1, c2, c3⟩ | ⟨c1, c2, u0, v0, w0⟩
  · left
    rw [show b01 false = 0 from rfl] at c1 c2
    rw [c2, xb_e, if_neg (ge0 c0).2]
    exact ⟨c, σ', τ', c0, c1, rfl, c3⟩
  · right
    rw [show b01 false = 0 from rfl] at c1 c2
    rw [c2, xb_e, if_pos pos0]
    refine ⟨c1, rfl, ?_, fun y => ?_⟩
    · rw [hw] at w0
      by_cases z : ss = 0
      · exact Or.inl z
      · right
        have z' : 0 < ss := by omega
        by_cases y : ss = P
        · exact y
        · simp [z', y] at w0
    · rw [hu] at u0
      by_cases y2 : nI s = τ 30 0 10
      · exact y2.symm
      · have : (decide (st = 2) || decide (st = 3)) = true := by rcases y with y | y <;> simp [y]
        rw [this] at u0
        simp [y2] at u0
