/-! matcher: room, and a matcher made anew. -/
def tk (j : Nat) : Nat := if j = 4 ∨ j = 5 then 2 else if j = 6 then 1 else 0
theorem taken_e {N : Nat} {τ : yS} {j : Nat} (hj : j < 8) (b : Int32) : fH_takenBy (nI j) = nI (tk j) ∧ fM_matcher N τ (nI j) b = fM_matcher_37 N τ (nI j) b (nI (tk j)) := by
  unfold fM_matcher fM_matcher_22
  rw [M_in1 (n := 7) (c := 7) rfl rfl (by omega) (by decide), if_neg n10]
  rcases (show j = 0 ∨ j = 1 ∨ j = 2 ∨ j = 3 ∨ j = 4 ∨ j = 5 ∨ j = 6 ∨ j = 7 by omega) with rfl | rfl | rfl | rfl | rfl | rfl | rfl | rfl <;> exact ⟨rfl, rfl⟩
theorem tk_le (j : Nat) : tk j ≤ 2 := by unfold tk; split <;> (try split) <;> omega
def sm (sz : Nat → Int32) : Nat → Nat → Nat
  | _, 0 => 0
  | i, j + 1 => (sz i).toNatClampNeg + sm sz (i + 1) j
theorem sm_le {sz : Nat → Int32} {ss : Nat} (h : ∀ i, i < ss → ∃ q, q ≤ 8 ∧ sz i = nI q) : ∀ j i, i + j ≤ ss → sm sz i j ≤ 8 * j := by
  intro j
  induction j with
  | zero => intro i _; exact Nat.le_refl 0
  | succ j ih =>
    intro i hi
    obtain ⟨q, q1, q2⟩ := h i (by omega)
    have := ih (i + 1) (by omega)
    show (sz i).toNatClampNeg + sm sz (i + 1) j ≤ _
    rw [q2, cCl rfl]
    omega
theorem K_room {N : Nat} {σ : xS} {sz : Nat → Int32} {ss t : Nat} (hss : ss ≤ 6) (ht : t ≤ ss) (h4 : σ.1 4 0 1 = nI ss) (h : ∀ i, i < ss → ∃ q, q ≤ 8 ∧ sz i = nI q ∧ fH_sizeOf σ (σ.2.1 5 0 i) = some (nI q)) : ∀ (j i fuel acc : Nat), i + j = ss → j < fuel → acc ≤ 100 - 8 * j → fK_hasRoomFor_13 N σ fuel (nI t) (nI acc) (nI i) = some (b01 (decide (ss - t < 6) && decide (acc + sm sz i j ≤ 8))) := by
  intro j
  induction j with
  | zero =>
    intro i fuel acc hij hf ha
    obtain ⟨e, rfl⟩ : ∃ e, fuel = e + 1 := ⟨fuel - 1, by omega⟩
    unfold fK_hasRoomFor_13 fK_hasRoomFor_13b sm
    rw [if_pos ((cLe h4 (y := nI i) rfl).mpr (by omega)), h4, pk_sub ht]
    by_cases q : 6 ≤ ss - t
    · rw [if_pos ((cLe (x := 6) (a := 6) rfl (y := nI (ss - t)) rfl).mpr q)]
      simp [b01, show ¬ ss - t < 6 by omega]
    · rw [if_neg (fun h => q ((cLe (x := 6) (a := 6) rfl (y := nI (ss - t)) rfl).mp h))]
      by_cases q2 : 8 < acc
      · rw [if_pos ((cLt (x := 8) (a := 8) rfl (y := nI acc) rfl).mpr q2)]
        simp [b01, show ¬ acc ≤ 8 by omega]
      · rw [if_neg (fun h => q2 ((cLt (x := 8) (a := 8) rfl (y := nI acc) rfl).mp h))]
        simp [b01, show acc ≤ 8 by omega, show ss - t < 6 by omega]
  | succ j ih =>
    intro i fuel acc hij hf ha
    obtain ⟨e, rfl⟩ : ∃ e, fuel = e + 1 := ⟨fuel - 1, by omega⟩
    obtain ⟨q, q1, q2, q3⟩ := h i (by omega)
    unfold fK_hasRoomFor_13 fK_hasRoomFor_13b sm
    rw [if_neg (fun h => by have := (cLe h4 (y := nI i) rfl).mp h; omega), if_pos (cIn rfl), cCl rfl, q3, xp_e, nI_add, show (1 : Int32) = nI 1 from rfl, nI_add, ih (i + 1) e (acc + q) (by omega) (by omega) (by omega), q2, cCl rfl, Nat.add_assoc]
theorem M_room {N : Nat} {τ : yS} {ss t : Nat} {a b : Int32} (hss : ss ≤ 6) (h8 : τ 30 0 8 = nI ss) (h : ∀ i, i < ss → ∃ q, q ≤ 8 ∧ τ 35 0 i = nI q) : ∀ (j i fuel acc : Nat), i + j = ss → j < fuel → fM_matcher_64 N fuel τ a b (nI t) (nI acc) 0 (nI i) = fM_matcher_96 N τ a b (nI t) (nI (acc + sm (τ 35 0) i j)) 0 := by
  intro j
  induction j with
  | zero =>
    intro i fuel acc hij hf
    obtain ⟨e, rfl⟩ : ∃ e, fuel = e + 1 := ⟨fuel - 1, by omega⟩
    unfold fM_matcher_64 fM_matcher_64b sm
    rw [if_pos ((cLe h8 (y := nI i) rfl).mpr (by omega)), Nat.add_zero]
  | succ j ih =>
    intro i fuel acc hij hf
    obtain ⟨e, rfl⟩ : ∃ e, fuel = e + 1 := ⟨fuel - 1, by omega⟩
    obtain ⟨q, q1, q2⟩ := h i (by omega)
    unfold fM_matcher_64 fM_matcher_64b sm
    rw [if_neg (fun h => by have := (cLe h8 (y := nI i) rfl).mp h; omega), if_pos rfl, if_pos (cIn rfl), cCl rfl, q2, cCl rfl, nI_add, show (1 : Int32) = nI 1 from rfl, nI_add, ih (i + 1) e (acc + q) (by omega) (by omega), Nat.add_assoc]
-- the class makes a matcher
def nwH (σ : xS) (a b : Int32) (o3 o4 : Option Nat) (q : Nat) : xS := x_si (x_sp (x_sp (x_si (x_si (x_nw σ) 21 σ.2.2.2 0 a) 21 σ.2.2.2 1 b) 21 σ.2.2.2 2 o3) 21 σ.2.2.2 3 o4) 21 σ.2.2.2 4 (nI q)
def oS (σ : xS) (o : Option Nat) (q : Nat) : Prop := (o = none ∧ q = 0) ∨ ∃ a, o = some a ∧ a ∈ σ.2.2.1 ∧ σ.1 21 a 4 = nI q
theorem sizeOf_e {σ : xS} {o : Option Nat} {q : Nat} (h : oS σ o q) : fH_sizeOf σ o = some (nI q) := by
  unfold fH_sizeOf
  rcases h with ⟨h1, h2⟩ | ⟨a, h1, h2, h3⟩
  · rw [if_pos h1, h2]; rfl
  · rw [if_neg (by rw [h1]; simp), h1]
    simp [xd, h2, xp_e, h3]
theorem H_init_e {σ : xS} {a b : Int32} {o3 o4 : Option Nat} {q3 q4 : Nat} (h0 : P0 σ.2.2.1 σ.2.2.2) (h3 : oS σ o3 q3) (h4 : oS σ o4 q4) : fH_init (x_nw σ) σ.2.2.2 a b o3 o4 = some (nwH σ a b o3 o4 (1 + q3 + q4)) := by
  have hin : σ.2.2.2 ∈ (x_nw σ).2.2.1 := List.mem_append_right _ (List.mem_cons_self ..)
  have tr : ∀ o q, oS σ o q → oS (x_sp (x_sp (x_si (x_si (x_nw σ) 21 σ.2.2.2 0 a) 21 σ.2.2.2 1 b) 21 σ.2.2.2 2 o3) 21 σ.2.2.2 3 o4) o q := by
    intro o q h
    rcases h with h | ⟨c, c1, c2, c3⟩
    · exact Or.inl h
    · refine Or.inr ⟨c, c1, List.mem_append_left _ c2, ?_⟩
      have hne : ¬ c = σ.2.2.2 := fun q => by have := h0 c c2; omega
      rw [sp_1, sp_1, si_1, u3_k hne, si_1, u3_k hne]
      unfold x_nw
      simp only
      rw [if_neg (fun q => hne q.2)]
      exact c3
  unfold fH_init nwH
  simp only [xl_e]
  refine (if_pos hin).trans ?_
  refine (if_pos hin).trans ?_
  refine (if_pos hin).trans ?_
  refine (if_pos hin).trans ?_
  rw [sizeOf_e (tr _ _ h3), xp_e, sizeOf_e (tr _ _ h4), xp_e]
  refine (if_pos hin).trans ?_
  rw [show (1 : Int32) = nI 1 from rfl, nI_add, nI_add]
theorem nwH_r {σ : xS} {a b : Int32} {o3 o4 : Option Nat} {q r : Nat} (h : ¬ r = 21) : (nwH σ a b o3 o4 q).1 r = σ.1 r ∧ (nwH σ a b o3 o4 q).2.1 r = σ.2.1 r := by
  constructor
  · funext k j
    unfold nwH
    rw [si_1, u3_r h, sp_1, sp_1, si_1, u3_r h, si_1, u3_r h]
    exact if_neg (fun q => h q.1)
  · funext k j
    unfold nwH
    rw [si_2, sp_21, u3_r h, sp_21, u3_r h, si_2, si_2]
    exact if_neg (fun q => h q.1)
theorem nwH_p {σ : xS} {a b : Int32} {o3 o4 : Option Nat} {q : Nat} (h0 : P0 σ.2.2.1 σ.2.2.2) : pEq (σ.1 21) (σ.2.1 21) σ.2.2.1 ((nwH σ a b o3 o4 q).1 21) ((nwH σ a b o3 o4 q).2.1 21) (nwH σ a b o3 o4 q).2.2.1 := by
  intro c hc
  have hne : ¬ c = σ.2.2.2 := fun q => by have := h0 c hc; omega
  refine ⟨List.mem_append_left _ hc, ?_, ?_⟩
  · funext j
    unfold nwH
    rw [si_1, u3_k hne, sp_1, sp_1, si_1, u3_k hne, si_1, u3_k hne]
    exact if_neg (fun q => hne q.2)
  · funext j
    unfold nwH
    rw [si_2, sp_21, u3_k hne, sp_21, u3_k hne, si_2, si_2]
    exact if_neg (fun q => hne q.2)
theorem nwH_0 {σ : xS} {a b : Int32} {o3 o4 : Option Nat} {q : Nat} (h0 : P0 σ.2.2.1 σ.2.2.2) : P0 (nwH σ a b o3 o4 q).2.2.1 (nwH σ a b o3 o4 q).2.2.2 := by
  intro c hc
  show c < σ.2.2.2 + 1
  rcases List.mem_append.mp hc with hc | hc
  · have := h0 c hc; omega
  · rw [List.mem_singleton] at hc; omega
theorem nwH_z {σ : xS} {a b : Int32} {o3 o4 : Option Nat} {q : Nat} : (nwH σ a b o3 o4 q).1 21 σ.2.2.2 0 = a ∧ (nwH σ a b o3 o4 q).1 21 σ.2.2.2 1 = b ∧ (nwH σ a b o3 o4 q).1 21 σ.2.2.2 4 = nI q ∧ (nwH σ a b o3 o4 q).2.1 21 σ.2.2.2 2 = o3 ∧ (nwH σ a b o3 o4 q).2.1 21 σ.2.2.2 3 = o4 ∧ σ.2.2.2 ∈ (nwH σ a b o3 o4 q).2.2.1 := by
  refine ⟨?_, ?_, ?_, ?_, ?_, ?_⟩
  · unfold nwH; simp [si_1, sp_1, u3]
  · unfold nwH; simp [si_1, sp_1, u3]
  · unfold nwH; simp [si_1, sp_1, u3]
  · unfold nwH; simp [si_2, sp_21, u3]
  · unfold nwH; simp [si_2, sp_21, u3]
  · exact List.mem_append_right _ (List.mem_cons_self ..)
/-- a single matcher, made anew -/
theorem xT_one {σ : xS} {a b : Int32} (hl : lf a) : xT ((nwH σ a b none none 1).1 21) ((nwH σ a b none none 1).2.1 21) (nwH σ a b none none 1).2.2.1 1 (some σ.2.2.2) [(a, b)] := by
  obtain ⟨z1, z2, z3, z4, z5, z6⟩ := nwH_z (σ := σ) (a := a) (b := b) (o3 := none) (o4 := none) (q := 1)
  refine ⟨σ.2.2.2, rfl, z6, by rw [z3]; rfl, Or.inl ⟨by rw [z1]; exact hl, by rw [z1, z2]⟩⟩
/-- all but stack and pool stand -/
theorem Rl.stk {kk : Nat} {σ σ' : xS} {τ τ' : yS} {n ss ss' pz nc tm fz ct st st' : Nat} (h : Rl kk σ τ n ss pz nc tm fz ct st)
    (e1 : ∀ r, ¬ r = 0 → ¬ r = 4 → ¬ r = 21 → σ'.1 r = σ.1 r) (e0 : ∀ j, ¬ j = 12 → σ'.1 0 0 j = σ.1 0 0 j) (e2 : ∀ r, ¬ r = 5 → ¬ r = 21 → σ'.2.1 r = σ.2.1 r) (hp : pEq (σ.1 21) (σ.2.1 21) σ.2.2.1 (σ'.1 21) (σ'.2.1 21) σ'.2.2.1) (h0 : P0 σ'.2.2.1 σ'.2.2.2)
    (t1 : ∀ r, ¬ r = 30 → ¬ r = 35 → ¬ r = 36 → ¬ r = 37 → τ' r = τ r) (t30 : ∀ j, ¬ j = 8 → ¬ j = 9 → τ' 30 0 j = τ 30 0 j) (ts : ∀ j, 8 ≤ j → j < 120 → sEq (τ 35 0) (τ 36 0) (τ 37 0) (τ' 35 0) (τ' 36 0) (τ' 37 0) j j)
    (hP2 : P2 ss' (σ'.1 4 0 1) (τ' 30 0 8) (σ'.1 21) (σ'.2.1 21) σ'.2.2.1 (σ'.2.1 5 0) (τ' 35 0) (τ' 36 0) (τ' 37 0))
    (hs1 : σ'.1 0 0 12 = nI st') (hs2 : τ' 30 0 9 = nI st') (hst : st' = 0 ∨ (st' = st ∧ (st = 2 ∨ st = 3))) : Rl kk σ' τ' n ss' pz nc tm fz ct st' := by
  obtain ⟨-, h1, h2, h3, h4, h5, h6, h7, h8, h9⟩ := h
  have x : ∀ r, (¬ r = 0 ∧ ¬ r = 4 ∧ ¬ r = 21) → σ'.1 r = σ.1 r := fun r q => e1 r q.1 q.2.1 q.2.2
  have y : ∀ r, (¬ r = 30 ∧ ¬ r = 35 ∧ ¬ r = 36 ∧ ¬ r = 37) → τ' r = τ r := fun r q => t1 r q.1 q.2.1 q.2.2.1 q.2.2.2
  refine ⟨h0, ?_, hP2, ?_, ?_, ?_, ?_, ?_, ?_, ?_⟩
  · rw [e0 3 (by decide), t30 4 (by decide) (by decide), x 14 (by decide), x 2 (by decide), x 3 (by decide), y 31 (by decide), y 32 (by decide), y 33 (by decide), y 34 (by decide)]; exact h1
  · rw [x 18 (by decide), x 19 (by decide), x 20 (by decide), y 47 (by decide), y 49 (by decide), y 50 (by decide)]; exact h3
  · rw [x 6 (by decide), t30 20 (by decide) (by decide), t30 21 (by decide) (by decide), x 15 (by decide), y 38 (by decide), y 39 (by decide), y 40 (by decide), y 41 (by decide), y 42 (by decide), y 43 (by decide), y 44 (by decide)]; exact h4
  · rw [e0 8 (by decide), t30 29 (by decide) (by decide), x 16 (by decide), x 17 (by decide), x 18 (by decide), x 19 (by decide), x 20 (by decide), e2 17 (by decide) (by decide), y 31 (by decide), y 33 (by decide), y 45 (by decide), y 46 (by decide), y 47 (by decide), y 48 (by decide), y 49 (by decide), y 50 (by decide), y 51 (by decide)]
    exact P5.congr h5 (fun _ _ => rfl) (fun _ _ => rfl) (fun _ _ => rfl) (fun _ _ => rfl) (fun _ _ => rfl) (fun _ _ => rfl) (fun f g p slot q1 q2 q => q.to hp (fun _ => ts _ (by omega) (by omega)) (fun _ => ts _ (by omega) (by omega))) (fun _ _ _ _ => rfl) (fun _ _ => rfl) (fun _ _ => rfl) (fun _ _ => rfl) (fun _ _ => rfl) (fun _ _ => rfl) (fun _ _ => rfl) (fun _ _ => rfl)
  · rw [x 9 (by decide), x 11 (by decide), t30 35 (by decide) (by decide), t30 37 (by decide) (by decide), t30 38 (by decide) (by decide), y 53 (by decide)]; exact h6
  · rw [x 12 (by decide), x 13 (by decide), t30 36 (by decide) (by decide), y 54 (by decide)]; exact h7
  · rw [e0 16 (by decide), e0 17 (by decide), t30 31 (by decide) (by decide), t30 30 (by decide) (by decide)]; exact h8
  · rcases hst with q | ⟨q, q2⟩
    · subst q
      exact P9_idle hs1 hs2
    · subst q
      have ne1 : ¬ st' = 1 := by rcases q2 with q2 | q2 <;> omega
      have ne4 : ¬ st' = 4 := by rcases q2 with q2 | q2 <;> omega
      obtain ⟨s1, s2, s3, s4, s5, s6, s7, s8⟩ := h9
      refine ⟨s1, hs1, hs2, fun q => absurd q ne1, fun q => ?_, s6, fun q => ?_, fun q => absurd q ne4⟩
      · rw [e0 13 (by decide), t30 10 (by decide) (by decide)]; exact s5 q
      · rw [e0 14 (by decide), e0 15 (by decide), t30 11 (by decide) (by decide), t30 12 (by decide) (by decide)]; exact s7 q
