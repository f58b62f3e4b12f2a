/-! Matchers: a tree and its list. -/
def pEq (I : Nat → Nat → Int32) (P : Nat → Nat → Option Nat) (L : List Nat) (I' : Nat → Nat → Int32) (P' : Nat → Nat → Option Nat) (L' : List Nat) : Prop := ∀ a, a ∈ L → a ∈ L' ∧ I' a = I a ∧ P' a = P a
theorem pEq.rfl' {I : Nat → Nat → Int32} {P : Nat → Nat → Option Nat} {L : List Nat} : pEq I P L I P L := fun _ h => ⟨h, rfl, rfl⟩
theorem xT.up {I : Nat → Nat → Int32} {P : Nat → Nat → Option Nat} {L : List Nat} : ∀ (d d' : Nat) (o : Option Nat) (l : List (Int32 × Int32)), d ≤ d' → xT I P L d o l → xT I P L d' o l := by
  intro d
  induction d with
  | zero => intro d' o l _ h; exact absurd h (by simp [xT])
  | succ d ih =>
    intro d' o l hd h
    obtain ⟨e, rfl⟩ : ∃ e, d' = e + 1 := ⟨d' - 1, by omega⟩
    obtain ⟨a, h1, h2, h3, h4⟩ := h
    refine ⟨a, h1, h2, h3, ?_⟩
    rcases h4 with h4 | ⟨h4, v, l1, h5, h6⟩ | ⟨h4, v, l1, l2, h5, h6, h7⟩
    · exact Or.inl h4
    · exact Or.inr (Or.inl ⟨h4, v, l1, h5, ih e _ _ (by omega) h6⟩)
    · exact Or.inr (Or.inr ⟨h4, v, l1, l2, h5, ih e _ _ (by omega) h6, ih e _ _ (by omega) h7⟩)
theorem xT.to {I I' : Nat → Nat → Int32} {P P' : Nat → Nat → Option Nat} {L L' : List Nat} (hp : pEq I P L I' P' L') : ∀ (d : Nat) (o : Option Nat) (l : List (Int32 × Int32)), xT I P L d o l → xT I' P' L' d o l := by
  intro d
  induction d with
  | zero => intro o l h; exact absurd h (by simp [xT])
  | succ d ih =>
    intro o l h
    obtain ⟨a, h1, h2, h3, h4⟩ := h
    obtain ⟨g1, g2, g3⟩ := hp a h2
    refine ⟨a, h1, g1, by rw [g2]; exact h3, ?_⟩
    rw [g2, g3]
    rcases h4 with h4 | ⟨h4, v, l1, h5, h6⟩ | ⟨h4, v, l1, l2, h5, h6, h7⟩
    · exact Or.inl h4
    · exact Or.inr (Or.inl ⟨h4, v, l1, h5, ih _ _ h6⟩)
    · exact Or.inr (Or.inr ⟨h4, v, l1, l2, h5, ih _ _ h6, ih _ _ h7⟩)
theorem xT.pos {I : Nat → Nat → Int32} {P : Nat → Nat → Option Nat} {L : List Nat} {d : Nat} {o : Option Nat} {l : List (Int32 × Int32)} (h : xT I P L d o l) : 1 ≤ l.length := by
  cases d with
  | zero => exact absurd h (by simp [xT])
  | succ d =>
    obtain ⟨a, h1, h2, h3, h4⟩ := h
    rcases h4 with ⟨-, h5⟩ | ⟨-, v, l1, h5, -⟩ | ⟨-, v, l1, l2, h5, -⟩ <;> rw [h5] <;> simp
def sEq (sz kd vl sz' kd' vl' : Nat → Int32) (s s' : Nat) : Prop := sz' s' = sz s ∧ ∀ q k, sz s = nI q → k < q → q ≤ 8 → kd' (8 * s' + k) = kd (8 * s + k) ∧ vl' (8 * s' + k) = vl (8 * s + k)
theorem sEq.rfl' {sz kd vl : Nat → Int32} {s : Nat} : sEq sz kd vl sz kd vl s s := ⟨rfl, fun _ _ _ _ _ => ⟨rfl, rfl⟩⟩
theorem Mt.to {I I' : Nat → Nat → Int32} {P P' : Nat → Nat → Option Nat} {L L' : List Nat} {sz kd vl sz' kd' vl' : Nat → Int32} {o : Option Nat} {s s' : Nat} (h : Mt I P L sz kd vl o s) (hp : pEq I P L I' P' L') (hs : sEq sz kd vl sz' kd' vl' s s') : Mt I' P' L' sz' kd' vl' o s' := by
  obtain ⟨l, h1, h2, h3, h4⟩ := h
  refine ⟨l, xT.to hp _ _ _ h1, h2, by rw [hs.1]; exact h3, fun k hk => ?_⟩
  obtain ⟨g1, g2⟩ := hs.2 l.length k h3 hk h2
  rw [g1, g2]
  exact h4 k hk
theorem Mt.size {I : Nat → Nat → Int32} {P : Nat → Nat → Option Nat} {L : List Nat} {sz kd vl : Nat → Int32} {o : Option Nat} {s : Nat} (h : Mt I P L sz kd vl o s) : ∃ q, 1 ≤ q ∧ q ≤ 8 ∧ sz s = nI q := by
  obtain ⟨l, h1, h2, h3, h4⟩ := h
  exact ⟨l.length, h1.pos, h2, h3⟩
theorem Pat.to {I I' : Nat → Nat → Int32} {P P' : Nat → Nat → Option Nat} {L L' : List Nat} {sz kd vl sz' kd' vl' : Nat → Int32} {f g : Option Nat} {p s s' : Nat} (h : Pat I P L sz kd vl f g p s) (hp : pEq I P L I' P' L') (h1 : 1 ≤ p → sEq sz kd vl sz' kd' vl' s s') (h2 : 2 ≤ p → sEq sz kd vl sz' kd' vl' (s + 1) (s' + 1)) : Pat I' P' L' sz' kd' vl' f g p s' :=
  ⟨fun q => (h.1 q).to hp (h1 q), fun q => (h.2.1 q).to hp (h2 q), h.2.2.1, h.2.2.2⟩
-- evaluation
def lfv (k v x : Int32) : Bool := if k = 1 then decide (x = v) else if k = 2 then !decide (v ≤ x) else if k = 3 then !decide (x ≤ v) else true
def stp (x : Int32) (e : Int32 × Int32) (r : Nat → Bool) : Nat → Bool :=
  if e.1 = 6 then fun i => if i = 0 then !(r 0) else r i
  else if e.1 = 4 then fun i => if i = 0 then (r 0 && r 1) else if 3 ≤ i then r 3 else r (i + 1)
  else if e.1 = 5 then fun i => if i = 0 then (r 0 || r 1) else if 3 ≤ i then r 3 else r (i + 1)
  else fun i => if i = 0 then lfv e.1 e.2 x else r (i - 1)
theorem stp6 (x v : Int32) (r : Nat → Bool) (i : Nat) : stp x (6, v) r i = if i = 0 then !(r 0) else r i := by unfold stp; rw [if_pos rfl]
theorem stp4 (x v : Int32) (r : Nat → Bool) (i : Nat) : stp x (4, v) r i = if i = 0 then (r 0 && r 1) else if 3 ≤ i then r 3 else r (i + 1) := by unfold stp; rw [if_neg (show ¬ (4 : Int32) = 6 by decide), if_pos rfl]
theorem stp5 (x v : Int32) (r : Nat → Bool) (i : Nat) : stp x (5, v) r i = if i = 0 then (r 0 || r 1) else if 3 ≤ i then r 3 else r (i + 1) := by unfold stp; rw [if_neg (show ¬ (5 : Int32) = 6 by decide), if_neg (show ¬ (5 : Int32) = 4 by decide), if_pos rfl]
def cns (v : Bool) (R : Nat → Bool) : Nat → Bool := fun i => if i = 0 then v else R (i - 1)
theorem H_acc {σ : xS} (x : Int32) : ∀ (d : Nat) (o : Option Nat) (l : List (Int32 × Int32)), xT (σ.1 21) (σ.2.1 21) σ.2.2.1 d o l → ∃ (v : Bool) (f : Nat), 1 ≤ f ∧ 2 * f ≤ l.length + 1 ∧ (∀ n, d ≤ n → fH_accepts n σ o x = some (b01 v)) ∧ (f ≤ 4 → ∀ (r R : Nat → Bool) (n : Nat), n ≤ 4 → (∀ i, i < n → r i = R i) → ∀ i, i < min (n + 1) (5 - f) → l.foldr (stp x) r i = cns v R i) := by
  intro d
  induction d with
  | zero => intro o l h; exact absurd h (by simp [xT])
  | succ d ih =>
    intro o l h
    obtain ⟨a, h1, h2, h3, h4⟩ := h
    have hxd : xd σ.2.2.1 o = some a := by rw [h1]; simp [xd, h2]
    have hon : ¬ o = none := by rw [h1]; simp
    rcases h4 with ⟨⟨k4, k5, k6⟩, h5⟩ | ⟨h4, v, l1, h5, h6⟩ | ⟨h4, v, l1, l2, h5, h6, h7⟩
    · refine ⟨lfv (σ.1 21 a 0) (σ.1 21 a 1) x, 1, by omega, by rw [h5]; simp, fun n hn => ?_, fun _ r R n hn hr i hi => ?_⟩
      · obtain ⟨e, rfl⟩ : ∃ e, n = e + 1 := ⟨n - 1, by omega⟩
        unfold fH_accepts fH_accepts_b lfv
        rw [if_neg hon, hxd, xp_e]
        by_cases q1 : σ.1 21 a 0 = 1
        · rw [if_pos q1, if_pos q1]
          by_cases q : x = σ.1 21 a 1
          · rw [if_pos q]; simp [q, b01]
          · rw [if_neg q]; simp [q, b01]
        · rw [if_neg q1, if_neg q1]
          by_cases q2 : σ.1 21 a 0 = 2
          · rw [if_pos q2, if_pos q2]
            by_cases q : σ.1 21 a 1 ≤ x
            · rw [if_pos q]; simp [q, b01]
            · rw [if_neg q]; simp [q, b01]
          · rw [if_neg q2, if_neg q2]
            by_cases q3 : σ.1 21 a 0 = 3
            · rw [if_pos q3, if_pos q3]
              by_cases q : x ≤ σ.1 21 a 1
              · rw [if_pos q]; simp [q, b01]
              · rw [if_neg q]; simp [q, b01]
            · rw [if_neg q3, if_neg q3, if_neg k4, if_neg k5, if_neg k6]; simp [b01]
      · rw [h5]
        show stp x (σ.1 21 a 0, σ.1 21 a 1) r i = _
        unfold stp cns
        rw [if_neg k6, if_neg k4, if_neg k5]
        by_cases q : i = 0
        · simp [q]
        · simp [q]; exact hr _ (by omega)
    · obtain ⟨w, f, f1, f2, f3, f4⟩ := ih _ _ h6
      refine ⟨!w, f, f1, by rw [h5]; simp; omega, fun n hn => ?_, fun hf r R n hn hr i hi => ?_⟩
      · obtain ⟨e, rfl⟩ : ∃ e, n = e + 1 := ⟨n - 1, by omega⟩
        unfold fH_accepts fH_accepts_b
        rw [if_neg hon, hxd, xp_e, h4, if_neg (by decide), if_neg (by decide), if_neg (by decide), if_neg (by decide), if_neg (by decide), if_pos rfl, f3 e (by omega), xp_e]
        cases w <;> rfl
      · rw [h5]
        show stp x (6, v) (l1.foldr (stp x) r) i = _
        have g := f4 hf r R n hn hr
        rw [stp6]
        by_cases q : i = 0
        · rw [if_pos q, g 0 (by omega)]
          simp [cns, q]
        · rw [if_neg q, g i hi]
          simp [cns, q]
    · obtain ⟨w1, f1, f11, f12, f13, f14⟩ := ih _ _ h6
      obtain ⟨w2, f2, f21, f22, f23, f24⟩ := ih _ _ h7
      have core : ∀ (op : Bool → Bool → Bool) (hf : f1 + f2 ≤ 4) (r R : Nat → Bool) (n : Nat), n ≤ 4 → (∀ i, i < n → r i = R i) → ∀ i, i < min (n + 1) (5 - (f1 + f2)) → (if i = 0 then op ((l1 ++ l2).foldr (stp x) r 0) ((l1 ++ l2).foldr (stp x) r 1) else if 3 ≤ i then (l1 ++ l2).foldr (stp x) r 3 else (l1 ++ l2).foldr (stp x) r (i + 1)) = cns (op w1 w2) R i := by
        intro op hf r R n hn hr i hi
        have g2 := f24 (by omega) r R n hn hr
        have g1 := f14 (by omega) (l2.foldr (stp x) r) (cns w2 R) (min (n + 1) (5 - f2)) (by omega) g2
        rw [List.foldr_append]
        by_cases q : i = 0
        · rw [if_pos q, g1 0 (by omega), g1 1 (by omega)]
          simp [cns, q]
        · rw [if_neg q, if_neg (by omega), g1 (i + 1) (by omega)]
          simp [cns, q]
      rcases h4 with h4 | h4
      · refine ⟨w1 && w2, f1 + f2, by omega, by rw [h5]; simp; omega, fun n hn => ?_, fun hf r R n hn hr i hi => ?_⟩
        · obtain ⟨e, rfl⟩ : ∃ e, n = e + 1 := ⟨n - 1, by omega⟩
          unfold fH_accepts fH_accepts_b
          rw [if_neg hon, hxd, xp_e, h4, if_neg (by decide), if_neg (by decide), if_neg (by decide), if_pos rfl, f13 e (by omega), xp_e, f23 e (by omega), xp_e]
          cases w1 <;> cases w2 <;> rfl
        · rw [h5, h4]
          have := core (· && ·) hf r R n hn hr i hi
          rw [← this]
          show stp x (4, v) ((l1 ++ l2).foldr (stp x) r) i = _
          rw [stp4]
      · refine ⟨w1 || w2, f1 + f2, by omega, by rw [h5]; simp; omega, fun n hn => ?_, fun hf r R n hn hr i hi => ?_⟩
        · obtain ⟨e, rfl⟩ : ∃ e, n = e + 1 := ⟨n - 1, by omega⟩
          unfold fH_accepts fH_accepts_b
          rw [if_neg hon, hxd, xp_e, h4, if_neg (by decide), if_neg (by decide), if_neg (by decide), if_neg (by decide), if_pos rfl, f13 e (by omega), xp_e, f23 e (by omega), xp_e]
          cases w1 <;> cases w2 <;> rfl
        · rw [h5, h4]
          have := core (· || ·) hf r R n hn hr i hi
          rw [← this]
          show stp x (5, v) ((l1 ++ l2).foldr (stp x) r) i = _
          rw [stp5]
theorem M_run {N : Nat} {τ : yS} {s : Nat} (hs : s < 120) (x : Int32) {l : List (Int32 × Int32)} (hl : l.length ≤ 8) (he : ∀ k, k < l.length → l[k]? = some (τ 36 0 (8 * s + k), τ 37 0 (8 * s + k))) : ∀ (i fuel : Nat) (r : Nat → Bool), i ≤ l.length → i < fuel → fM_matches_21 N τ fuel (nI s) x (b01 (r 0)) (b01 (r 1)) (b01 (r 2)) (b01 (r 3)) (nI i - 1) = some (b01 ((l.take i).foldr (stp x) r 0)) := by
  intro i
  induction i with
  | zero =>
    intro fuel r hi hf
    obtain ⟨e, rfl⟩ : ∃ e, fuel = e + 1 := ⟨fuel - 1, by omega⟩
    unfold fM_matches_21 fM_matches_21b
    rw [if_pos (by decide)]
    cases hr : r 0 <;> simp [b01, hr]
  | succ i ih =>
    intro fuel r hi hf
    obtain ⟨e, rfl⟩ : ∃ e, fuel = e + 1 := ⟨fuel - 1, by omega⟩
    have ej : nI (i + 1) - 1 = nI i := by rw [show (1 : Int32) = nI 1 from rfl, pk_sub (by omega)]; rfl
    have ek : nI i + (-1) = nI i - 1 := by rw [Int32.sub_eq_add_neg]
    have ei : (8 : Int32) * nI s + nI i = nI (8 * s + i) := by rw [show (8 : Int32) = nI 8 from rfl, pk_mul, nI_add]
    have el : l.take (i + 1) = l.take i ++ [(τ 36 0 (8 * s + i), τ 37 0 (8 * s + i))] := by
      rw [List.take_succ, he i (by omega)]; rfl
    rw [el, List.foldr_append]
    have ih' := fun r' => ih e r' (by omega) (by omega)
    unfold fM_matches_21 fM_matches_21b
    simp only [fM_matches_70, fM_matches_86, fM_matches_105, fM_matches_118, fM_matches_123, fM_matches_198, fM_matches_203, fM_matches_204]
    rw [ej, if_neg (nI_pos (by omega)), ei, if_pos (cIn rfl), cCl rfl, ek]
    have ih2 := ih' (stp x (τ 36 0 (8 * s + i), τ 37 0 (8 * s + i)) r)
    show _ = some (b01 (List.foldr (stp x) (stp x (τ 36 0 (8 * s + i), τ 37 0 (8 * s + i)) r) (List.take i l) 0))
    rw [← ih2]
    unfold stp lfv
    by_cases q6 : τ 36 0 (8 * s + i) = 6
    · simp only [if_pos q6]
      cases r 0 <;> simp [b01]
    · simp only [if_neg q6]
      by_cases q4 : τ 36 0 (8 * s + i) = 4
      · simp only [if_pos q4]
        cases r 0 <;> cases r 1 <;> simp [b01]
      · simp only [if_neg q4]
        by_cases q5 : τ 36 0 (8 * s + i) = 5
        · simp only [if_pos q5]
          cases r 0 <;> cases r 1 <;> simp [b01]
        · simp only [if_neg q5]
          by_cases q1 : τ 36 0 (8 * s + i) = 1
          · simp only [if_pos q1]
            by_cases q : x = τ 37 0 (8 * s + i)
            · simp [q, b01]
            · simp [q, b01]
          · simp only [if_neg q1]
            by_cases q2 : τ 36 0 (8 * s + i) = 2
            · simp only [if_pos q2]
              by_cases q : τ 37 0 (8 * s + i) ≤ x
              · simp [q, b01]
              · simp [q, b01]
            · simp only [if_neg q2]
              by_cases q3 : τ 36 0 (8 * s + i) = 3
              · simp only [if_pos q3]
                by_cases q : x ≤ τ 37 0 (8 * s + i)
                · simp [q, b01]
                · simp [q, b01]
              · simp only [if_neg q3]
                simp [b01]
/-- both say alike whether a matcher accepts -/
theorem acc_both {N : Nat} (hN : 64 ≤ N) {σ : xS} {τ : yS} {o : Option Nat} {s : Nat} (hs : s < 120) (h : Mt (σ.1 21) (σ.2.1 21) σ.2.2.1 (τ 35 0) (τ 36 0) (τ 37 0) o s) (x : Int32) : ∃ v : Bool, fH_accepts 9 σ o x = some (b01 v) ∧ fM_matches N τ (nI s) x = some (b01 v) := by
  obtain ⟨l, h1, h2, h3, h4⟩ := h
  obtain ⟨v, f, g1, g2, g3, g4⟩ := H_acc x _ _ _ h1
  refine ⟨v, g3 9 (by omega), ?_⟩
  unfold fM_matches
  rw [if_pos (cIn rfl), cCl rfl, h3]
  have := M_run (N := N) hs x h2 h4 l.length N (fun _ => true) (by omega) (by omega)
  rw [List.take_length] at this
  have this : fM_matches_21 N τ N (nI s) x 1 1 1 1 (nI l.length - 1) = _ := this
  rw [this, g4 (by omega) (fun _ => true) (fun _ => true) 4 (by omega) (fun _ _ => rfl) 0 (by omega)]
  simp [cns]
/-- both say alike whether a pattern's matchers accept -/
theorem pat_both {N : Nat} (hN : 64 ≤ N) {σ : xS} {τ : yS} {f g : Option Nat} {p s idx : Nat} (hs : s + 1 < 120) (hi : idx < 12) (hp : p ≤ 2) (h31 : τ 31 0 idx = nI p) (h : Pat (σ.1 21) (σ.2.1 21) σ.2.2.1 (τ 35 0) (τ 36 0) (τ 37 0) f g p s) (a b : Int32) : ∃ v : Bool, (xp (fH_accepts 9 σ f a) fun r6 => if r6 = 0 then some 0 else xp (fH_accepts 9 σ g b) fun r9 => if r9 = 0 then some 0 else some 1) = some (b01 v) ∧ fM_matchesCall N τ (nI s) (nI idx) a b = some (b01 v) := by
  obtain ⟨h1, h2, h3, h4⟩ := h
  have en : ∀ x, fH_accepts 9 σ none x = some 1 := fun x => rfl
  have es : nI s + 1 = nI (s + 1) := by rw [show (1 : Int32) = nI 1 from rfl, nI_add]
  have e23 : fM_matchesCall_23 N τ (nI s) (nI idx) b 0 = some 0 := by unfold fM_matchesCall_23; rw [if_pos rfl]
  unfold fM_matchesCall fM_matchesCall_18
  rw [if_pos (cIn rfl), cCl rfl]
  have e2 : ∃ v : Bool, (xp (fH_accepts 9 σ g b) fun r9 => if r9 = 0 then some 0 else some 1) = some (b01 v) ∧ fM_matchesCall_23 N τ (nI s) (nI idx) b 1 = some (b01 v) := by
    unfold fM_matchesCall_23 fM_matchesCall_52
    rw [if_neg n10, if_pos (cIn rfl), cCl rfl]
    by_cases hq : p < 2
    · rw [if_pos ((cLt h31 (y := 2) (b := 2) rfl).mpr hq), h4 (by omega), en, xp_e, if_neg n10]
      exact ⟨true, rfl, rfl⟩
    · rw [if_neg (fun q => hq ((cLt h31 (y := 2) (b := 2) rfl).mp q))]
      obtain ⟨v, g1, g2⟩ := acc_both hN hs (h2 (by omega)) b
      rw [g1, xp_e, es, g2, xp_e]
      cases v
      · exact ⟨false, rfl, rfl⟩
      · exact ⟨true, rfl, rfl⟩
  by_cases hq : p = 0
  · rw [if_pos ((cEq h31 (y := 0) (b := 0) rfl).mpr hq), h3 hq, en, xp_e, if_neg n10]
    exact e2
  · rw [if_neg (fun q => hq ((cEq h31 (y := 0) (b := 0) rfl).mp q))]
    obtain ⟨v, g1, g2⟩ := acc_both hN (by omega) (h1 (by omega)) a
    rw [g1, xp_e, g2, xp_e, e23]
    cases v
    · exact ⟨false, rfl, rfl⟩
    · rw [show b01 true = 1 from rfl, if_neg n10, if_neg n10]
      exact e2
