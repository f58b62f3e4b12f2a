/-! The world of both systems: cells at places, a state of numbers and references; rows that walk it. -/
abbrev xE : Type := (Nat → ClassId) × (Nat → Nat → Nat) × (Nat → Nat → Nat) × (Nat → ClassId)
abbrev xS : Type := (Nat → Nat → Nat → Int32) × (Nat → Nat → Nat → Option Nat) × List Nat × Nat
abbrev yS : Type := Nat → Nat → Nat → Int32
def u3 {α : Type} (I : Nat → Nat → Nat → α) (r k j : Nat) (v : α) : Nat → Nat → Nat → α := fun r' k' j' => if r' = r ∧ k' = k ∧ j' = j then v else I r' k' j'
def u1 {α : Type} (f : Nat → α) (j : Nat) (v : α) : Nat → α := fun j' => if j' = j then v else f j'
theorem u3_self {α : Type} {I : Nat → Nat → Nat → α} {r k j : Nat} {v : α} : u3 I r k j v r k = u1 (I r k) j v := by
  funext j'
  unfold u3 u1
  by_cases h : j' = j
  · rw [if_pos ⟨rfl, rfl, h⟩, if_pos h]
  · rw [if_neg (fun q => h q.2.2), if_neg h]
def x_si (σ : xS) (r k j : Nat) (v : Int32) : xS := (u3 σ.1 r k j v, σ.2)
def x_sp (σ : xS) (r k j : Nat) (v : Option Nat) : xS := (σ.1, u3 σ.2.1 r k j v, σ.2.2)
def y_si (τ : yS) (r k j : Nat) (v : Int32) : yS := u3 τ r k j v
def x_nw (σ : xS) : xS := (fun r k j => if r = 21 ∧ k = σ.2.2.2 then 0 else σ.1 r k j, fun r k j => if r = 21 ∧ k = σ.2.2.2 then none else σ.2.1 r k j, σ.2.2.1 ++ [σ.2.2.2], σ.2.2.2 + 1)
def xl {α β : Type} (a : α) (f : α → β) : β := f a
def xp {α β : Type} (a : Option α) (f : α → Option β) : Option β := match a with
  | none => none
  | some x => f x
def xb {α β γ : Type} (a : Option (α × β)) (f : α → β → Option γ) : Option γ := match a with
  | none => none
  | some x => f x.1 x.2
def xd (L : List Nat) (o : Option Nat) : Option Nat := match o with
  | none => none
  | some a => if a ∈ L then some a else none
def xo (L : List Nat) (o : Option Nat) : Bool := match o with
  | none => true
  | some a => decide (a ∈ L)
theorem x_l {α β : Type} {a : α} {f : α → β} {y : β} (h : xl a f = y) : ∃ z, z = a ∧ f z = y := ⟨a, rfl, h⟩
theorem x_p {α β : Type} {a : Option α} {f : α → Option β} {y : β} (h : xp a f = some y) : ∃ z, a = some z ∧ f z = some y := by
  cases a with
  | none => cases h
  | some z => exact ⟨z, rfl, h⟩
theorem x_b {α β γ : Type} {a : Option (α × β)} {f : α → β → Option γ} {y : γ} (h : xb a f = some y) : ∃ r s, a = some (r, s) ∧ f r s = some y := by
  cases a with
  | none => cases h
  | some z => exact ⟨z.1, z.2, rfl, h⟩
theorem x_g {c : Prop} {d : Decidable c} {β : Type} {x : Option β} {y : β} (h : @ite (Option β) c d x none = some y) : c ∧ x = some y := by
  by_cases hc : c
  · rw [if_pos hc] at h; exact ⟨hc, h⟩
  · rw [if_neg hc] at h; cases h
theorem x_ip {c : Prop} {d : Decidable c} {β : Type} {a b y : β} (hc : c) (h : @ite β c d a b = y) : a = y := by
  rw [if_pos hc] at h; exact h
theorem x_in {c : Prop} {d : Decidable c} {β : Type} {a b y : β} (hc : ¬ c) (h : @ite β c d a b = y) : b = y := by
  rw [if_neg hc] at h; exact h
theorem x_lt {i : Int32} {n : Nat} (h : ¬ (i < 0 ∨ n ≤ i.toNatClampNeg)) : i.toNatClampNeg < n := Nat.not_le.mp fun q => h (Or.inr q)
theorem x_d {L : List Nat} {o : Option Nat} {a : Nat} (h : xd L o = some a) : o = some a ∧ a ∈ L := by
  cases o with
  | none => cases h
  | some b =>
    unfold xd at h
    dsimp only at h
    obtain ⟨h1, h2⟩ := x_g h
    cases h2
    exact ⟨rfl, h1⟩
theorem x_cat (o : Option Nat) : (va_rf o).category = 1 := by cases o <;> rfl
theorem x_cati (a : Int32) : (Value.int a).category = 1 := rfl
theorem x_catr (a : Nat) : (Value.ref a).category = 1 := rfl
theorem x_catl (a : Int64) : (Value.long a).category = 2 := rfl
theorem x_nz {v : Int32} (h : v = 0 ∨ v = 1) : narrow .boolean (.int v) = .int v := by
  rcases h with rfl | rfl <;> rfl
-- places
def x_dec (q : Nat) : Nat × Nat := if q < 14 then (q, 0) else if q < 26 then (14, q - 14) else if q < 66 then (15, q - 26) else if q < 82 then (16, q - 66) else if q < 99 then (17, q - 82) else if q < 116 then (18, q - 99) else if q < 133 then (19, q - 116) else if q < 150 then (20, q - 133) else (q - 120, 0)
def x_pl (r k : Nat) : Nat := if r < 14 then r else if r = 14 then 14 + k else if r = 15 then 26 + k else if r = 16 then 66 + k else if r = 17 then 82 + k else if r = 18 then 99 + k else if r = 19 then 116 + k else if r = 20 then 133 + k else r + 120
def xat (r k : Nat) : Prop := x_dec (x_pl r k) = (r, k) ∧ x_pl r k < 175
theorem x_pl_dec {q : Nat} (h : q < 175) : x_pl (x_dec q).1 (x_dec q).2 = q := by
  unfold x_dec
  by_cases h1 : q < 14
  · rw [if_pos h1]; simp [x_pl, h1]
  rw [if_neg h1]
  by_cases h2 : q < 26
  · rw [if_pos h2]; simp [x_pl]; omega
  rw [if_neg h2]
  by_cases h3 : q < 66
  · rw [if_pos h3]; simp [x_pl]; omega
  rw [if_neg h3]
  by_cases h4 : q < 82
  · rw [if_pos h4]; simp [x_pl]; omega
  rw [if_neg h4]
  by_cases h5 : q < 99
  · rw [if_pos h5]; simp [x_pl]; omega
  rw [if_neg h5]
  by_cases h6 : q < 116
  · rw [if_pos h6]; simp [x_pl]; omega
  rw [if_neg h6]
  by_cases h7 : q < 133
  · rw [if_pos h7]; simp [x_pl]; omega
  rw [if_neg h7]
  by_cases h8 : q < 150
  · rw [if_pos h8]; simp [x_pl]; omega
  rw [if_neg h8]
  show x_pl (q - 120) 0 = q
  unfold x_pl
  rw [if_neg (by omega), if_neg (by omega), if_neg (by omega), if_neg (by omega), if_neg (by omega), if_neg (by omega), if_neg (by omega), if_neg (by omega)]
  omega
theorem x_dec_ne {q r k : Nat} (h : q < 175) (hq : q ≠ x_pl r k) : ¬ ((x_dec q).1 = r ∧ (x_dec q).2 = k) := fun e => hq (by rw [← x_pl_dec h, e.1, e.2])
theorem at_0 : xat 0 0 := ⟨by decide, by decide⟩
theorem at_1 : xat 1 0 := ⟨by decide, by decide⟩
theorem at_2 : xat 2 0 := ⟨by decide, by decide⟩
theorem at_3 : xat 3 0 := ⟨by decide, by decide⟩
theorem at_4 : xat 4 0 := ⟨by decide, by decide⟩
theorem at_5 : xat 5 0 := ⟨by decide, by decide⟩
theorem at_6 : xat 6 0 := ⟨by decide, by decide⟩
theorem at_7 : xat 7 0 := ⟨by decide, by decide⟩
theorem at_8 : xat 8 0 := ⟨by decide, by decide⟩
theorem at_9 : xat 9 0 := ⟨by decide, by decide⟩
theorem at_10 : xat 10 0 := ⟨by decide, by decide⟩
theorem at_11 : xat 11 0 := ⟨by decide, by decide⟩
theorem at_12 : xat 12 0 := ⟨by decide, by decide⟩
theorem at_13 : xat 13 0 := ⟨by decide, by decide⟩
theorem at_30 : xat 30 0 := ⟨by decide, by decide⟩
theorem at_31 : xat 31 0 := ⟨by decide, by decide⟩
theorem at_32 : xat 32 0 := ⟨by decide, by decide⟩
theorem at_33 : xat 33 0 := ⟨by decide, by decide⟩
theorem at_34 : xat 34 0 := ⟨by decide, by decide⟩
theorem at_35 : xat 35 0 := ⟨by decide, by decide⟩
theorem at_36 : xat 36 0 := ⟨by decide, by decide⟩
theorem at_37 : xat 37 0 := ⟨by decide, by decide⟩
theorem at_38 : xat 38 0 := ⟨by decide, by decide⟩
theorem at_39 : xat 39 0 := ⟨by decide, by decide⟩
theorem at_40 : xat 40 0 := ⟨by decide, by decide⟩
theorem at_41 : xat 41 0 := ⟨by decide, by decide⟩
theorem at_42 : xat 42 0 := ⟨by decide, by decide⟩
theorem at_43 : xat 43 0 := ⟨by decide, by decide⟩
theorem at_44 : xat 44 0 := ⟨by decide, by decide⟩
theorem at_45 : xat 45 0 := ⟨by decide, by decide⟩
theorem at_46 : xat 46 0 := ⟨by decide, by decide⟩
theorem at_47 : xat 47 0 := ⟨by decide, by decide⟩
theorem at_48 : xat 48 0 := ⟨by decide, by decide⟩
theorem at_49 : xat 49 0 := ⟨by decide, by decide⟩
theorem at_50 : xat 50 0 := ⟨by decide, by decide⟩
theorem at_51 : xat 51 0 := ⟨by decide, by decide⟩
theorem at_52 : xat 52 0 := ⟨by decide, by decide⟩
theorem at_53 : xat 53 0 := ⟨by decide, by decide⟩
theorem at_54 : xat 54 0 := ⟨by decide, by decide⟩
theorem at_14 {k : Nat} (h : k < 12) : xat 14 k := by
  show x_dec (14 + k) = (14, k) ∧ 14 + k < 175
  unfold x_dec
  rw [if_neg (by omega), if_pos (by omega)]
  exact ⟨by rw [show 14 + k - 14 = k by omega], by omega⟩
theorem at_15 {k : Nat} (h : k < 40) : xat 15 k := by
  show x_dec (26 + k) = (15, k) ∧ 26 + k < 175
  unfold x_dec
  rw [if_neg (by omega), if_neg (by omega), if_pos (by omega)]
  exact ⟨by rw [show 26 + k - 26 = k by omega], by omega⟩
theorem at_16 {k : Nat} (h : k < 16) : xat 16 k := by
  show x_dec (66 + k) = (16, k) ∧ 66 + k < 175
  unfold x_dec
  rw [if_neg (by omega), if_neg (by omega), if_neg (by omega), if_pos (by omega)]
  exact ⟨by rw [show 66 + k - 66 = k by omega], by omega⟩
theorem at_17 {k : Nat} (h : k < 17) : xat 17 k := by
  show x_dec (82 + k) = (17, k) ∧ 82 + k < 175
  unfold x_dec
  rw [if_neg (by omega), if_neg (by omega), if_neg (by omega), if_neg (by omega), if_pos (by omega)]
  exact ⟨by rw [show 82 + k - 82 = k by omega], by omega⟩
theorem at_18 {k : Nat} (h : k < 17) : xat 18 k := by
  show x_dec (99 + k) = (18, k) ∧ 99 + k < 175
  unfold x_dec
  rw [if_neg (by omega), if_neg (by omega), if_neg (by omega), if_neg (by omega), if_neg (by omega), if_pos (by omega)]
  exact ⟨by rw [show 99 + k - 99 = k by omega], by omega⟩
theorem at_19 {k : Nat} (h : k < 17) : xat 19 k := by
  show x_dec (116 + k) = (19, k) ∧ 116 + k < 175
  unfold x_dec
  rw [if_neg (by omega), if_neg (by omega), if_neg (by omega), if_neg (by omega), if_neg (by omega), if_neg (by omega), if_pos (by omega)]
  exact ⟨by rw [show 116 + k - 116 = k by omega], by omega⟩
theorem at_20 {k : Nat} (h : k < 17) : xat 20 k := by
  show x_dec (133 + k) = (20, k) ∧ 133 + k < 175
  unfold x_dec
  rw [if_neg (by omega), if_neg (by omega), if_neg (by omega), if_neg (by omega), if_neg (by omega), if_neg (by omega), if_neg (by omega), if_pos (by omega)]
  exact ⟨by rw [show 133 + k - 133 = k by omega], by omega⟩
theorem x_dec21 {q : Nat} (h : q < 175) : (x_dec q).1 ≠ 21 := by
  unfold x_dec
  repeat' split
  all_goals simp
  all_goals omega
def x_fsH (f : Nat → Int32) (g : Nat → Option Nat) : List Value := [.int (f 0), .int (f 1), va_rf (g 2), va_rf (g 3), .int (f 4)]
def x_cellX (E : xE) (r k : Nat) (f : Nat → Int32) (g : Nat → Option Nat) : va_E := (if r = 0 then .inr (0, [.ref (E.2.2.1 1 0), .ref (E.2.2.1 2 0), .ref (E.2.2.1 3 0), .int (f 3), .ref (E.2.2.1 4 0), .ref (E.2.2.1 18 16), .ref (E.2.2.1 6 0), .ref (E.2.2.1 8 0), .int (f 8), .ref (E.2.2.1 9 0), .ref (E.2.2.1 12 0), .ref (E.2.2.1 17 16), .int (f 12), .int (f 13), .int (f 14), .int (f 15), .int (f 16), .int (f 17)]) else if r = 1 then .inl (E.2.2.2 2, 12, .inr (.inr (.inr (.inr (fun i => some (E.2.2.1 14 i)))))) else if r = 2 then .inl (E.2.2.2 0, 6, .inl f) else if r = 3 then .inl (E.2.2.2 0, 6, .inl f) else if r = 4 then .inr (1, [.ref (E.2.2.1 5 0), .int (f 1)]) else if r = 5 then .inl (E.2.2.2 5, 6, .inr (.inr (.inr (.inr g)))) else if r = 6 then .inr (2, [.ref (E.2.2.1 7 0), .int (f 1), .int (f 2)]) else if r = 7 then .inl (E.2.2.2 3, 40, .inr (.inr (.inr (.inr (fun i => some (E.2.2.1 15 i)))))) else if r = 8 then .inl (E.2.2.2 4, 16, .inr (.inr (.inr (.inr (fun i => some (E.2.2.1 16 i)))))) else if r = 9 then .inr (3, [.ref (E.2.2.1 10 0), .ref (E.2.2.1 11 0), .int (f 2), .int (f 3), .int (f 4)]) else if r = 10 then .inl (E.2.2.2 0, 40, .inl f) else if r = 11 then .inl (E.2.2.2 0, 40, .inl f) else if r = 12 then .inr (4, [.ref (E.2.2.1 13 0), .int (f 1), .int (f 2), .int (f 3)]) else if r = 13 then .inl (E.2.2.2 0, 12, .inl f) else if r = 14 then .inr (5, [.int (f 0), .int (f 1)]) else if r = 15 then .inr (6, [.int (f 0), .int (f 1), .int (f 2), .int (f 3), .int (f 4), .int (f 5), .int (f 6)]) else if r = 16 then .inr (7, [.ref (E.2.2.1 17 k), .ref (E.2.2.1 18 k), .int (f 2), .int (f 3), .int (f 4)]) else if r = 17 then .inr (8, [.int (f 0), .int (f 1), va_rf (g 2), va_rf (g 3)]) else if r = 18 then .inr (9, [.ref (E.2.2.1 19 k), .ref (E.2.2.1 20 k), .int (f 2)]) else if r = 19 then .inl (E.2.2.2 0, 4, .inl f) else if r = 20 then .inl (E.2.2.2 0, 4, .inl f) else .inr (ixH, x_fsH f g))
def x_cellY (E : xE) (r : Nat) (f : Nat → Int32) : va_E := (if r = 30 then .inr (11, [.ref (E.2.2.1 31 0), .ref (E.2.2.1 32 0), .ref (E.2.2.1 33 0), .ref (E.2.2.1 34 0), .int (f 4), .ref (E.2.2.1 35 0), .ref (E.2.2.1 36 0), .ref (E.2.2.1 37 0), .int (f 8), .int (f 9), .int (f 10), .int (f 11), .int (f 12), .ref (E.2.2.1 38 0), .ref (E.2.2.1 39 0), .ref (E.2.2.1 40 0), .ref (E.2.2.1 41 0), .ref (E.2.2.1 42 0), .ref (E.2.2.1 43 0), .ref (E.2.2.1 44 0), .int (f 20), .int (f 21), .ref (E.2.2.1 45 0), .ref (E.2.2.1 46 0), .ref (E.2.2.1 47 0), .ref (E.2.2.1 48 0), .ref (E.2.2.1 49 0), .ref (E.2.2.1 50 0), .ref (E.2.2.1 51 0), .int (f 29), .int (f 30), .int (f 31), .ref (E.2.2.1 52 0), .ref (E.2.2.1 53 0), .ref (E.2.2.1 54 0), .int (f 35), .int (f 36), .int (f 37), .int (f 38)]) else if r = 31 then .inl (E.2.2.2 0, 12, .inl f) else if r = 32 then .inl (E.2.2.2 1, 12, .inl f) else if r = 33 then .inl (E.2.2.2 0, 6, .inl f) else if r = 34 then .inl (E.2.2.2 0, 6, .inl f) else if r = 35 then .inl (E.2.2.2 0, 120, .inl f) else if r = 36 then .inl (E.2.2.2 0, 960, .inl f) else if r = 37 then .inl (E.2.2.2 0, 960, .inl f) else if r = 38 then .inl (E.2.2.2 0, 40, .inl f) else if r = 39 then .inl (E.2.2.2 0, 40, .inl f) else if r = 40 then .inl (E.2.2.2 0, 40, .inl f) else if r = 41 then .inl (E.2.2.2 0, 40, .inl f) else if r = 42 then .inl (E.2.2.2 0, 40, .inl f) else if r = 43 then .inl (E.2.2.2 0, 40, .inl f) else if r = 44 then .inl (E.2.2.2 1, 40, .inl f) else if r = 45 then .inl (E.2.2.2 0, 16, .inl f) else if r = 46 then .inl (E.2.2.2 0, 16, .inl f) else if r = 47 then .inl (E.2.2.2 0, 17, .inl f) else if r = 48 then .inl (E.2.2.2 0, 16, .inl f) else if r = 49 then .inl (E.2.2.2 0, 68, .inl f) else if r = 50 then .inl (E.2.2.2 0, 68, .inl f) else if r = 51 then .inl (E.2.2.2 1, 16, .inl f) else if r = 52 then .inl (E.2.2.2 0, 40, .inl f) else if r = 53 then .inl (E.2.2.2 0, 40, .inl f) else .inl (E.2.2.2 0, 12, .inl f))
def x_cell (E : xE) (r k : Nat) (f : Nat → Int32) (g : Nat → Option Nat) : va_E := if r < 30 then x_cellX E r k f g else x_cellY E r f
def xTys (E : xE) : List (ClassId × FieldType) := [(E.2.2.2 0, .int), (E.2.2.2 1, .boolean), (E.2.2.2 2, .object RxD), (E.2.2.2 3, .object RxN), (E.2.2.2 4, .object RxT), (E.2.2.2 5, .object RxH)]
theorem x_bornH : ∀ j, j < 5 → defaultValue (tb_ty TxH j) = vp_V (x_fsH (fun _ => 0) (fun _ => none)) j := by
  intro j hj
  match j, hj with
  | 0, _ => rw [show tb_ty TxH 0 = .int from by decide +kernel]; rfl
  | 1, _ => rw [show tb_ty TxH 1 = .int from by decide +kernel]; rfl
  | 2, _ => rw [show tb_ty TxH 2 = .object "StandIns$Matcher" from by decide +kernel]; rfl
  | 3, _ => rw [show tb_ty TxH 3 = .object "StandIns$Matcher" from by decide +kernel]; rfl
  | 4, _ => rw [show tb_ty TxH 4 = .int from by decide +kernel]; rfl
  | k + 5, h => omega
def x_rd (σ : xS) (τ : yS) (r k : Nat) : Nat → Int32 := if r < 30 then σ.1 r k else τ r k
def x_st (E : xE) (σ : xS) (τ : yS) (q : Nat) : Nat × va_E := (E.2.2.1 (x_dec q).1 (x_dec q).2, x_cell E (x_dec q).1 (x_dec q).2 (x_rd σ τ (x_dec q).1 (x_dec q).2) (σ.2.1 (x_dec q).1 (x_dec q).2))
def x_pool (E : xE) (σ : xS) : Nat → va_E := fun a => x_cell E 21 a (σ.1 21 a) (σ.2.1 21 a)
def x_ws (E : xE) (σ : xS) (τ : yS) : va_W := (List.range 175).map (x_st E σ τ) ++ va_pl σ.2.2.1 (x_pool E σ)
theorem x_at {E : xE} {σ : xS} {τ : yS} {r k : Nat} (h : xat r k) : (x_ws E σ τ)[x_pl r k]? = some (E.2.2.1 r k, x_cell E r k (x_rd σ τ r k) (σ.2.1 r k)) := by
  unfold x_ws
  rw [List.getElem?_append_left (by rw [List.length_map, List.length_range]; exact h.2), List.getElem?_map, List.getElem?_range h.2]
  show some (x_st E σ τ (x_pl r k)) = _
  unfold x_st
  rw [h.1]
theorem x_atX {E : xE} {σ : xS} {τ : yS} {r k : Nat} {c : va_E} (h : xat r k) (hr : r < 30) (hc : x_cell E r k (σ.1 r k) (σ.2.1 r k) = c) : (x_ws E σ τ)[x_pl r k]? = some (E.2.2.1 r k, c) := by
  rw [x_at h, x_rd, if_pos hr, hc]
theorem x_atY {E : xE} {σ : xS} {τ : yS} {r k : Nat} {c : va_E} (h : xat r k) (hr : 30 ≤ r) (hc : x_cell E r k (τ r k) (σ.2.1 r k) = c) : (x_ws E σ τ)[x_pl r k]? = some (E.2.2.1 r k, c) := by
  rw [x_at h, x_rd, if_neg (by omega), hc]
theorem x_upd {E : xE} {σ σ' : xS} {τ τ' : yS} {r k : Nat} {c : va_E} (h : xat r k) (hL : σ'.2.2.1 = σ.2.2.1) (hp : ∀ a, x_pool E σ' a = x_pool E σ a) (ho : ∀ q : Nat, q < 175 → q ≠ x_pl r k → x_st E σ' τ' q = x_st E σ τ q) (hc : x_cell E r k (x_rd σ' τ' r k) (σ'.2.1 r k) = c) : (x_ws E σ τ).set (x_pl r k) (E.2.2.1 r k, c) = x_ws E σ' τ' := by
  have e0 : x_st E σ' τ' (x_pl r k) = (E.2.2.1 r k, c) := by
    unfold x_st
    rw [h.1, hc]
  unfold x_ws
  rw [List.set_append_left _ _ (by rw [List.length_map, List.length_range]; exact h.2), hL, va_pl_congr hp]
  congr 1
  refine List.ext_getElem? (fun i => ?_)
  by_cases hi : i = x_pl r k
  · subst hi
    rw [List.getElem?_set_self (by rw [List.length_map, List.length_range]; exact h.2), List.getElem?_map, List.getElem?_range h.2]
    show _ = some (x_st E σ' τ' (x_pl r k))
    rw [e0]
  · rw [List.getElem?_set_ne (Ne.symm hi), List.getElem?_map, List.getElem?_map]
    by_cases hl : i < 175
    · rw [List.getElem?_range hl]
      show some (x_st E σ τ i) = some (x_st E σ' τ' i)
      rw [ho i hl hi]
    · rw [List.getElem?_eq_none (by rw [List.length_range]; omega)]
      rfl
theorem u3_row {α : Type} {I : Nat → Nat → Nat → α} {r k j r' k' : Nat} {v : α} (h : ¬ (r' = r ∧ k' = k)) : u3 I r k j v r' k' = I r' k' := by
  funext j'
  unfold u3
  rw [if_neg (fun q => h ⟨q.1, q.2.1⟩)]
theorem x_st_eq {E : xE} {σ σ' : xS} {τ τ' : yS} {q : Nat} (h1 : x_rd σ' τ' (x_dec q).1 (x_dec q).2 = x_rd σ τ (x_dec q).1 (x_dec q).2) (h2 : σ'.2.1 (x_dec q).1 (x_dec q).2 = σ.2.1 (x_dec q).1 (x_dec q).2) : x_st E σ' τ' q = x_st E σ τ q := by
  unfold x_st
  rw [h1, h2]
theorem x_updI {E : xE} {σ : xS} {τ : yS} {r k j : Nat} {v : Int32} {c : va_E} (h : xat r k) (hr : r < 21) (hc : x_cell E r k (u1 (σ.1 r k) j v) (σ.2.1 r k) = c) : (x_ws E σ τ).set (x_pl r k) (E.2.2.1 r k, c) = x_ws E (x_si σ r k j v) τ := by
  refine x_upd h rfl (fun a => ?_) (fun q hq hn => x_st_eq ?_ rfl) (by rw [x_rd, if_pos (by omega), show (x_si σ r k j v).1 r k = u1 (σ.1 r k) j v from u3_self]; exact hc)
  · unfold x_pool
    show x_cell E 21 a (u3 σ.1 r k j v 21 a) _ = _
    rw [u3_row (r' := 21) (k' := a) (fun e => by omega)]
    rfl
  · unfold x_rd
    show (if _ then u3 σ.1 r k j v _ _ else _) = _
    rw [u3_row (r' := (x_dec q).1) (k' := (x_dec q).2) (x_dec_ne hq hn)]
theorem x_updP {E : xE} {σ : xS} {τ : yS} {r k j : Nat} {v : Option Nat} {c : va_E} (h : xat r k) (hr : r < 21) (hc : x_cell E r k (σ.1 r k) (u1 (σ.2.1 r k) j v) = c) : (x_ws E σ τ).set (x_pl r k) (E.2.2.1 r k, c) = x_ws E (x_sp σ r k j v) τ := by
  refine x_upd h rfl (fun a => ?_) (fun q hq hn => x_st_eq rfl ?_) (by rw [x_rd, if_pos (by omega), show (x_sp σ r k j v).2.1 r k = u1 (σ.2.1 r k) j v from u3_self]; exact hc)
  · unfold x_pool
    show x_cell E 21 a _ (u3 σ.2.1 r k j v 21 a) = _
    rw [u3_row (r' := 21) (k' := a) (fun e => by omega)]
    rfl
  · show u3 σ.2.1 r k j v _ _ = _
    rw [u3_row (r' := (x_dec q).1) (k' := (x_dec q).2) (x_dec_ne hq hn)]
theorem x_updY {E : xE} {σ : xS} {τ : yS} {r k j : Nat} {v : Int32} {c : va_E} (h : xat r k) (hr : 30 ≤ r) (hc : x_cell E r k (u1 (τ r k) j v) (σ.2.1 r k) = c) : (x_ws E σ τ).set (x_pl r k) (E.2.2.1 r k, c) = x_ws E σ (y_si τ r k j v) := by
  refine x_upd h rfl (fun a => rfl) (fun q hq hn => x_st_eq ?_ rfl) (by rw [x_rd, if_neg (by omega), show y_si τ r k j v r k = u1 (τ r k) j v from u3_self]; exact hc)
  unfold x_rd
  show (if _ then _ else u3 τ r k j v _ _) = _
  rw [u3_row (r' := (x_dec q).1) (k' := (x_dec q).2) (x_dec_ne hq hn)]
theorem x_rdM {σ : xS} {τ : yS} {q k j : Nat} {v : Int32} (h : (x_dec q).1 ≠ 21) : x_rd (x_si σ 21 k j v) τ (x_dec q).1 (x_dec q).2 = x_rd σ τ (x_dec q).1 (x_dec q).2 := by
  unfold x_rd
  show (if _ then u3 σ.1 21 k j v _ _ else _) = _
  rw [u3_row (r' := (x_dec q).1) (k' := (x_dec q).2) (fun e => h e.1)]
