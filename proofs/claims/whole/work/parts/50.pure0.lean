/-! Pure part: numbers, updates, the relation. -/
theorem cEq {x y : Int32} {a b : Nat} (hx : x = nI a) (hy : y = nI b) (ha : a < 2147483648 := by omega) (hb : b < 2147483648 := by omega) : (x = y) = (a = b) := by
  rw [hx, hy]; exact propext (nI_eq ha hb)
theorem cLt {x y : Int32} {a b : Nat} (hx : x = nI a) (hy : y = nI b) (ha : a < 2147483648 := by omega) (hb : b < 2147483648 := by omega) : (x < y) = (a < b) := by
  rw [hx, hy]; exact propext (nI_ltI ha hb)
theorem cLe {x y : Int32} {a b : Nat} (hx : x = nI a) (hy : y = nI b) (ha : a < 2147483648 := by omega) (hb : b < 2147483648 := by omega) : (x ≤ y) = (a ≤ b) := by
  rw [hx, hy]; exact propext (nI_leI ha hb)
theorem cIn {x : Int32} {a n : Nat} (hx : x = nI a) (h : a < n := by omega) (hn : n < 2147483648 := by omega) : ¬ (x < 0 ∨ n ≤ x.toNatClampNeg) := by
  rw [hx]; exact nI_in h hn
theorem cCl {x : Int32} {a : Nat} (hx : x = nI a) (h : a < 2147483648 := by omega) : x.toNatClampNeg = a := by
  rw [hx]; exact nI_clamp h
theorem cIn' {a n : Nat} (h : a < n := by omega) (hn : n < 2147483648 := by omega) : ¬ (nI a < 0 ∨ n ≤ a) := fun q => q.elim (nI_pos (by omega)) (by omega)
theorem c16 : (16 : Int32).toNatClampNeg = 16 := rfl
theorem si_1 (σ : xS) (r k j : Nat) (v : Int32) : (x_si σ r k j v).1 = u3 σ.1 r k j v := rfl
theorem si_2 (σ : xS) (r k j : Nat) (v : Int32) : (x_si σ r k j v).2 = σ.2 := rfl
theorem sp_1 (σ : xS) (r k j : Nat) (v : Option Nat) : (x_sp σ r k j v).1 = σ.1 := rfl
theorem sp_21 (σ : xS) (r k j : Nat) (v : Option Nat) : (x_sp σ r k j v).2.1 = u3 σ.2.1 r k j v := rfl
theorem sp_22 (σ : xS) (r k j : Nat) (v : Option Nat) : (x_sp σ r k j v).2.2 = σ.2.2 := rfl
theorem yi_1 (τ : yS) (r k j : Nat) (v : Int32) : y_si τ r k j v = u3 τ r k j v := rfl
theorem u3_r {α : Type} {I : Nat → Nat → Nat → α} {r k j r' : Nat} {v : α} (h : ¬ r' = r) : u3 I r k j v r' = I r' := by
  funext k' j'; unfold u3; rw [if_neg (fun q => h q.1)]
theorem u3_k {α : Type} {I : Nat → Nat → Nat → α} {r k j k' : Nat} {v : α} (h : ¬ k' = k) : u3 I r k j v r k' = I r k' := by
  funext j'; unfold u3; rw [if_neg (fun q => h q.2.1)]
theorem u3_j {α : Type} {I : Nat → Nat → Nat → α} {r k j j' : Nat} {v : α} (h : ¬ j' = j) : u3 I r k j v r k j' = I r k j' := by
  unfold u3; rw [if_neg (fun q => h q.2.2)]
theorem u3_e {α : Type} {I : Nat → Nat → Nat → α} {r k j : Nat} {v : α} : u3 I r k j v r k j = v := by
  unfold u3; rw [if_pos ⟨rfl, rfl, rfl⟩]
theorem u1_e {α : Type} {f : Nat → α} {j : Nat} {v : α} : u1 f j v j = v := if_pos rfl
theorem u1_n {α : Type} {f : Nat → α} {j j' : Nat} {v : α} (h : ¬ j' = j) : u1 f j v j' = f j' := if_neg h
theorem xl_e {α β : Type} (a : α) (f : α → β) : xl a f = f a := rfl
theorem xp_e {α β : Type} (a : α) (f : α → Option β) : xp (some a) f = f a := rfl
theorem xb_e {α β γ : Type} (a : α) (b : β) (f : α → β → Option γ) : xb (some (a, b)) f = f a b := rfl
-- arguments
theorem A_below0 {x : Int32} {n : Nat} {c : Int32} (hc : c = nI n) (h : x < 0 ∨ nI n ≤ x) : fA_isBelow x c = 0 := by
  unfold fA_isBelow
  rcases h with h | h
  · rw [if_pos h]
  · by_cases h0 : x < 0
    · rw [if_pos h0]
    · rw [if_neg h0, hc, if_pos h]
theorem A_below1 {x c : Int32} {n j : Nat} (hx : x = nI j) (hc : c = nI n) (h : j < n) (hn : n < 2147483648) : fA_isBelow x c = 1 := by
  unfold fA_isBelow
  rw [hx, hc, if_neg (nI_pos (by omega)), if_neg (nI_ge h hn)]
theorem M_in0 {x : Int32} {n : Nat} {c : Int32} (hc : c = nI n) (hn : n + 1 < 2147483648) (h : x < 0 ∨ nI (n + 1) ≤ x) : fM_in x 0 c = 0 := by
  unfold fM_in
  rcases h with h | h
  · rw [if_pos h]
  · by_cases h0 : x < 0
    · rw [if_pos h0]
    · rw [if_neg h0, hc, if_pos]
      have h1 : (nI (n + 1)).toInt ≤ x.toInt := Int32.le_iff_toInt_le.mp h
      rw [nI_toInt hn] at h1
      rw [Int32.lt_iff_toInt_lt, nI_toInt (by omega)]
      omega
theorem M_in1 {x c : Int32} {n j : Nat} (hx : x = nI j) (hc : c = nI n) (h : j ≤ n) (hn : n < 2147483648) : fM_in x 0 c = 1 := by
  unfold fM_in
  rw [hx, hc, if_neg (nI_pos (by omega)), if_neg (nI_nlt h (by omega))]
-- matchers: a tree in the pool as a list in prefix order
def lf (k : Int32) : Prop := ¬ k = 4 ∧ ¬ k = 5 ∧ ¬ k = 6
def xT (I : Nat → Nat → Int32) (P : Nat → Nat → Option Nat) (L : List Nat) : Nat → Option Nat → List (Int32 × Int32) → Prop
  | 0, _, _ => False
  | d + 1, o, l => ∃ a : Nat, o = some a ∧ a ∈ L ∧ I a 4 = nI l.length ∧ ((lf (I a 0) ∧ l = [(I a 0, I a 1)]) ∨ (I a 0 = 6 ∧ ∃ (v : Int32) (l1 : List (Int32 × Int32)), l = (6, v) :: l1 ∧ xT I P L d (P a 2) l1) ∨ ((I a 0 = 4 ∨ I a 0 = 5) ∧ ∃ (v : Int32) (l1 l2 : List (Int32 × Int32)), l = (I a 0, v) :: (l1 ++ l2) ∧ xT I P L d (P a 2) l1 ∧ xT I P L d (P a 3) l2))
def Mt (I : Nat → Nat → Int32) (P : Nat → Nat → Option Nat) (L : List Nat) (sz kd vl : Nat → Int32) (o : Option Nat) (slot : Nat) : Prop := ∃ l : List (Int32 × Int32), xT I P L l.length o l ∧ l.length ≤ 8 ∧ sz slot = nI l.length ∧ ∀ k, k < l.length → l[k]? = some (kd (8 * slot + k), vl (8 * slot + k))
def Pat (I : Nat → Nat → Int32) (P : Nat → Nat → Option Nat) (L : List Nat) (sz kd vl : Nat → Int32) (f g : Option Nat) (p slot : Nat) : Prop := (1 ≤ p → Mt I P L sz kd vl f slot) ∧ (2 ≤ p → Mt I P L sz kd vl g (slot + 1)) ∧ (p = 0 → f = none) ∧ (p ≤ 1 → g = none)
def pm (t31 t33 : Nat → Int32) (s m : Nat) : Nat := (t31 (4 * (t33 s).toNatClampNeg + m)).toNatClampNeg
-- the relation, by groups
def P0 (L : List Nat) (z : Nat) : Prop := ∀ a ∈ L, a < z
def P1 (n : Nat) (a3 t4 : Int32) (x14 : Nat → Nat → Int32) (x2 x3 t31 t32 t33 t34 : Nat → Int32) : Prop := n ≤ 6 ∧ a3 = nI n ∧ t4 = nI n ∧ (∀ i, i < 12 → x14 i 0 = t31 i ∧ (∃ p, p ≤ 2 ∧ t31 i = nI p) ∧ x14 i 1 = t32 i ∧ (t32 i = 0 ∨ t32 i = 1)) ∧ ∀ i, i < n → x2 i = t33 i ∧ (∃ t, t < 3 ∧ t33 i = nI t) ∧ x3 i = t34 i
def P2 (ss : Nat) (k1 t8 : Int32) (I : Nat → Nat → Int32) (P : Nat → Nat → Option Nat) (L : List Nat) (h5 : Nat → Option Nat) (sz kd vl : Nat → Int32) : Prop := ss ≤ 6 ∧ k1 = nI ss ∧ t8 = nI ss ∧ ∀ i, i < ss → Mt I P L sz kd vl (h5 i) i
def P3 (pz : Nat) (x18 : Int32) (x19 x20 t47 t49 t50 : Nat → Int32) : Prop := pz ≤ 4 ∧ x18 = nI pz ∧ t47 16 = nI pz ∧ ∀ j, j < pz → x19 j = t49 (64 + j) ∧ x20 j = t50 (64 + j)
def P4 (kk nc n : Nat) (b1 t20 b2 t21 : Int32) (x15 : Nat → Nat → Int32) (t38 t39 t40 t41 t42 t43 t44 : Nat → Int32) : Prop := nc ≤ 40 ∧ b1 = nI nc ∧ t20 = nI nc ∧ (b2 = t21 ∧ ∃ nx, nx ≤ kk ∧ t21 = nI nx) ∧ ∀ i, i < nc → (x15 i 0 = t38 i ∧ ∃ q, q < 1000000 ∧ t38 i = nI q) ∧ x15 i 1 = t39 i ∧ (∃ s, s < n ∧ t39 i = nI s) ∧ x15 i 2 = t40 i ∧ (∃ m, m < 4 ∧ t40 i = nI m) ∧ x15 i 3 = t41 i ∧ x15 i 4 = t42 i ∧ x15 i 5 = t44 i ∧ (t44 i = 0 ∨ t44 i = 1) ∧ x15 i 6 = t43 i
def T5 (n kk t : Nat) (x16 x17 x18 x19 x20 : Nat → Nat → Int32) (p17 : Nat → Nat → Option Nat) (I : Nat → Nat → Int32) (P : Nat → Nat → Option Nat) (L : List Nat) (sz kd vl t31 t33 t45 t46 t47 t48 t49 t50 t51 : Nat → Int32) (az us : Nat) : Prop := (∃ s m, s < n ∧ m < 4 ∧ x17 t 0 = nI s ∧ t45 t = nI s ∧ x17 t 1 = nI m ∧ t46 t = nI m ∧ Pat I P L sz kd vl (p17 t 2) (p17 t 3) (pm t31 t33 s m) (88 + 2 * t)) ∧ az ≤ 4 ∧ x18 t 2 = nI az ∧ t47 t = nI az ∧ (∀ j, j < az → x19 t j = t49 (4 * t + j) ∧ x20 t j = t50 (4 * t + j)) ∧ us ≤ kk ∧ x16 t 3 = nI us ∧ t48 t = nI us ∧ x16 t 2 = nI (min us (az - 1)) ∧ (az = 0 → us = 0) ∧ x16 t 4 = t51 t ∧ (t51 t = 0 ∨ (t51 t = 1 ∧ az = 0))
def P5 (tm n kk : Nat) (a8 t29 : Int32) (x16 x17 x18 x19 x20 : Nat → Nat → Int32) (p17 : Nat → Nat → Option Nat) (I : Nat → Nat → Int32) (P : Nat → Nat → Option Nat) (L : List Nat) (sz kd vl t31 t33 t45 t46 t47 t48 t49 t50 t51 : Nat → Int32) : Prop := tm ≤ 16 ∧ a8 = nI tm ∧ t29 = nI tm ∧ (∀ t, t < tm → ∃ az us, T5 n kk t x16 x17 x18 x19 x20 p17 I P L sz kd vl t31 t33 t45 t46 t47 t48 t49 t50 t51 az us) ∧ ∀ t, tm ≤ t → t < 16 → x18 t 2 = 0 ∧ x16 t 2 = 0 ∧ x16 t 3 = 0 ∧ x16 t 4 = 0 ∧ t51 t = 0
def P6 (fz : Nat) (f2 f3 f4 t35 t37 t38 : Int32) (x11 t53 : Nat → Int32) : Prop := fz ≤ 40 ∧ f2 = nI fz ∧ t35 = nI fz ∧ f3 = t37 ∧ (t37 = 0 ∨ t37 = 1) ∧ f4 = t38 ∧ (t38 = 0 ∨ t38 = 1) ∧ ∀ j, j < fz → x11 j = t53 j
def P7 (ct kk : Nat) (c1 c2 c3 t36 : Int32) (x13 t54 : Nat → Int32) : Prop := ct ≤ 80 * kk ∧ c3 = nI ct ∧ t36 = nI ct ∧ c2 = nI (min ct 12) ∧ c1 = nI (ct % 12) ∧ ∀ j, j < 12 → j < ct → x13 j = t54 j
def P8 (a16 t31 a17 t30 : Int32) : Prop := a16 = t31 ∧ a17 = t30
def P9 (st n nc tm pz : Nat) (a12 a13 a14 a15 t9 t10 t11 t12 : Int32) (x17 : Nat → Nat → Int32) (p17 : Nat → Nat → Option Nat) (I : Nat → Nat → Int32) (P : Nat → Nat → Option Nat) (L : List Nat) (sz kd vl t31 t33 t39 t40 t45 t46 t48 t51 : Nat → Int32) : Prop := st ≤ 4 ∧ a12 = nI st ∧ t9 = nI st ∧ (st = 1 → 1 ≤ nc ∧ ∃ s m, s < n ∧ m < 4 ∧ x17 16 0 = nI s ∧ t39 (nc - 1) = nI s ∧ x17 16 1 = nI m ∧ t40 (nc - 1) = nI m ∧ Pat I P L sz kd vl (p17 16 2) (p17 16 3) (pm t31 t33 s m) (8 + 2 * (nc - 1))) ∧ (st = 2 ∨ st = 3 → ∃ s, s < n ∧ a13 = nI s ∧ t10 = nI s) ∧ (st = 2 → 1 ≤ pz) ∧ (st = 3 → ∃ md q, md < 5 ∧ q ≤ 40 ∧ (md = 4 → 1 ≤ q) ∧ a14 = nI md ∧ t11 = nI md ∧ a15 = nI q ∧ t12 = nI q) ∧ (st = 4 → 1 ≤ tm ∧ x17 16 0 = t45 (tm - 1) ∧ x17 16 1 = t46 (tm - 1) ∧ t48 (tm - 1) = 0 ∧ t51 (tm - 1) = 0)
def Rl (kk : Nat) (σ : xS) (τ : yS) (n ss pz nc tm fz ct st : Nat) : Prop :=
  P0 σ.2.2.1 σ.2.2.2 ∧
  P1 n (σ.1 0 0 3) (τ 30 0 4) (σ.1 14) (σ.1 2 0) (σ.1 3 0) (τ 31 0) (τ 32 0) (τ 33 0) (τ 34 0) ∧
  P2 ss (σ.1 4 0 1) (τ 30 0 8) (σ.1 21) (σ.2.1 21) σ.2.2.1 (σ.2.1 5 0) (τ 35 0) (τ 36 0) (τ 37 0) ∧
  P3 pz (σ.1 18 16 2) (σ.1 19 16) (σ.1 20 16) (τ 47 0) (τ 49 0) (τ 50 0) ∧
  P4 kk nc n (σ.1 6 0 1) (τ 30 0 20) (σ.1 6 0 2) (τ 30 0 21) (σ.1 15) (τ 38 0) (τ 39 0) (τ 40 0) (τ 41 0) (τ 42 0) (τ 43 0) (τ 44 0) ∧
  P5 tm n kk (σ.1 0 0 8) (τ 30 0 29) (σ.1 16) (σ.1 17) (σ.1 18) (σ.1 19) (σ.1 20) (σ.2.1 17) (σ.1 21) (σ.2.1 21) σ.2.2.1 (τ 35 0) (τ 36 0) (τ 37 0) (τ 31 0) (τ 33 0) (τ 45 0) (τ 46 0) (τ 47 0) (τ 48 0) (τ 49 0) (τ 50 0) (τ 51 0) ∧
  P6 fz (σ.1 9 0 2) (σ.1 9 0 3) (σ.1 9 0 4) (τ 30 0 35) (τ 30 0 37) (τ 30 0 38) (σ.1 11 0) (τ 53 0) ∧
  P7 ct kk (σ.1 12 0 1) (σ.1 12 0 2) (σ.1 12 0 3) (τ 30 0 36) (σ.1 13 0) (τ 54 0) ∧
  P8 (σ.1 0 0 16) (τ 30 0 31) (σ.1 0 0 17) (τ 30 0 30) ∧
  P9 st n nc tm pz (σ.1 0 0 12) (σ.1 0 0 13) (σ.1 0 0 14) (σ.1 0 0 15) (τ 30 0 9) (τ 30 0 10) (τ 30 0 11) (τ 30 0 12) (σ.1 17) (σ.2.1 17) (σ.1 21) (σ.2.1 21) σ.2.2.1 (τ 35 0) (τ 36 0) (τ 37 0) (τ 31 0) (τ 33 0) (τ 39 0) (τ 40 0) (τ 45 0) (τ 46 0) (τ 48 0) (τ 51 0)
def Rel (kk : Nat) (σ : xS) (τ : yS) : Prop := ∃ n ss pz nc tm fz ct st : Nat, Rl kk σ τ n ss pz nc tm fz ct st
theorem P5.up {tm n kk kk' : Nat} {a8 t29 : Int32} {x16 x17 x18 x19 x20 : Nat → Nat → Int32} {p17 : Nat → Nat → Option Nat} {I : Nat → Nat → Int32} {P : Nat → Nat → Option Nat} {L : List Nat} {sz kd vl t31 t33 t45 t46 t47 t48 t49 t50 t51 : Nat → Int32} (hk : kk ≤ kk') (h : P5 tm n kk a8 t29 x16 x17 x18 x19 x20 p17 I P L sz kd vl t31 t33 t45 t46 t47 t48 t49 t50 t51) : P5 tm n kk' a8 t29 x16 x17 x18 x19 x20 p17 I P L sz kd vl t31 t33 t45 t46 t47 t48 t49 t50 t51 := by
  obtain ⟨h1, h2, h3, h4, h5⟩ := h
  refine ⟨h1, h2, h3, fun t ht => ?_, h5⟩
  obtain ⟨az, us, g1, g2, g3, g4, g5, g6, g7⟩ := h4 t ht
  exact ⟨az, us, g1, g2, g3, g4, g5, Nat.le_trans g6 hk, g7⟩
theorem P4.up {kk kk' nc n : Nat} (hk : kk ≤ kk') {b1 t20 b2 t21 : Int32} {x15 : Nat → Nat → Int32} {t38 t39 t40 t41 t42 t43 t44 : Nat → Int32} (h : P4 kk nc n b1 t20 b2 t21 x15 t38 t39 t40 t41 t42 t43 t44) : P4 kk' nc n b1 t20 b2 t21 x15 t38 t39 t40 t41 t42 t43 t44 := by
  obtain ⟨h1, h2, h3, ⟨h4, nx, h5, h6⟩, h7⟩ := h
  exact ⟨h1, h2, h3, ⟨h4, nx, Nat.le_trans h5 hk, h6⟩, h7⟩
theorem P7.up {ct kk kk' : Nat} {c1 c2 c3 t36 : Int32} {x13 t54 : Nat → Int32} (hk : kk ≤ kk') (h : P7 ct kk c1 c2 c3 t36 x13 t54) : P7 ct kk' c1 c2 c3 t36 x13 t54 := ⟨Nat.le_trans h.1 (Nat.mul_le_mul_left 80 hk), h.2⟩
theorem Rel.up {kk kk' : Nat} {σ : xS} {τ : yS} (hk : kk ≤ kk') (h : Rel kk σ τ) : Rel kk' σ τ := by
  obtain ⟨n, ss, pz, nc, tm, fz, ct, st, h0, h1, h2, h3, h4, h5, h6, h7, h8, h9⟩ := h
  exact ⟨n, ss, pz, nc, tm, fz, ct, st, h0, h1, h2, h3, h4.up hk, h5.up hk, h6, h7.up hk, h8, h9⟩
theorem Rel0 (z : Nat) : Rel 0 (x_s0 z) y_t0 := by
  refine ⟨0, 0, 0, 0, 0, 0, 0, 0, ?_, ?_, ?_, ?_, ?_, ?_, ?_, ?_, ?_, ?_⟩
  · intro a h; cases h
  · exact ⟨by decide, rfl, rfl, fun i _ => ⟨rfl, ⟨0, by decide, rfl⟩, rfl, Or.inr rfl⟩, fun i h => absurd h (by omega)⟩
  · exact ⟨by decide, rfl, rfl, fun i h => absurd h (by omega)⟩
  · exact ⟨by decide, rfl, rfl, fun i h => absurd h (by omega)⟩
  · exact ⟨by decide, rfl, rfl, ⟨rfl, 0, by omega, rfl⟩, fun i h => absurd h (by omega)⟩
  · exact ⟨by decide, rfl, rfl, fun i h => absurd h (by omega), fun t _ _ => ⟨rfl, rfl, rfl, rfl, rfl⟩⟩
  · exact ⟨by decide, rfl, rfl, rfl, Or.inl rfl, rfl, Or.inl rfl, fun i h => absurd h (by omega)⟩
  · exact ⟨by decide, rfl, rfl, rfl, rfl, fun i _ h => absurd h (by omega)⟩
  · exact ⟨rfl, rfl⟩
  · exact ⟨by decide, rfl, rfl, fun h => absurd h (by decide), fun h => absurd h (by decide), fun h => absurd h (by decide), fun h => absurd h (by decide), fun h => absurd h (by decide)⟩
