def x_off (r k : Nat) : Nat := if r < 6 then r else if r = 6 then 9 else if r = 7 then 10 else if r < 14 then r + 43 else if r = 14 then 58 + k else if r = 15 then 11 + k else if r = 16 then 70 + 5 * k else if r = 17 then (if k = 16 then 57 else 71 + 5 * k) else if r = 18 then (if k = 16 then 6 else 72 + 5 * k) else if r = 19 then (if k = 16 then 7 else 73 + 5 * k) else if r = 20 then (if k = 16 then 8 else 74 + 5 * k) else r + 120
def x_s0 (z : Nat) : xS := (fun r _ j => if r = 14 ∧ j = 1 then 1 else if (r = 15 ∧ (j = 0 ∨ j = 1 ∨ j = 2 ∨ j = 6)) ∨ (r = 17 ∧ (j = 0 ∨ j = 1)) ∨ (r = 0 ∧ (j = 13 ∨ j = 16)) then -1 else 0, fun _ _ _ => none, [], z)
def y_t0 : yS := fun r _ j => if r = 32 then 1 else if r = 30 ∧ j = 31 then -1 else 0
def x_cD (r k : Nat) : Nat × List vD := if r = 0 then (0, [.inr (some (x_off 1 0)), .inr (some (x_off 2 0)), .inr (some (x_off 3 0)), .inl 0, .inr (some (x_off 4 0)), .inr (some (x_off 18 16)), .inr (some (x_off 6 0)), .inr (some (x_off 8 0)), .inl 0, .inr (some (x_off 9 0)), .inr (some (x_off 12 0)), .inr (some (x_off 17 16)), .inl 0, .inl (-1), .inl 0, .inl 0, .inl (-1), .inl 0]) else if r = 1 then (22, (List.range 12).map (fun i => .inr (some (x_off 14 i)))) else if r = 2 then (20, List.replicate 6 (.inl 0)) else if r = 3 then (20, List.replicate 6 (.inl 0)) else if r = 4 then (1, [.inr (some (x_off 5 0)), .inl 0]) else if r = 5 then (25, List.replicate 6 (.inr none)) else if r = 6 then (2, [.inr (some (x_off 7 0)), .inl 0, .inl 0]) else if r = 7 then (23, (List.range 40).map (fun i => .inr (some (x_off 15 i)))) else if r = 8 then (24, (List.range 16).map (fun i => .inr (some (x_off 16 i)))) else if r = 9 then (3, [.inr (some (x_off 10 0)), .inr (some (x_off 11 0)), .inl 0, .inl 0, .inl 0]) else if r = 10 then (20, List.replicate 40 (.inl 0)) else if r = 11 then (20, List.replicate 40 (.inl 0)) else if r = 12 then (4, [.inr (some (x_off 13 0)), .inl 0, .inl 0, .inl 0]) else if r = 13 then (20, List.replicate 12 (.inl 0)) else if r = 14 then (5, [.inl 0, .inl 1]) else if r = 15 then (6, [.inl (-1), .inl (-1), .inl (-1), .inl 0, .inl 0, .inl 0, .inl (-1)]) else if r = 16 then (7, [.inr (some (x_off 17 k)), .inr (some (x_off 18 k)), .inl 0, .inl 0, .inl 0]) else if r = 17 then (8, [.inl (-1), .inl (-1), .inr none, .inr none]) else if r = 18 then (9, [.inr (some (x_off 19 k)), .inr (some (x_off 20 k)), .inl 0]) else if r = 19 then (20, List.replicate 4 (.inl 0)) else if r = 20 then (20, List.replicate 4 (.inl 0)) else if r = 30 then (11, [.inr (some (x_off 31 0)), .inr (some (x_off 32 0)), .inr (some (x_off 33 0)), .inr (some (x_off 34 0)), .inl 0, .inr (some (x_off 35 0)), .inr (some (x_off 36 0)), .inr (some (x_off 37 0)), .inl 0, .inl 0, .inl 0, .inl 0, .inl 0, .inr (some (x_off 38 0)), .inr (some (x_off 39 0)), .inr (some (x_off 40 0)), .inr (some (x_off 41 0)), .inr (some (x_off 42 0)), .inr (some (x_off 43 0)), .inr (some (x_off 44 0)), .inl 0, .inl 0, .inr (some (x_off 45 0)), .inr (some (x_off 46 0)), .inr (some (x_off 47 0)), .inr (some (x_off 48 0)), .inr (some (x_off 49 0)), .inr (some (x_off 50 0)), .inr (some (x_off 51 0)), .inl 0, .inl 0, .inl (-1), .inr (some (x_off 52 0)), .inr (some (x_off 53 0)), .inr (some (x_off 54 0)), .inl 0, .inl 0, .inl 0, .inl 0]) else if r = 31 then (20, List.replicate 12 (.inl 0)) else if r = 32 then (21, List.replicate 12 (.inl 1)) else if r = 33 then (20, List.replicate 6 (.inl 0)) else if r = 34 then (20, List.replicate 6 (.inl 0)) else if r = 35 then (20, List.replicate 120 (.inl 0)) else if r = 36 then (20, List.replicate 960 (.inl 0)) else if r = 37 then (20, List.replicate 960 (.inl 0)) else if r = 38 then (20, List.replicate 40 (.inl 0)) else if r = 39 then (20, List.replicate 40 (.inl 0)) else if r = 40 then (20, List.replicate 40 (.inl 0)) else if r = 41 then (20, List.replicate 40 (.inl 0)) else if r = 42 then (20, List.replicate 40 (.inl 0)) else if r = 43 then (20, List.replicate 40 (.inl 0)) else if r = 44 then (21, List.replicate 40 (.inl 0)) else if r = 45 then (20, List.replicate 16 (.inl 0)) else if r = 46 then (20, List.replicate 16 (.inl 0)) else if r = 47 then (20, List.replicate 17 (.inl 0)) else if r = 48 then (20, List.replicate 16 (.inl 0)) else if r = 49 then (20, List.replicate 68 (.inl 0)) else if r = 50 then (20, List.replicate 68 (.inl 0)) else if r = 51 then (21, List.replicate 16 (.inl 0)) else if r = 52 then (20, List.replicate 40 (.inl 0)) else if r = 53 then (20, List.replicate 40 (.inl 0)) else (20, List.replicate 12 (.inl 0))
def g_w0 : cS := [(0, [.inr none, .inr none, .inr none, .inl 0, .inr none, .inr none, .inr none, .inr none, .inl 0, .inr none, .inr none, .inr none, .inl 0, .inl 0, .inl 0, .inl 0, .inl 0, .inl 0])]
def g_m0 : Nat × List vD := (11, [.inr none, .inr none, .inr none, .inr none, .inl 0, .inr none, .inr none, .inr none, .inl 0, .inl 0, .inl 0, .inl 0, .inl 0, .inr none, .inr none, .inr none, .inr none, .inr none, .inr none, .inr none, .inl 0, .inl 0, .inr none, .inr none, .inr none, .inr none, .inr none, .inr none, .inr none, .inl 0, .inl 0, .inl 0, .inr none, .inr none, .inr none, .inl 0, .inl 0, .inl 0, .inl 0])
def g_w1 : Option cS := gA_init g_w0 0
def g_chk (w1 : cS) : Bool := match gM_init (w1 ++ [g_m0]) w1.length with
  | none => false
  | some w2 => (List.range 175).all (fun q => decide (w2[x_off (x_dec q).1 (x_dec q).2]? = some (x_cD (x_dec q).1 (x_dec q).2))) && decide (w2.length = 175)
def g_all : Bool := match g_w1 with
  | none => false
  | some w1 => g_chk w1 && decide (w1.length = 150)
set_option maxRecDepth 1000000 in
theorem g_ok : g_all = true := by decide +kernel
theorem g_start : ∃ w1 w2 : cS, gA_init g_w0 0 = some w1 ∧ w1.length = 150 ∧ gM_init (w1 ++ [g_m0]) 150 = some w2 ∧ w2.length = 175 ∧ ∀ q, q < 175 → w2[x_off (x_dec q).1 (x_dec q).2]? = some (x_cD (x_dec q).1 (x_dec q).2) := by
  have h := g_ok
  unfold g_all g_w1 at h
  cases h1 : gA_init g_w0 0 with
  | none => rw [h1] at h; cases h
  | some w1 =>
    rw [h1] at h
    dsimp only at h
    rw [Bool.and_eq_true] at h
    obtain ⟨ha, hb⟩ := h
    have hb := of_decide_eq_true hb
    unfold g_chk at ha
    cases h2 : gM_init (w1 ++ [g_m0]) w1.length with
    | none => rw [h2] at ha; cases ha
    | some w2 =>
      rw [h2] at ha
      dsimp only at ha
      rw [Bool.and_eq_true] at ha
      obtain ⟨hc, hd⟩ := ha
      refine ⟨w1, w2, rfl, hb, by rw [← hb]; exact h2, of_decide_eq_true hd, fun q hq => ?_⟩
      exact of_decide_eq_true (List.all_eq_true.mp hc q (List.mem_range.mpr hq))
theorem arrV_congr (c : ClassId) (n : Nat) (f g : Nat → Value) (h : ∀ j, j < n → f j = g j) : arrV c n f = arrV c n g := by
  unfold arrV
  congr 1
  refine Array.ext (by simp) (fun i h1 h2 => ?_)
  simp at h1
  simp [h i h1]
theorem c_rep {n j : Nat} {v d : vD} (h : j < n) : (List.replicate n v).getD j d = v := by simp [List.getD, h]
theorem va_at_i {D : va_G} {cl : List vw_C} {a n : Nat} {c : ClassId} {f g : Nat → Int32} {H : Heap} (h : va_at D cl (a, .inl (c, n, .inl f)) H) (e : ∀ j, j < n → f j = g j) : va_at D cl (a, .inl (c, n, .inl g)) H := by
  have h : H[a]? = some (vp_cell c (n, .inl f)) := h
  show H[a]? = some (vp_cell c (n, .inl g))
  rw [h, vp_cell_i, vp_cell_i, arrV_congr c n _ (fun j => .int (g j)) (fun j hj => by rw [e j hj])]
theorem va_at_q {D : va_G} {cl : List vw_C} {a n : Nat} {c : ClassId} {f g : Nat → Option Nat} {H : Heap} (h : va_at D cl (a, .inl (c, n, .inr (.inr (.inr (.inr f))))) H) (e : ∀ j, j < n → f j = g j) : va_at D cl (a, .inl (c, n, .inr (.inr (.inr (.inr g))))) H := by
  have h : H[a]? = some (vp_cell c (n, .inr (.inr (.inr (.inr f))))) := h
  show H[a]? = some (vp_cell c (n, .inr (.inr (.inr (.inr g)))))
  rw [h, vp_cell_q, vp_cell_q, arrV_congr c n _ (fun j => va_rf (g j)) (fun j hj => by rw [e j hj])]
set_option maxRecDepth 100000 in
set_option maxHeartbeats 4000000 in
theorem cv_0 {E : xE} {h z : Nat} {D : va_G} {cl : List vw_C} {H : Heap} (hE : E.2.2.1 = fun r k => h + x_off r k) (hv : va_at D cl (h + x_off 0 0, c_e E h (x_cD 0 0)) H) : va_at D cl (E.2.2.1 0 0, x_cell E 0 0 (x_rd (x_s0 z) y_t0 0 0) ((x_s0 z).2.1 0 0)) H := by
  obtain ⟨E1, E2, E3, E4⟩ := E
  have hE : E3 = fun r k => h + x_off r k := hE
  subst hE
  exact hv
set_option maxRecDepth 100000 in
set_option maxHeartbeats 4000000 in
theorem cv_1 {E : xE} {h z : Nat} {D : va_G} {cl : List vw_C} {H : Heap} (hE : E.2.2.1 = fun r k => h + x_off r k) (hv : va_at D cl (h + x_off 1 0, c_e E h (x_cD 1 0)) H) : va_at D cl (E.2.2.1 1 0, x_cell E 1 0 (x_rd (x_s0 z) y_t0 1 0) ((x_s0 z).2.1 1 0)) H := by
  have hv : va_at D cl (h + x_off 1 0, .inl (E.2.2.2 2, 12, .inr (.inr (.inr (.inr (fun j => c_r h (((List.range 12).map (fun i => (.inr (some (x_off 14 i)) : vD))).getD j (.inr none)))))))) H := by
    have e9 : c_e E h (x_cD 1 0) = .inl (E.2.2.2 2, ((List.range 12).map (fun i => (.inr (some (x_off 14 i)) : vD))).length, .inr (.inr (.inr (.inr (fun j => c_r h (((List.range 12).map (fun i => (.inr (some (x_off 14 i)) : vD))).getD j (.inr none))))))) := rfl
    rw [List.length_map, List.length_range] at e9
    rw [← e9]; exact hv
  have e0 : E.2.2.1 1 0 = h + x_off 1 0 := by rw [hE]
  rw [e0]
  refine va_at_q (g := fun i => some (E.2.2.1 14 i)) hv (fun j hj => ?_)
  rw [hE]
  simp [List.getD, hj, c_r]
set_option maxRecDepth 100000 in
set_option maxHeartbeats 4000000 in
theorem cv_2 {E : xE} {h z : Nat} {D : va_G} {cl : List vw_C} {H : Heap} (hE : E.2.2.1 = fun r k => h + x_off r k) (hv : va_at D cl (h + x_off 2 0, c_e E h (x_cD 2 0)) H) : va_at D cl (E.2.2.1 2 0, x_cell E 2 0 (x_rd (x_s0 z) y_t0 2 0) ((x_s0 z).2.1 2 0)) H := by
  rw [hE]
  have hv : va_at D cl (h + x_off 2 0, .inl (E.2.2.2 0, 6, .inl (fun j => c_i ((List.replicate 6 (.inl 0) : List vD).getD j (.inl 0))))) H := by
    have e9 : c_e E h (x_cD 2 0) = .inl (E.2.2.2 0, (List.replicate 6 (Sum.inl 0) : List vD).length, .inl (fun j => c_i ((List.replicate 6 (.inl 0) : List vD).getD j (.inl 0)))) := rfl
    rw [List.length_replicate] at e9
    rw [← e9]; exact hv
  exact va_at_i hv (fun j hj => by rw [c_rep hj]; rfl)
set_option maxRecDepth 100000 in
set_option maxHeartbeats 4000000 in
theorem cv_3 {E : xE} {h z : Nat} {D : va_G} {cl : List vw_C} {H : Heap} (hE : E.2.2.1 = fun r k => h + x_off r k) (hv : va_at D cl (h + x_off 3 0, c_e E h (x_cD 3 0)) H) : va_at D cl (E.2.2.1 3 0, x_cell E 3 0 (x_rd (x_s0 z) y_t0 3 0) ((x_s0 z).2.1 3 0)) H := by
  rw [hE]
  have hv : va_at D cl (h + x_off 3 0, .inl (E.2.2.2 0, 6, .inl (fun j => c_i ((List.replicate 6 (.inl 0) : List vD).getD j (.inl 0))))) H := by
    have e9 : c_e E h (x_cD 3 0) = .inl (E.2.2.2 0, (List.replicate 6 (Sum.inl 0) : List vD).length, .inl (fun j => c_i ((List.replicate 6 (.inl 0) : List vD).getD j (.inl 0)))) := rfl
    rw [List.length_replicate] at e9
    rw [← e9]; exact hv
  exact va_at_i hv (fun j hj => by rw [c_rep hj]; rfl)
set_option maxRecDepth 100000 in
set_option maxHeartbeats 4000000 in
theorem cv_4 {E : xE} {h z : Nat} {D : va_G} {cl : List vw_C} {H : Heap} (hE : E.2.2.1 = fun r k => h + x_off r k) (hv : va_at D cl (h + x_off 4 0, c_e E h (x_cD 4 0)) H) : va_at D cl (E.2.2.1 4 0, x_cell E 4 0 (x_rd (x_s0 z) y_t0 4 0) ((x_s0 z).2.1 4 0)) H := by
  obtain ⟨E1, E2, E3, E4⟩ := E
  have hE : E3 = fun r k => h + x_off r k := hE
  subst hE
  exact hv
set_option maxRecDepth 100000 in
set_option maxHeartbeats 4000000 in
theorem cv_5 {E : xE} {h z : Nat} {D : va_G} {cl : List vw_C} {H : Heap} (hE : E.2.2.1 = fun r k => h + x_off r k) (hv : va_at D cl (h + x_off 5 0, c_e E h (x_cD 5 0)) H) : va_at D cl (E.2.2.1 5 0, x_cell E 5 0 (x_rd (x_s0 z) y_t0 5 0) ((x_s0 z).2.1 5 0)) H := by
  rw [hE]
  have hv : va_at D cl (h + x_off 5 0, .inl (E.2.2.2 5, 6, .inr (.inr (.inr (.inr (fun j => c_r h ((List.replicate 6 (.inr none) : List vD).getD j (.inr none)))))))) H := by
    have e9 : c_e E h (x_cD 5 0) = .inl (E.2.2.2 5, (List.replicate 6 (Sum.inr none) : List vD).length, .inr (.inr (.inr (.inr (fun j => c_r h ((List.replicate 6 (.inr none) : List vD).getD j (.inr none))))))) := rfl
    rw [List.length_replicate] at e9
    rw [← e9]; exact hv
  exact va_at_q hv (fun j hj => by rw [c_rep hj]; rfl)
set_option maxRecDepth 100000 in
set_option maxHeartbeats 4000000 in
theorem cv_6 {E : xE} {h z : Nat} {D : va_G} {cl : List vw_C} {H : Heap} (hE : E.2.2.1 = fun r k => h + x_off r k) (hv : va_at D cl (h + x_off 6 0, c_e E h (x_cD 6 0)) H) : va_at D cl (E.2.2.1 6 0, x_cell E 6 0 (x_rd (x_s0 z) y_t0 6 0) ((x_s0 z).2.1 6 0)) H := by
  obtain ⟨E1, E2, E3, E4⟩ := E
  have hE : E3 = fun r k => h + x_off r k := hE
  subst hE
  exact hv
set_option maxRecDepth 100000 in
set_option maxHeartbeats 4000000 in
theorem cv_7 {E : xE} {h z : Nat} {D : va_G} {cl : List vw_C} {H : Heap} (hE : E.2.2.1 = fun r k => h + x_off r k) (hv : va_at D cl (h + x_off 7 0, c_e E h (x_cD 7 0)) H) : va_at D cl (E.2.2.1 7 0, x_cell E 7 0 (x_rd (x_s0 z) y_t0 7 0) ((x_s0 z).2.1 7 0)) H := by
  have hv : va_at D cl (h + x_off 7 0, .inl (E.2.2.2 3, 40, .inr (.inr (.inr (.inr (fun j => c_r h (((List.range 40).map (fun i => (.inr (some (x_off 15 i)) : vD))).getD j (.inr none)))))))) H := by
    have e9 : c_e E h (x_cD 7 0) = .inl (E.2.2.2 3, ((List.range 40).map (fun i => (.inr (some (x_off 15 i)) : vD))).length, .inr (.inr (.inr (.inr (fun j => c_r h (((List.range 40).map (fun i => (.inr (some (x_off 15 i)) : vD))).getD j (.inr none))))))) := rfl
    rw [List.length_map, List.length_range] at e9
    rw [← e9]; exact hv
  have e0 : E.2.2.1 7 0 = h + x_off 7 0 := by rw [hE]
  rw [e0]
  refine va_at_q (g := fun i => some (E.2.2.1 15 i)) hv (fun j hj => ?_)
  rw [hE]
  simp [List.getD, hj, c_r]
set_option maxRecDepth 100000 in
set_option maxHeartbeats 4000000 in
theorem cv_8 {E : xE} {h z : Nat} {D : va_G} {cl : List vw_C} {H : Heap} (hE : E.2.2.1 = fun r k => h + x_off r k) (hv : va_at D cl (h + x_off 8 0, c_e E h (x_cD 8 0)) H) : va_at D cl (E.2.2.1 8 0, x_cell E 8 0 (x_rd (x_s0 z) y_t0 8 0) ((x_s0 z).2.1 8 0)) H := by
  have hv : va_at D cl (h + x_off 8 0, .inl (E.2.2.2 4, 16, .inr (.inr (.inr (.inr (fun j => c_r h (((List.range 16).map (fun i => (.inr (some (x_off 16 i)) : vD))).getD j (.inr none)))))))) H := by
    have e9 : c_e E h (x_cD 8 0) = .inl (E.2.2.2 4, ((List.range 16).map (fun i => (.inr (some (x_off 16 i)) : vD))).length, .inr (.inr (.inr (.inr (fun j => c_r h (((List.range 16).map (fun i => (.inr (some (x_off 16 i)) : vD))).getD j (.inr none))))))) := rfl
    rw [List.length_map, List.length_range] at e9
    rw [← e9]; exact hv
  have e0 : E.2.2.1 8 0 = h + x_off 8 0 := by rw [hE]
  rw [e0]
  refine va_at_q (g := fun i => some (E.2.2.1 16 i)) hv (fun j hj => ?_)
  rw [hE]
  simp [List.getD, hj, c_r]
set_option maxRecDepth 100000 in
set_option maxHeartbeats 4000000 in
theorem cv_9 {E : xE} {h z : Nat} {D : va_G} {cl : List vw_C} {H : Heap} (hE : E.2.2.1 = fun r k => h + x_off r k) (hv : va_at D cl (h + x_off 9 0, c_e E h (x_cD 9 0)) H) : va_at D cl (E.2.2.1 9 0, x_cell E 9 0 (x_rd (x_s0 z) y_t0 9 0) ((x_s0 z).2.1 9 0)) H := by
  obtain ⟨E1, E2, E3, E4⟩ := E
  have hE : E3 = fun r k => h + x_off r k := hE
  subst hE
  exact hv
set_option maxRecDepth 100000 in
set_option maxHeartbeats 4000000 in
theorem cv_10 {E : xE} {h z : Nat} {D : va_G} {cl : List vw_C} {H : Heap} (hE : E.2.2.1 = fun r k => h + x_off r k) (hv : va_at D cl (h + x_off 10 0, c_e E h (x_cD 10 0)) H) : va_at D cl (E.2.2.1 10 0, x_cell E 10 0 (x_rd (x_s0 z) y_t0 10 0) ((x_s0 z).2.1 10 0)) H := by
  rw [hE]
  have hv : va_at D cl (h + x_off 10 0, .inl (E.2.2.2 0, 40, .inl (fun j => c_i ((List.replicate 40 (.inl 0) : List vD).getD j (.inl 0))))) H := by
    have e9 : c_e E h (x_cD 10 0) = .inl (E.2.2.2 0, (List.replicate 40 (Sum.inl 0) : List vD).length, .inl (fun j => c_i ((List.replicate 40 (.inl 0) : List vD).getD j (.inl 0)))) := rfl
    rw [List.length_replicate] at e9
    rw [← e9]; exact hv
  exact va_at_i hv (fun j hj => by rw [c_rep hj]; rfl)
set_option maxRecDepth 100000 in
set_option maxHeartbeats 4000000 in
theorem cv_11 {E : xE} {h z : Nat} {D : va_G} {cl : List vw_C} {H : Heap} (hE : E.2.2.1 = fun r k => h + x_off r k) (hv : va_at D cl (h + x_off 11 0, c_e E h (x_cD 11 0)) H) : va_at D cl (E.2.2.1 11 0, x_cell E 11 0 (x_rd (x_s0 z) y_t0 11 0) ((x_s0 z).2.1 11 0)) H := by
  rw [hE]
  have hv : va_at D cl (h + x_off 11 0, .inl (E.2.2.2 0, 40, .inl (fun j => c_i ((List.replicate 40 (.inl 0) : List vD).getD j (.inl 0))))) H := by
    have e9 : c_e E h (x_cD 11 0) = .inl (E.2.2.2 0, (List.replicate 40 (Sum.inl 0) : List vD).length, .inl (fun j => c_i ((List.replicate 40 (.inl 0) : List vD).getD j (.inl 0)))) := rfl
    rw [List.length_replicate] at e9
    rw [← e9]; exact hv
  exact va_at_i hv (fun j hj => by rw [c_rep hj]; rfl)
set_option maxRecDepth 100000 in
set_option maxHeartbeats 4000000 in
theorem cv_12 {E : xE} {h z : Nat} {D : va_G} {cl : List vw_C} {H : Heap} (hE : E.2.2.1 = fun r k => h + x_off r k) (hv : va_at D cl (h + x_off 12 0, c_e E h (x_cD 12 0)) H) : va_at D cl (E.2.2.1 12 0, x_cell E 12 0 (x_rd (x_s0 z) y_t0 12 0) ((x_s0 z).2.1 12 0)) H := by
  obtain ⟨E1, E2, E3, E4⟩ := E
  have hE : E3 = fun r k => h + x_off r k := hE
  subst hE
  exact hv
set_option maxRecDepth 100000 in
set_option maxHeartbeats 4000000 in
theorem cv_13 {E : xE} {h z : Nat} {D : va_G} {cl : List vw_C} {H : Heap} (hE : E.2.2.1 = fun r k => h + x_off r k) (hv : va_at D cl (h + x_off 13 0, c_e E h (x_cD 13 0)) H) : va_at D cl (E.2.2.1 13 0, x_cell E 13 0 (x_rd (x_s0 z) y_t0 13 0) ((x_s0 z).2.1 13 0)) H := by
  rw [hE]
  have hv : va_at D cl (h + x_off 13 0, .inl (E.2.2.2 0, 12, .inl (fun j => c_i ((List.replicate 12 (.inl 0) : List vD).getD j (.inl 0))))) H := by
    have e9 : c_e E h (x_cD 13 0) = .inl (E.2.2.2 0, (List.replicate 12 (Sum.inl 0) : List vD).length, .inl (fun j => c_i ((List.replicate 12 (.inl 0) : List vD).getD j (.inl 0)))) := rfl
    rw [List.length_replicate] at e9
    rw [← e9]; exact hv
  exact va_at_i hv (fun j hj => by rw [c_rep hj]; rfl)
set_option maxRecDepth 100000 in
set_option maxHeartbeats 4000000 in
theorem cv_14 {E : xE} {h z k : Nat} {D : va_G} {cl : List vw_C} {H : Heap} (hE : E.2.2.1 = fun r k => h + x_off r k) (hv : va_at D cl (h + x_off 14 k, c_e E h (x_cD 14 k)) H) : va_at D cl (E.2.2.1 14 k, x_cell E 14 k (x_rd (x_s0 z) y_t0 14 k) ((x_s0 z).2.1 14 k)) H := by
  obtain ⟨E1, E2, E3, E4⟩ := E
  have hE : E3 = fun r k => h + x_off r k := hE
  subst hE
  exact hv
set_option maxRecDepth 100000 in
set_option maxHeartbeats 4000000 in
theorem cv_15 {E : xE} {h z k : Nat} {D : va_G} {cl : List vw_C} {H : Heap} (hE : E.2.2.1 = fun r k => h + x_off r k) (hv : va_at D cl (h + x_off 15 k, c_e E h (x_cD 15 k)) H) : va_at D cl (E.2.2.1 15 k, x_cell E 15 k (x_rd (x_s0 z) y_t0 15 k) ((x_s0 z).2.1 15 k)) H := by
  obtain ⟨E1, E2, E3, E4⟩ := E
  have hE : E3 = fun r k => h + x_off r k := hE
  subst hE
  exact hv
set_option maxRecDepth 100000 in
set_option maxHeartbeats 4000000 in
theorem cv_16 {E : xE} {h z k : Nat} {D : va_G} {cl : List vw_C} {H : Heap} (hE : E.2.2.1 = fun r k => h + x_off r k) (hv : va_at D cl (h + x_off 16 k, c_e E h (x_cD 16 k)) H) : va_at D cl (E.2.2.1 16 k, x_cell E 16 k (x_rd (x_s0 z) y_t0 16 k) ((x_s0 z).2.1 16 k)) H := by
  obtain ⟨E1, E2, E3, E4⟩ := E
  have hE : E3 = fun r k => h + x_off r k := hE
  subst hE
  exact hv
set_option maxRecDepth 100000 in
set_option maxHeartbeats 4000000 in
theorem cv_17 {E : xE} {h z k : Nat} {D : va_G} {cl : List vw_C} {H : Heap} (hE : E.2.2.1 = fun r k => h + x_off r k) (hv : va_at D cl (h + x_off 17 k, c_e E h (x_cD 17 k)) H) : va_at D cl (E.2.2.1 17 k, x_cell E 17 k (x_rd (x_s0 z) y_t0 17 k) ((x_s0 z).2.1 17 k)) H := by
  obtain ⟨E1, E2, E3, E4⟩ := E
  have hE : E3 = fun r k => h + x_off r k := hE
  subst hE
  exact hv
set_option maxRecDepth 100000 in
set_option maxHeartbeats 4000000 in
theorem cv_18 {E : xE} {h z k : Nat} {D : va_G} {cl : List vw_C} {H : Heap} (hE : E.2.2.1 = fun r k => h + x_off r k) (hv : va_at D cl (h + x_off 18 k, c_e E h (x_cD 18 k)) H) : va_at D cl (E.2.2.1 18 k, x_cell E 18 k (x_rd (x_s0 z) y_t0 18 k) ((x_s0 z).2.1 18 k)) H := by
  obtain ⟨E1, E2, E3, E4⟩ := E
  have hE : E3 = fun r k => h + x_off r k := hE
  subst hE
  exact hv
set_option maxRecDepth 100000 in
set_option maxHeartbeats 4000000 in
theorem cv_19 {E : xE} {h z k : Nat} {D : va_G} {cl : List vw_C} {H : Heap} (hE : E.2.2.1 = fun r k => h + x_off r k) (hv : va_at D cl (h + x_off 19 k, c_e E h (x_cD 19 k)) H) : va_at D cl (E.2.2.1 19 k, x_cell E 19 k (x_rd (x_s0 z) y_t0 19 k) ((x_s0 z).2.1 19 k)) H := by
  rw [hE]
  have hv : va_at D cl (h + x_off 19 k, .inl (E.2.2.2 0, 4, .inl (fun j => c_i ((List.replicate 4 (.inl 0) : List vD).getD j (.inl 0))))) H := by
    have e9 : c_e E h (x_cD 19 k) = .inl (E.2.2.2 0, (List.replicate 4 (Sum.inl 0) : List vD).length, .inl (fun j => c_i ((List.replicate 4 (.inl 0) : List vD).getD j (.inl 0)))) := rfl
    rw [List.length_replicate] at e9
    rw [← e9]; exact hv
  exact va_at_i hv (fun j hj => by rw [c_rep hj]; rfl)
set_option maxRecDepth 100000 in
set_option maxHeartbeats 4000000 in
theorem cv_20 {E : xE} {h z k : Nat} {D : va_G} {cl : List vw_C} {H : Heap} (hE : E.2.2.1 = fun r k => h + x_off r k) (hv : va_at D cl (h + x_off 20 k, c_e E h (x_cD 20 k)) H) : va_at D cl (E.2.2.1 20 k, x_cell E 20 k (x_rd (x_s0 z) y_t0 20 k) ((x_s0 z).2.1 20 k)) H := by
  rw [hE]
  have hv : va_at D cl (h + x_off 20 k, .inl (E.2.2.2 0, 4, .inl (fun j => c_i ((List.replicate 4 (.inl 0) : List vD).getD j (.inl 0))))) H := by
    have e9 : c_e E h (x_cD 20 k) = .inl (E.2.2.2 0, (List.replicate 4 (Sum.inl 0) : List vD).length, .inl (fun j => c_i ((List.replicate 4 (.inl 0) : List vD).getD j (.inl 0)))) := rfl
    rw [List.length_replicate] at e9
    rw [← e9]; exact hv
  exact va_at_i hv (fun j hj => by rw [c_rep hj]; rfl)
set_option maxRecDepth 100000 in
set_option maxHeartbeats 4000000 in
theorem cv_30 {E : xE} {h z : Nat} {D : va_G} {cl : List vw_C} {H : Heap} (hE : E.2.2.1 = fun r k => h + x_off r k) (hv : va_at D cl (h + x_off 30 0, c_e E h (x_cD 30 0)) H) : va_at D cl (E.2.2.1 30 0, x_cell E 30 0 (x_rd (x_s0 z) y_t0 30 0) ((x_s0 z).2.1 30 0)) H := by
  obtain ⟨E1, E2, E3, E4⟩ := E
  have hE : E3 = fun r k => h + x_off r k := hE
  subst hE
  exact hv
set_option maxRecDepth 100000 in
set_option maxHeartbeats 4000000 in
theorem cv_31 {E : xE} {h z : Nat} {D : va_G} {cl : List vw_C} {H : Heap} (hE : E.2.2.1 = fun r k => h + x_off r k) (hv : va_at D cl (h + x_off 31 0, c_e E h (x_cD 31 0)) H) : va_at D cl (E.2.2.1 31 0, x_cell E 31 0 (x_rd (x_s0 z) y_t0 31 0) ((x_s0 z).2.1 31 0)) H := by
  rw [hE]
  have hv : va_at D cl (h + x_off 31 0, .inl (E.2.2.2 0, 12, .inl (fun j => c_i ((List.replicate 12 (.inl 0) : List vD).getD j (.inl 0))))) H := by
    have e9 : c_e E h (x_cD 31 0) = .inl (E.2.2.2 0, (List.replicate 12 (Sum.inl 0) : List vD).length, .inl (fun j => c_i ((List.replicate 12 (.inl 0) : List vD).getD j (.inl 0)))) := rfl
    rw [List.length_replicate] at e9
    rw [← e9]; exact hv
  exact va_at_i hv (fun j hj => by rw [c_rep hj]; rfl)
set_option maxRecDepth 100000 in
set_option maxHeartbeats 4000000 in
theorem cv_32 {E : xE} {h z : Nat} {D : va_G} {cl : List vw_C} {H : Heap} (hE : E.2.2.1 = fun r k => h + x_off r k) (hv : va_at D cl (h + x_off 32 0, c_e E h (x_cD 32 0)) H) : va_at D cl (E.2.2.1 32 0, x_cell E 32 0 (x_rd (x_s0 z) y_t0 32 0) ((x_s0 z).2.1 32 0)) H := by
  rw [hE]
  have hv : va_at D cl (h + x_off 32 0, .inl (E.2.2.2 1, 12, .inl (fun j => c_i ((List.replicate 12 (.inl 1) : List vD).getD j (.inl 0))))) H := by
    have e9 : c_e E h (x_cD 32 0) = .inl (E.2.2.2 1, (List.replicate 12 (Sum.inl 1) : List vD).length, .inl (fun j => c_i ((List.replicate 12 (.inl 1) : List vD).getD j (.inl 0)))) := rfl
    rw [List.length_replicate] at e9
    rw [← e9]; exact hv
  exact va_at_i hv (fun j hj => by rw [c_rep hj]; rfl)
set_option maxRecDepth 100000 in
set_option maxHeartbeats 4000000 in
theorem cv_33 {E : xE} {h z : Nat} {D : va_G} {cl : List vw_C} {H : Heap} (hE : E.2.2.1 = fun r k => h + x_off r k) (hv : va_at D cl (h + x_off 33 0, c_e E h (x_cD 33 0)) H) : va_at D cl (E.2.2.1 33 0, x_cell E 33 0 (x_rd (x_s0 z) y_t0 33 0) ((x_s0 z).2.1 33 0)) H := by
  rw [hE]
  have hv : va_at D cl (h + x_off 33 0, .inl (E.2.2.2 0, 6, .inl (fun j => c_i ((List.replicate 6 (.inl 0) : List vD).getD j (.inl 0))))) H := by
    have e9 : c_e E h (x_cD 33 0) = .inl (E.2.2.2 0, (List.replicate 6 (Sum.inl 0) : List vD).length, .inl (fun j => c_i ((List.replicate 6 (.inl 0) : List vD).getD j (.inl 0)))) := rfl
    rw [List.length_replicate] at e9
    rw [← e9]; exact hv
  exact va_at_i hv (fun j hj => by rw [c_rep hj]; rfl)
set_option maxRecDepth 100000 in
set_option maxHeartbeats 4000000 in
theorem cv_34 {E : xE} {h z : Nat} {D : va_G} {cl : List vw_C} {H : Heap} (hE : E.2.2.1 = fun r k => h + x_off r k) (hv : va_at D cl (h + x_off 34 0, c_e E h (x_cD 34 0)) H) : va_at D cl (E.2.2.1 34 0, x_cell E 34 0 (x_rd (x_s0 z) y_t0 34 0) ((x_s0 z).2.1 34 0)) H := by
  rw [hE]
  have hv : va_at D cl (h + x_off 34 0, .inl (E.2.2.2 0, 6, .inl (fun j => c_i ((List.replicate 6 (.inl 0) : List vD).getD j (.inl 0))))) H := by
    have e9 : c_e E h (x_cD 34 0) = .inl (E.2.2.2 0, (List.replicate 6 (Sum.inl 0) : List vD).length, .inl (fun j => c_i ((List.replicate 6 (.inl 0) : List vD).getD j (.inl 0)))) := rfl
    rw [List.length_replicate] at e9
    rw [← e9]; exact hv
  exact va_at_i hv (fun j hj => by rw [c_rep hj]; rfl)
set_option maxRecDepth 100000 in
set_option maxHeartbeats 4000000 in
theorem cv_35 {E : xE} {h z : Nat} {D : va_G} {cl : List vw_C} {H : Heap} (hE : E.2.2.1 = fun r k => h + x_off r k) (hv : va_at D cl (h + x_off 35 0, c_e E h (x_cD 35 0)) H) : va_at D cl (E.2.2.1 35 0, x_cell E 35 0 (x_rd (x_s0 z) y_t0 35 0) ((x_s0 z).2.1 35 0)) H := by
  rw [hE]
  have hv : va_at D cl (h + x_off 35 0, .inl (E.2.2.2 0, 120, .inl (fun j => c_i ((List.replicate 120 (.inl 0) : List vD).getD j (.inl 0))))) H := by
    have e9 : c_e E h (x_cD 35 0) = .inl (E.2.2.2 0, (List.replicate 120 (Sum.inl 0) : List vD).length, .inl (fun j => c_i ((List.replicate 120 (.inl 0) : List vD).getD j (.inl 0)))) := rfl
    rw [List.length_replicate] at e9
    rw [← e9]; exact hv
  exact va_at_i hv (fun j hj => by rw [c_rep hj]; rfl)
set_option maxRecDepth 100000 in
set_option maxHeartbeats 4000000 in
theorem cv_36 {E : xE} {h z : Nat} {D : va_G} {cl : List vw_C} {H : Heap} (hE : E.2.2.1 = fun r k => h + x_off r k) (hv : va_at D cl (h + x_off 36 0, c_e E h (x_cD 36 0)) H) : va_at D cl (E.2.2.1 36 0, x_cell E 36 0 (x_rd (x_s0 z) y_t0 36 0) ((x_s0 z).2.1 36 0)) H := by
  rw [hE]
  have hv : va_at D cl (h + x_off 36 0, .inl (E.2.2.2 0, 960, .inl (fun j => c_i ((List.replicate 960 (.inl 0) : List vD).getD j (.inl 0))))) H := by
    have e9 : c_e E h (x_cD 36 0) = .inl (E.2.2.2 0, (List.replicate 960 (Sum.inl 0) : List vD).length, .inl (fun j => c_i ((List.replicate 960 (.inl 0) : List vD).getD j (.inl 0)))) := rfl
    rw [List.length_replicate] at e9
    rw [← e9]; exact hv
  exact va_at_i hv (fun j hj => by rw [c_rep hj]; rfl)
set_option maxRecDepth 100000 in
set_option maxHeartbeats 4000000 in
theorem cv_37 {E : xE} {h z : Nat} {D : va_G} {cl : List vw_C} {H : Heap} (hE : E.2.2.1 = fun r k => h + x_off r k) (hv : va_at D cl (h + x_off 37 0, c_e E h (x_cD 37 0)) H) : va_at D cl (E.2.2.1 37 0, x_cell E 37 0 (x_rd (x_s0 z) y_t0 37 0) ((x_s0 z).2.1 37 0)) H := by
  rw [hE]
  have hv : va_at D cl (h + x_off 37 0, .inl (E.2.2.2 0, 960, .inl (fun j => c_i ((List.replicate 960 (.inl 0) : List vD).getD j (.inl 0))))) H := by
    have e9 : c_e E h (x_cD 37 0) = .inl (E.2.2.2 0, (List.replicate 960 (Sum.inl 0) : List vD).length, .inl (fun j => c_i ((List.replicate 960 (.inl 0) : List vD).getD j (.inl 0)))) := rfl
    rw [List.length_replicate] at e9
    rw [← e9]; exact hv
  exact va_at_i hv (fun j hj => by rw [c_rep hj]; rfl)
set_option maxRecDepth 100000 in
set_option maxHeartbeats 4000000 in
theorem cv_38 {E : xE} {h z : Nat} {D : va_G} {cl : List vw_C} {H : Heap} (hE : E.2.2.1 = fun r k => h + x_off r k) (hv : va_at D cl (h + x_off 38 0, c_e E h (x_cD 38 0)) H) : va_at D cl (E.2.2.1 38 0, x_cell E 38 0 (x_rd (x_s0 z) y_t0 38 0) ((x_s0 z).2.1 38 0)) H := by
  rw [hE]
  have hv : va_at D cl (h + x_off 38 0, .inl (E.2.2.2 0, 40, .inl (fun j => c_i ((List.replicate 40 (.inl 0) : List vD).getD j (.inl 0))))) H := by
    have e9 : c_e E h (x_cD 38 0) = .inl (E.2.2.2 0, (List.replicate 40 (Sum.inl 0) : List vD).length, .inl (fun j => c_i ((List.replicate 40 (.inl 0) : List vD).getD j (.inl 0)))) := rfl
    rw [List.length_replicate] at e9
    rw [← e9]; exact hv
  exact va_at_i hv (fun j hj => by rw [c_rep hj]; rfl)
set_option maxRecDepth 100000 in
set_option maxHeartbeats 4000000 in
theorem cv_39 {E : xE} {h z : Nat} {D : va_G} {cl : List vw_C} {H : Heap} (hE : E.2.2.1 = fun r k => h + x_off r k) (hv : va_at D cl (h + x_off 39 0, c_e E h (x_cD 39 0)) H) : va_at D cl (E.2.2.1 39 0, x_cell E 39 0 (x_rd (x_s0 z) y_t0 39 0) ((x_s0 z).2.1 39 0)) H := by
  rw [hE]
  have hv : va_at D cl (h + x_off 39 0, .inl (E.2.2.2 0, 40, .inl (fun j => c_i ((List.replicate 40 (.inl 0) : List vD).getD j (.inl 0))))) H := by
    have e9 : c_e E h (x_cD 39 0) = .inl (E.2.2.2 0, (List.replicate 40 (Sum.inl 0) : List vD).length, .inl (fun j => c_i ((List.replicate 40 (.inl 0) : List vD).getD j (.inl 0)))) := rfl
    rw [List.length_replicate] at e9
    rw [← e9]; exact hv
  exact va_at_i hv (fun j hj => by rw [c_rep hj]; rfl)
set_option maxRecDepth 100000 in
set_option maxHeartbeats 4000000 in
theorem cv_40 {E : xE} {h z : Nat} {D : va_G} {cl : List vw_C} {H : Heap} (hE : E.2.2.1 = fun r k => h + x_off r k) (hv : va_at D cl (h + x_off 40 0, c_e E h (x_cD 40 0)) H) : va_at D cl (E.2.2.1 40 0, x_cell E 40 0 (x_rd (x_s0 z) y_t0 40 0) ((x_s0 z).2.1 40 0)) H := by
  rw [hE]
  have hv : va_at D cl (h + x_off 40 0, .inl (E.2.2.2 0, 40, .inl (fun j => c_i ((List.replicate 40 (.inl 0) : List vD).getD j (.inl 0))))) H := by
    have e9 : c_e E h (x_cD 40 0) = .inl (E.2.2.2 0, (List.replicate 40 (Sum.inl 0) : List vD).length, .inl (fun j => c_i ((List.replicate 40 (.inl 0) : List vD).getD j (.inl 0)))) := rfl
    rw [List.length_replicate] at e9
    rw [← e9]; exact hv
  exact va_at_i hv (fun j hj => by rw [c_rep hj]; rfl)
set_option maxRecDepth 100000 in
set_option maxHeartbeats 4000000 in
theorem cv_41 {E : xE} {h z : Nat} {D : va_G} {cl : List vw_C} {H : Heap} (hE : E.2.2.1 = fun r k => h + x_off r k) (hv : va_at D cl (h + x_off 41 0, c_e E h (x_cD 41 0)) H) : va_at D cl (E.2.2.1 41 0, x_cell E 41 0 (x_rd (x_s0 z) y_t0 41 0) ((x_s0 z).2.1 41 0)) H := by
  rw [hE]
  have hv : va_at D cl (h + x_off 41 0, .inl (E.2.2.2 0, 40, .inl (fun j => c_i ((List.replicate 40 (.inl 0) : List vD).getD j (.inl 0))))) H := by
    have e9 : c_e E h (x_cD 41 0) = .inl (E.2.2.2 0, (List.replicate 40 (Sum.inl 0) : List vD).length, .inl (fun j => c_i ((List.replicate 40 (.inl 0) : List vD).getD j (.inl 0)))) := rfl
    rw [List.length_replicate] at e9
    rw [← e9]; exact hv
  exact va_at_i hv (fun j hj => by rw [c_rep hj]; rfl)
set_option maxRecDepth 100000 in
set_option maxHeartbeats 4000000 in
theorem cv_42 {E : xE} {h z : Nat} {D : va_G} {cl : List vw_C} {H : Heap} (hE : E.2.2.1 = fun r k => h + x_off r k) (hv : va_at D cl (h + x_off 42 0, c_e E h (x_cD 42 0)) H) : va_at D cl (E.2.2.1 42 0, x_cell E 42 0 (x_rd (x_s0 z) y_t0 42 0) ((x_s0 z).2.1 42 0)) H := by
  rw [hE]
  have hv : va_at D cl (h + x_off 42 0, .inl (E.2.2.2 0, 40, .inl (fun j => c_i ((List.replicate 40 (.inl 0) : List vD).getD j (.inl 0))))) H := by
    have e9 : c_e E h (x_cD 42 0) = .inl (E.2.2.2 0, (List.replicate 40 (Sum.inl 0) : List vD).length, .inl (fun j => c_i ((List.replicate 40 (.inl 0) : List vD).getD j (.inl 0)))) := rfl
    rw [List.length_replicate] at e9
    rw [← e9]; exact hv
  exact va_at_i hv (fun j hj => by rw [c_rep hj]; rfl)
set_option maxRecDepth 100000 in
set_option maxHeartbeats 4000000 in
theorem cv_43 {E : xE} {h z : Nat} {D : va_G} {cl : List vw_C} {H : Heap} (hE : E.2.2.1 = fun r k => h + x_off r k) (hv : va_at D cl (h + x_off 43 0, c_e E h (x_cD 43 0)) H) : va_at D cl (E.2.2.1 43 0, x_cell E 43 0 (x_rd (x_s0 z) y_t0 43 0) ((x_s0 z).2.1 43 0)) H := by
  rw [hE]
  have hv : va_at D cl (h + x_off 43 0, .inl (E.2.2.2 0, 40, .inl (fun j => c_i ((List.replicate 40 (.inl 0) : List vD).getD j (.inl 0))))) H := by
    have e9 : c_e E h (x_cD 43 0) = .inl (E.2.2.2 0, (List.replicate 40 (Sum.inl 0) : List vD).length, .inl (fun j => c_i ((List.replicate 40 (.inl 0) : List vD).getD j (.inl 0)))) := rfl
    rw [List.length_replicate] at e9
    rw [← e9]; exact hv
  exact va_at_i hv (fun j hj => by rw [c_rep hj]; rfl)
set_option maxRecDepth 100000 in
set_option maxHeartbeats 4000000 in
theorem cv_44 {E : xE} {h z : Nat} {D : va_G} {cl : List vw_C} {H : Heap} (hE : E.2.2.1 = fun r k => h + x_off r k) (hv : va_at D cl (h + x_off 44 0, c_e E h (x_cD 44 0)) H) : va_at D cl (E.2.2.1 44 0, x_cell E 44 0 (x_rd (x_s0 z) y_t0 44 0) ((x_s0 z).2.1 44 0)) H := by
  rw [hE]
  have hv : va_at D cl (h + x_off 44 0, .inl (E.2.2.2 1, 40, .inl (fun j => c_i ((List.replicate 40 (.inl 0) : List vD).getD j (.inl 0))))) H := by
    have e9 : c_e E h (x_cD 44 0) = .inl (E.2.2.2 1, (List.replicate 40 (Sum.inl 0) : List vD).length, .inl (fun j => c_i ((List.replicate 40 (.inl 0) : List vD).getD j (.inl 0)))) := rfl
    rw [List.length_replicate] at e9
    rw [← e9]; exact hv
  exact va_at_i hv (fun j hj => by rw [c_rep hj]; rfl)
set_option maxRecDepth 100000 in
set_option maxHeartbeats 4000000 in
theorem cv_45 {E : xE} {h z : Nat} {D : va_G} {cl : List vw_C} {H : Heap} (hE : E.2.2.1 = fun r k => h + x_off r k) (hv : va_at D cl (h + x_off 45 0, c_e E h (x_cD 45 0)) H) : va_at D cl (E.2.2.1 45 0, x_cell E 45 0 (x_rd (x_s0 z) y_t0 45 0) ((x_s0 z).2.1 45 0)) H := by
  rw [hE]
  have hv : va_at D cl (h + x_off 45 0, .inl (E.2.2.2 0, 16, .inl (fun j => c_i ((List.replicate 16 (.inl 0) : List vD).getD j (.inl 0))))) H := by
    have e9 : c_e E h (x_cD 45 0) = .inl (E.2.2.2 0, (List.replicate 16 (Sum.inl 0) : List vD).length, .inl (fun j => c_i ((List.replicate 16 (.inl 0) : List vD).getD j (.inl 0)))) := rfl
    rw [List.length_replicate] at e9
    rw [← e9]; exact hv
  exact va_at_i hv (fun j hj => by rw [c_rep hj]; rfl)
set_option maxRecDepth 100000 in
set_option maxHeartbeats 4000000 in
theorem cv_46 {E : xE} {h z : Nat} {D : va_G} {cl : List vw_C} {H : Heap} (hE : E.2.2.1 = fun r k => h + x_off r k) (hv : va_at D cl (h + x_off 46 0, c_e E h (x_cD 46 0)) H) : va_at D cl (E.2.2.1 46 0, x_cell E 46 0 (x_rd (x_s0 z) y_t0 46 0) ((x_s0 z).2.1 46 0)) H := by
  rw [hE]
  have hv : va_at D cl (h + x_off 46 0, .inl (E.2.2.2 0, 16, .inl (fun j => c_i ((List.replicate 16 (.inl 0) : List vD).getD j (.inl 0))))) H := by
    have e9 : c_e E h (x_cD 46 0) = .inl (E.2.2.2 0, (List.replicate 16 (Sum.inl 0) : List vD).length, .inl (fun j => c_i ((List.replicate 16 (.inl 0) : List vD).getD j (.inl 0)))) := rfl
    rw [List.length_replicate] at e9
    rw [← e9]; exact hv
  exact va_at_i hv (fun j hj => by rw [c_rep hj]; rfl)
set_option maxRecDepth 100000 in
set_option maxHeartbeats 4000000 in
theorem cv_47 {E : xE} {h z : Nat} {D : va_G} {cl : List vw_C} {H : Heap} (hE : E.2.2.1 = fun r k => h + x_off r k) (hv : va_at D cl (h + x_off 47 0, c_e E h (x_cD 47 0)) H) : va_at D cl (E.2.2.1 47 0, x_cell E 47 0 (x_rd (x_s0 z) y_t0 47 0) ((x_s0 z).2.1 47 0)) H := by
  rw [hE]
  have hv : va_at D cl (h + x_off 47 0, .inl (E.2.2.2 0, 17, .inl (fun j => c_i ((List.replicate 17 (.inl 0) : List vD).getD j (.inl 0))))) H := by
    have e9 : c_e E h (x_cD 47 0) = .inl (E.2.2.2 0, (List.replicate 17 (Sum.inl 0) : List vD).length, .inl (fun j => c_i ((List.replicate 17 (.inl 0) : List vD).getD j (.inl 0)))) := rfl
    rw [List.length_replicate] at e9
    rw [← e9]; exact hv
  exact va_at_i hv (fun j hj => by rw [c_rep hj]; rfl)
set_option maxRecDepth 100000 in
set_option maxHeartbeats 4000000 in
theorem cv_48 {E : xE} {h z : Nat} {D : va_G} {cl : List vw_C} {H : Heap} (hE : E.2.2.1 = fun r k => h + x_off r k) (hv : va_at D cl (h + x_off 48 0, c_e E h (x_cD 48 0)) H) : va_at D cl (E.2.2.1 48 0, x_cell E 48 0 (x_rd (x_s0 z) y_t0 48 0) ((x_s0 z).2.1 48 0)) H := by
  rw [hE]
  have hv : va_at D cl (h + x_off 48 0, .inl (E.2.2.2 0, 16, .inl (fun j => c_i ((List.replicate 16 (.inl 0) : List vD).getD j (.inl 0))))) H := by
    have e9 : c_e E h (x_cD 48 0) = .inl (E.2.2.2 0, (List.replicate 16 (Sum.inl 0) : List vD).length, .inl (fun j => c_i ((List.replicate 16 (.inl 0) : List vD).getD j (.inl 0)))) := rfl
    rw [List.length_replicate] at e9
    rw [← e9]; exact hv
  exact va_at_i hv (fun j hj => by rw [c_rep hj]; rfl)
set_option maxRecDepth 100000 in
set_option maxHeartbeats 4000000 in
theorem cv_49 {E : xE} {h z : Nat} {D : va_G} {cl : List vw_C} {H : Heap} (hE : E.2.2.1 = fun r k => h + x_off r k) (hv : va_at D cl (h + x_off 49 0, c_e E h (x_cD 49 0)) H) : va_at D cl (E.2.2.1 49 0, x_cell E 49 0 (x_rd (x_s0 z) y_t0 49 0) ((x_s0 z).2.1 49 0)) H := by
  rw [hE]
  have hv : va_at D cl (h + x_off 49 0, .inl (E.2.2.2 0, 68, .inl (fun j => c_i ((List.replicate 68 (.inl 0) : List vD).getD j (.inl 0))))) H := by
    have e9 : c_e E h (x_cD 49 0) = .inl (E.2.2.2 0, (List.replicate 68 (Sum.inl 0) : List vD).length, .inl (fun j => c_i ((List.replicate 68 (.inl 0) : List vD).getD j (.inl 0)))) := rfl
    rw [List.length_replicate] at e9
    rw [← e9]; exact hv
  exact va_at_i hv (fun j hj => by rw [c_rep hj]; rfl)
set_option maxRecDepth 100000 in
set_option maxHeartbeats 4000000 in
theorem cv_50 {E : xE} {h z : Nat} {D : va_G} {cl : List vw_C} {H : Heap} (hE : E.2.2.1 = fun r k => h + x_off r k) (hv : va_at D cl (h + x_off 50 0, c_e E h (x_cD 50 0)) H) : va_at D cl (E.2.2.1 50 0, x_cell E 50 0 (x_rd (x_s0 z) y_t0 50 0) ((x_s0 z).2.1 50 0)) H := by
  rw [hE]
  have hv : va_at D cl (h + x_off 50 0, .inl (E.2.2.2 0, 68, .inl (fun j => c_i ((List.replicate 68 (.inl 0) : List vD).getD j (.inl 0))))) H := by
    have e9 : c_e E h (x_cD 50 0) = .inl (E.2.2.2 0, (List.replicate 68 (Sum.inl 0) : List vD).length, .inl (fun j => c_i ((List.replicate 68 (.inl 0) : List vD).getD j (.inl 0)))) := rfl
    rw [List.length_replicate] at e9
    rw [← e9]; exact hv
  exact va_at_i hv (fun j hj => by rw [c_rep hj]; rfl)
set_option maxRecDepth 100000 in
set_option maxHeartbeats 4000000 in
theorem cv_51 {E : xE} {h z : Nat} {D : va_G} {cl : List vw_C} {H : Heap} (hE : E.2.2.1 = fun r k => h + x_off r k) (hv : va_at D cl (h + x_off 51 0, c_e E h (x_cD 51 0)) H) : va_at D cl (E.2.2.1 51 0, x_cell E 51 0 (x_rd (x_s0 z) y_t0 51 0) ((x_s0 z).2.1 51 0)) H := by
  rw [hE]
  have hv : va_at D cl (h + x_off 51 0, .inl (E.2.2.2 1, 16, .inl (fun j => c_i ((List.replicate 16 (.inl 0) : List vD).getD j (.inl 0))))) H := by
    have e9 : c_e E h (x_cD 51 0) = .inl (E.2.2.2 1, (List.replicate 16 (Sum.inl 0) : List vD).length, .inl (fun j => c_i ((List.replicate 16 (.inl 0) : List vD).getD j (.inl 0)))) := rfl
    rw [List.length_replicate] at e9
    rw [← e9]; exact hv
  exact va_at_i hv (fun j hj => by rw [c_rep hj]; rfl)
set_option maxRecDepth 100000 in
set_option maxHeartbeats 4000000 in
theorem cv_52 {E : xE} {h z : Nat} {D : va_G} {cl : List vw_C} {H : Heap} (hE : E.2.2.1 = fun r k => h + x_off r k) (hv : va_at D cl (h + x_off 52 0, c_e E h (x_cD 52 0)) H) : va_at D cl (E.2.2.1 52 0, x_cell E 52 0 (x_rd (x_s0 z) y_t0 52 0) ((x_s0 z).2.1 52 0)) H := by
  rw [hE]
  have hv : va_at D cl (h + x_off 52 0, .inl (E.2.2.2 0, 40, .inl (fun j => c_i ((List.replicate 40 (.inl 0) : List vD).getD j (.inl 0))))) H := by
    have e9 : c_e E h (x_cD 52 0) = .inl (E.2.2.2 0, (List.replicate 40 (Sum.inl 0) : List vD).length, .inl (fun j => c_i ((List.replicate 40 (.inl 0) : List vD).getD j (.inl 0)))) := rfl
    rw [List.length_replicate] at e9
    rw [← e9]; exact hv
  exact va_at_i hv (fun j hj => by rw [c_rep hj]; rfl)
set_option maxRecDepth 100000 in
set_option maxHeartbeats 4000000 in
theorem cv_53 {E : xE} {h z : Nat} {D : va_G} {cl : List vw_C} {H : Heap} (hE : E.2.2.1 = fun r k => h + x_off r k) (hv : va_at D cl (h + x_off 53 0, c_e E h (x_cD 53 0)) H) : va_at D cl (E.2.2.1 53 0, x_cell E 53 0 (x_rd (x_s0 z) y_t0 53 0) ((x_s0 z).2.1 53 0)) H := by
  rw [hE]
  have hv : va_at D cl (h + x_off 53 0, .inl (E.2.2.2 0, 40, .inl (fun j => c_i ((List.replicate 40 (.inl 0) : List vD).getD j (.inl 0))))) H := by
    have e9 : c_e E h (x_cD 53 0) = .inl (E.2.2.2 0, (List.replicate 40 (Sum.inl 0) : List vD).length, .inl (fun j => c_i ((List.replicate 40 (.inl 0) : List vD).getD j (.inl 0)))) := rfl
    rw [List.length_replicate] at e9
    rw [← e9]; exact hv
  exact va_at_i hv (fun j hj => by rw [c_rep hj]; rfl)
set_option maxRecDepth 100000 in
set_option maxHeartbeats 4000000 in
theorem cv_54 {E : xE} {h z : Nat} {D : va_G} {cl : List vw_C} {H : Heap} (hE : E.2.2.1 = fun r k => h + x_off r k) (hv : va_at D cl (h + x_off 54 0, c_e E h (x_cD 54 0)) H) : va_at D cl (E.2.2.1 54 0, x_cell E 54 0 (x_rd (x_s0 z) y_t0 54 0) ((x_s0 z).2.1 54 0)) H := by
  rw [hE]
  have hv : va_at D cl (h + x_off 54 0, .inl (E.2.2.2 0, 12, .inl (fun j => c_i ((List.replicate 12 (.inl 0) : List vD).getD j (.inl 0))))) H := by
    have e9 : c_e E h (x_cD 54 0) = .inl (E.2.2.2 0, (List.replicate 12 (Sum.inl 0) : List vD).length, .inl (fun j => c_i ((List.replicate 12 (.inl 0) : List vD).getD j (.inl 0)))) := rfl
    rw [List.length_replicate] at e9
    rw [← e9]; exact hv
  exact va_at_i hv (fun j hj => by rw [c_rep hj]; rfl)
set_option maxRecDepth 100000 in
set_option maxHeartbeats 4000000 in
theorem cv_all {E : xE} {h z q : Nat} {D : va_G} {cl : List vw_C} {H : Heap} (hq : q < 175) (hE : E.2.2.1 = fun r k => h + x_off r k) (hv : va_at D cl (h + x_off (x_dec q).1 (x_dec q).2, c_e E h (x_cD (x_dec q).1 (x_dec q).2)) H) : va_at D cl (x_st E (x_s0 z) y_t0 q) H := by
  unfold x_st
  by_cases h1 : q < 14
  · rcases (show q = 0 ∨ q = 1 ∨ q = 2 ∨ q = 3 ∨ q = 4 ∨ q = 5 ∨ q = 6 ∨ q = 7 ∨ q = 8 ∨ q = 9 ∨ q = 10 ∨ q = 11 ∨ q = 12 ∨ q = 13 by omega) with rfl | rfl | rfl | rfl | rfl | rfl | rfl | rfl | rfl | rfl | rfl | rfl | rfl | rfl
    · exact cv_0 hE hv
    · exact cv_1 hE hv
    · exact cv_2 hE hv
    · exact cv_3 hE hv
    · exact cv_4 hE hv
    · exact cv_5 hE hv
    · exact cv_6 hE hv
    · exact cv_7 hE hv
    · exact cv_8 hE hv
    · exact cv_9 hE hv
    · exact cv_10 hE hv
    · exact cv_11 hE hv
    · exact cv_12 hE hv
    · exact cv_13 hE hv
  by_cases h14 : q < 26
  · obtain ⟨k, rfl⟩ : ∃ k, q = 14 + k := ⟨q - 14, by omega⟩
    have e : x_dec (14 + k) = (14, k) := (at_14 (k := k) (by omega)).1
    rw [e] at hv ⊢
    exact cv_14 hE hv
  by_cases h15 : q < 66
  · obtain ⟨k, rfl⟩ : ∃ k, q = 26 + k := ⟨q - 26, by omega⟩
    have e : x_dec (26 + k) = (15, k) := (at_15 (k := k) (by omega)).1
    rw [e] at hv ⊢
    exact cv_15 hE hv
  by_cases h16 : q < 82
  · obtain ⟨k, rfl⟩ : ∃ k, q = 66 + k := ⟨q - 66, by omega⟩
    have e : x_dec (66 + k) = (16, k) := (at_16 (k := k) (by omega)).1
    rw [e] at hv ⊢
    exact cv_16 hE hv
  by_cases h17 : q < 99
  · obtain ⟨k, rfl⟩ : ∃ k, q = 82 + k := ⟨q - 82, by omega⟩
    have e : x_dec (82 + k) = (17, k) := (at_17 (k := k) (by omega)).1
    rw [e] at hv ⊢
    exact cv_17 hE hv
  by_cases h18 : q < 116
  · obtain ⟨k, rfl⟩ : ∃ k, q = 99 + k := ⟨q - 99, by omega⟩
    have e : x_dec (99 + k) = (18, k) := (at_18 (k := k) (by omega)).1
    rw [e] at hv ⊢
    exact cv_18 hE hv
  by_cases h19 : q < 133
  · obtain ⟨k, rfl⟩ : ∃ k, q = 116 + k := ⟨q - 116, by omega⟩
    have e : x_dec (116 + k) = (19, k) := (at_19 (k := k) (by omega)).1
    rw [e] at hv ⊢
    exact cv_19 hE hv
  by_cases h20 : q < 150
  · obtain ⟨k, rfl⟩ : ∃ k, q = 133 + k := ⟨q - 133, by omega⟩
    have e : x_dec (133 + k) = (20, k) := (at_20 (k := k) (by omega)).1
    rw [e] at hv ⊢
    exact cv_20 hE hv
  rcases (show q = 150 ∨ q = 151 ∨ q = 152 ∨ q = 153 ∨ q = 154 ∨ q = 155 ∨ q = 156 ∨ q = 157 ∨ q = 158 ∨ q = 159 ∨ q = 160 ∨ q = 161 ∨ q = 162 ∨ q = 163 ∨ q = 164 ∨ q = 165 ∨ q = 166 ∨ q = 167 ∨ q = 168 ∨ q = 169 ∨ q = 170 ∨ q = 171 ∨ q = 172 ∨ q = 173 ∨ q = 174 by omega) with rfl | rfl | rfl | rfl | rfl | rfl | rfl | rfl | rfl | rfl | rfl | rfl | rfl | rfl | rfl | rfl | rfl | rfl | rfl | rfl | rfl | rfl | rfl | rfl | rfl
  · exact cv_30 hE hv
  · exact cv_31 hE hv
  · exact cv_32 hE hv
  · exact cv_33 hE hv
  · exact cv_34 hE hv
  · exact cv_35 hE hv
  · exact cv_36 hE hv
  · exact cv_37 hE hv
  · exact cv_38 hE hv
  · exact cv_39 hE hv
  · exact cv_40 hE hv
  · exact cv_41 hE hv
  · exact cv_42 hE hv
  · exact cv_43 hE hv
  · exact cv_44 hE hv
  · exact cv_45 hE hv
  · exact cv_46 hE hv
  · exact cv_47 hE hv
  · exact cv_48 hE hv
  · exact cv_49 hE hv
  · exact cv_50 hE hv
  · exact cv_51 hE hv
  · exact cv_52 hE hv
  · exact cv_53 hE hv
  · exact cv_54 hE hv
def x_inv : List Nat := [0, 1, 2, 3, 4, 5, 115, 132, 149, 6, 7, 26, 27, 28, 29, 30, 31, 32, 33, 34, 35, 36, 37, 38, 39, 40, 41, 42, 43, 44, 45, 46, 47, 48, 49, 50, 51, 52, 53, 54, 55, 56, 57, 58, 59, 60, 61, 62, 63, 64, 65, 8, 9, 10, 11, 12, 13, 98, 14, 15, 16, 17, 18, 19, 20, 21, 22, 23, 24, 25, 66, 82, 99, 116, 133, 67, 83, 100, 117, 134, 68, 84, 101, 118, 135, 69, 85, 102, 119, 136, 70, 86, 103, 120, 137, 71, 87, 104, 121, 138, 72, 88, 105, 122, 139, 73, 89, 106, 123, 140, 74, 90, 107, 124, 141, 75, 91, 108, 125, 142, 76, 92, 109, 126, 143, 77, 93, 110, 127, 144, 78, 94, 111, 128, 145, 79, 95, 112, 129, 146, 80, 96, 113, 130, 147, 81, 97, 114, 131, 148, 150, 151, 152, 153, 154, 155, 156, 157, 158, 159, 160, 161, 162, 163, 164, 165, 166, 167, 168, 169, 170, 171, 172, 173, 174]
set_option maxRecDepth 1000000 in
theorem x_inv_ok : ∀ q, q < 175 → x_inv[x_off (x_dec q).1 (x_dec q).2]? = some q := by decide +kernel
theorem c_to_x {E : xE} {h : Nat} {s : State} {w2 : cS} {H : Heap} {locs : List Loc} (hE : E.2.2.1 = fun r k => h + x_off r k) (hl : w2.length = 175) (hw2 : ∀ q, q < 175 → w2[x_off (x_dec q).1 (x_dec q).2]? = some (x_cD (x_dec q).1 (x_dec q).2)) (hw : cW E h s w2 H locs) : xW E (fun q : Nat => h ≤ q) s (x_s0 (h + 175)) y_t0 H locs := by
  obtain ⟨hP, hS, hz⟩ := hw
  have hx : x_ws E (x_s0 (h + 175)) y_t0 = (List.range 175).map (x_st E (x_s0 (h + 175)) y_t0) := by
    unfold x_ws va_pl
    show _ ++ List.map _ [] = _
    rw [List.map_nil, List.append_nil]
  have hat : ∀ (k : Nat) (q : Nat × va_E), (x_ws E (x_s0 (h + 175)) y_t0)[k]? = some q → k < 175 ∧ q = x_st E (x_s0 (h + 175)) y_t0 k := by
    intro k q hq
    rw [hx] at hq
    have hk : k < 175 := by
      have := (List.getElem?_eq_some_iff.mp hq).1
      simpa using this
    rw [List.getElem?_map, List.getElem?_range hk] at hq
    exact ⟨hk, (Option.some.inj hq).symm⟩
  have had : ∀ k, (x_st E (x_s0 (h + 175)) y_t0 k).1 = h + x_off (x_dec k).1 (x_dec k).2 := fun k => by
    show E.2.2.1 _ _ = _
    rw [hE]
  refine ⟨fun k q hq => ?_, ⟨fun i j p q hi hj e => ?_, fun k q hk => ?_⟩, hS, ?_⟩
  · obtain ⟨hk, rfl⟩ := hat k q hq
    exact cv_all hk hE (hP _ _ (c_at (hw2 k hk)))
  · obtain ⟨hi1, rfl⟩ := hat i p hi
    obtain ⟨hj1, rfl⟩ := hat j q hj
    rw [had, had] at e
    have e2 : x_off (x_dec i).1 (x_dec i).2 = x_off (x_dec j).1 (x_dec j).2 := by omega
    have h1 := x_inv_ok i hi1
    rw [e2, x_inv_ok j hj1] at h1
    exact (Option.some.inj h1).symm
  · obtain ⟨hk1, rfl⟩ := hat k q hk
    rw [had]
    exact Nat.le_add_right _ _
  · rw [hz, hl]; rfl
