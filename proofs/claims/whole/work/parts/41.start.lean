set_option maxRecDepth 100000 in
theorem kcL_9 : xkI x.cls 9 yA_init bA_init 2 0 := ⟨⟨tb_1 (List.mem_of_getElem? (i := 18) rfl), tb_1 (List.mem_of_getElem? (i := 1) rfl), by decide +kernel, by decide⟩, tb_1 (List.mem_of_getElem? (i := 16) rfl), tb_1 (List.mem_of_getElem? (i := 17) rfl), rfl⟩
set_option maxRecDepth 100000 in
theorem kcL_12 : xkI x.cls 12 yM_init bM_init 2 0 := ⟨⟨tb_3 (List.mem_of_getElem? (i := 102) rfl), tb_1 (List.mem_of_getElem? (i := 11) rfl), by decide +kernel, by decide⟩, tb_3 (List.mem_of_getElem? (i := 100) rfl), tb_3 (List.mem_of_getElem? (i := 101) rfl), rfl⟩
set_option maxRecDepth 100000 in
theorem vL_7 : Cond.classLink x.cls 7 RxA ∈ Tb := tb_1 (List.mem_of_getElem? (i := 14) rfl)
set_option maxRecDepth 100000 in
theorem vL_10 : Cond.classLink x.cls 10 RxM ∈ Tb := tb_3 (List.mem_of_getElem? (i := 98) rfl)
theorem ar_int {s : State} (hT : TbOK s) {ty : FieldType} (h : Cond.arrayClass ty ∈ Tb) (hra : ∀ (U : State) (cA : ClassId), U.vm.findClass ("[" ++ ty.toString) = some cA → va_RA U cA ty) : ∃ c : ClassId, ArrOfT s c ty ∧ va_RA s c ty := by
  obtain ⟨c, k, comp, h1, h2, h3⟩ := Cond.arrayClass_spec (hT _ h)
  exact ⟨c, fun n z => ⟨fun k h => (by cases h), k, h2, comp, h3⟩, hra s c h1⟩
theorem ar_obj {s : State} (hT : TbOK s) {C : String} (h : Cond.arrayOver (.object C) ∈ Tb) : ∃ c : ClassId, ArrOfT s c (.object C) ∧ va_RA s c (.object C) := by
  obtain ⟨comp, c, k, h0, -, h2, h3, h4⟩ := Cond.arrayOver_spec (hT _ h)
  exact ⟨c, fun n z => ⟨fun k h => (by cases h), k, h2, comp, h3⟩, k, comp, h2, h3, h0, h4⟩
set_option maxHeartbeats 4000000 in
set_option maxRecDepth 100000 in
/-- every class of the system has its number and its slots, every array class its number -/
theorem start_E {s : State} (hT : TbOK s) (ad : Nat → Nat → Nat) : ∃ E : xE, E.2.2.1 = ad ∧ va_K (xG E) vwCl (xTys E) s := by
  have hts : ∀ w ∈ Tb, w.before #[] s = true := fun w h => tb_use h (hT w h)
  have hk : ∀ k : Nat, ∃ y : ClassId × (Nat → Nat), ∀ q : vw_C, vwCl[k]? = some q → u_Kn s q.1 q.2.1 q.2.2 y.1 y.2 := by
    intro k
    match k with
    | 0 =>
      obtain ⟨c, i, h⟩ := u_known (C := RxA) (T := TxA) (N := 18) (n := 18) hts i_A (hts _ in1_A)
      exact ⟨(c, i), fun q hq => by cases hq; exact h⟩
    | 1 =>
      obtain ⟨c, i, h⟩ := u_known (C := RxK) (T := TxK) (N := 2) (n := 2) hts i_K (hts _ in1_K)
      exact ⟨(c, i), fun q hq => by cases hq; exact h⟩
    | 2 =>
      obtain ⟨c, i, h⟩ := u_known (C := RxB) (T := TxB) (N := 3) (n := 3) hts i_B (hts _ in1_B)
      exact ⟨(c, i), fun q hq => by cases hq; exact h⟩
    | 3 =>
      obtain ⟨c, i, h⟩ := u_known (C := RxF) (T := TxF) (N := 5) (n := 5) hts i_F (hts _ in1_F)
      exact ⟨(c, i), fun q hq => by cases hq; exact h⟩
    | 4 =>
      obtain ⟨c, i, h⟩ := u_known (C := RxC) (T := TxC) (N := 4) (n := 4) hts i_C (hts _ in1_C)
      exact ⟨(c, i), fun q hq => by cases hq; exact h⟩
    | 5 =>
      obtain ⟨c, i, h⟩ := u_known (C := RxD) (T := TxD) (N := 2) (n := 2) hts i_D (hts _ in1_D)
      exact ⟨(c, i), fun q hq => by cases hq; exact h⟩
    | 6 =>
      obtain ⟨c, i, h⟩ := u_known (C := RxN) (T := TxN) (N := 7) (n := 7) hts i_N (hts _ in1_N)
      exact ⟨(c, i), fun q hq => by cases hq; exact h⟩
    | 7 =>
      obtain ⟨c, i, h⟩ := u_known (C := RxT) (T := TxT) (N := 5) (n := 5) hts i_T (hts _ in1_T)
      exact ⟨(c, i), fun q hq => by cases hq; exact h⟩
    | 8 =>
      obtain ⟨c, i, h⟩ := u_known (C := RxP) (T := TxP) (N := 4) (n := 4) hts i_P (hts _ in1_P)
      exact ⟨(c, i), fun q hq => by cases hq; exact h⟩
    | 9 =>
      obtain ⟨c, i, h⟩ := u_known (C := RxQ) (T := TxQ) (N := 3) (n := 3) hts i_Q (hts _ in1_Q)
      exact ⟨(c, i), fun q hq => by cases hq; exact h⟩
    | 10 =>
      obtain ⟨c, i, h⟩ := u_known (C := RxH) (T := TxH) (N := 5) (n := 5) hts i_H (hts _ wH_inst)
      exact ⟨(c, i), fun q hq => by cases hq; exact h⟩
    | 11 =>
      obtain ⟨c, i, h⟩ := u_known (C := RxM) (T := TxM) (N := 39) (n := 39) hts i_M (hts _ in1_M)
      exact ⟨(c, i), fun q hq => by cases hq; exact h⟩
    | k + 12 => exact ⟨(0, fun _ => 0), fun q hq => by simp [vwCl] at hq⟩
  obtain ⟨f, hf⟩ := Classical.axiomOfChoice hk
  obtain ⟨a0, b0⟩ := ar_int hT ac_0 (fun _ _ h => h)
  obtain ⟨a1, b1⟩ := ar_int hT ac_1 (fun _ _ h => h)
  obtain ⟨a2, b2⟩ := ar_obj hT ao_2
  obtain ⟨a3, b3⟩ := ar_obj hT ao_3
  obtain ⟨a4, b4⟩ := ar_obj hT ao_4
  obtain ⟨a5, b5⟩ := ar_obj hT ao_5
  refine ⟨(fun k => (f k).1, fun k => (f k).2, ad, fun t => if t = 0 then a0 else if t = 1 then a1 else if t = 2 then a2 else if t = 3 then a3 else if t = 4 then a4 else a5), rfl, fun c q hq => hf c q hq, fun k q hq => ?_⟩
  match k, hq with
  | 0, hq => cases hq; exact b0
  | 1, hq => cases hq; exact b1
  | 2, hq => cases hq; exact b2
  | 3, hq => cases hq; exact b3
  | 4, hq => cases hq; exact b4
  | 5, hq => cases hq; exact b5
  | k + 6, hq => simp [xTys] at hq
set_option maxHeartbeats 4000000 in
set_option maxRecDepth 100000 in
/-- the law from its entry, over the facts of a relation that every step keeps -/
theorem start_open {p : Program} {e : Env} {s : State} {m : MethodId} {below : List Frame} {meth : Method} {c : Code} (l : Launch) {b L : Nat} {xs : Nat → Int32} (hL : L ≤ 2560) (C0 : lw_At p s m meth c b L xs) {N : Nat} {Rel : Nat → xS → yS → Prop} (hG : xGood N Rel) (h0 : ∀ z, Rel 0 (x_s0 z) y_t0) : W p l e room_1 s m #[Value.ref b] below meth c s.heap [] 0 0 (lw_Z below #[Value.ref b] s) (entryFrame m ([Value.ref b] : List Value).toArray 4) := by
  obtain ⟨hx, hb, hr, hml, hown, hts, hX, hbl, hlocks, hgv⟩ := C0
  have hT : TbOK s := fun w hw => tb_of hw (hts w (List.mem_filter.mp hw).1)
  obtain ⟨E, hE, hK⟩ := start_E hT (fun r k => s.heap.size + x_off r k)
  have C : xC p s m #[Value.ref b] meth c room_1 E (fun q : Nat => s.heap.size ≤ q) code 4 x ret 30 607491 7279775 := ⟨hx, hb, hml, hown, fun h => absurd h (by decide), ⟨hT, hK⟩, fun _ h => h, hr, hlocks, by decide, by decide, by decide, by decide⟩
  obtain ⟨w1, w2, hw1, hl1, hw2, hl2, hq2⟩ := g_start
  have hl := lv_entry ([.ref b]) (n := 4) (Nat.le_of_ble_eq_true rfl)
  rw [lg_entry_eq]
  generalize (lg_sl ([.ref b]) ++ List.replicate (4 - (lg_sl ([.ref b])).length) Slot.unset).toArray = ls at hl ⊢
  have hl : lv_has ls 4 [(0, .ref b)] := hl
  have hw : cW E s.heap.size s [] s.heap [] := ⟨fun k q hq => by simp [c_ws] at hq, va_S.rf, rfl⟩
  refine c_rnew (ci := 0) (vs := [.inr none, .inr none, .inr none, .inl 0, .inr none, .inr none, .inr none, .inr none, .inl 0, .inr none, .inr none, .inr none, .inl 0, .inl 0, .inl 0, .inl 0, .inl 0, .inl 0]) C hw rfl vL_7 in1_A in2_A ⟨by decide, born_A s.heap.size⟩ ⟨by decide, by decide⟩ dL_0 (fun H hw => ?_)
  refine lv_dup hx hb dL_3 rfl ?_
  have hw : cW E s.heap.size s g_w0 H [] := hw
  refine c_callI (a := 0) (rest := [.ref (s.heap.size + 0)]) C hw (uA_init l E s.heap.size g_w0 0 w1 hw1) kcL_9 (by decide) rfl hl.1 (lv_room (Nat.le_of_ble_eq_true rfl)) dL_4 ⟨by decide, by decide⟩ (fun H locs hw => ?_)
  refine lv_astore_n (lv' := [(1, .ref (s.heap.size + 0)), (0, .ref b)]) hx hb dL_7 rfl hl (by decide) rfl (fun ls hl => ?_)
  refine c_rnew (ci := 11) (vs := [.inr none, .inr none, .inr none, .inr none, .inl 0, .inr none, .inr none, .inr none, .inl 0, .inl 0, .inl 0, .inl 0, .inl 0, .inr none, .inr none, .inr none, .inr none, .inr none, .inr none, .inr none, .inl 0, .inl 0, .inr none, .inr none, .inr none, .inr none, .inr none, .inr none, .inr none, .inl 0, .inl 0, .inl 0, .inr none, .inr none, .inr none, .inl 0, .inl 0, .inl 0, .inl 0]) C hw rfl vL_10 in1_M in2_M ⟨by decide, born_M s.heap.size⟩ ⟨by decide, by decide⟩ dL_8 (fun H hw => ?_)
  rw [hl1]
  refine lv_dup hx hb dL_11 rfl ?_
  refine c_callI (a := 150) (rest := [.ref (s.heap.size + 150)]) C hw (uM_init l E s.heap.size (w1 ++ [g_m0]) 150 w2 hw2) kcL_12 (by decide) rfl hl.1 (lv_room (Nat.le_of_ble_eq_true rfl)) dL_12 ⟨by decide, by decide⟩ (fun H locs hw => ?_)
  refine lv_astore_n (lv' := [(2, .ref (s.heap.size + 150)), (1, .ref (s.heap.size + 0)), (0, .ref b)]) hx hb dL_15 rfl hl (by decide) rfl (fun ls hl => ?_)
  refine lv_iconst (v := 0) hx hb dL_16 (by decide) ?_
  refine lv_istore_n (lv' := [(3, .int 0), (2, .ref (s.heap.size + 150)), (1, .ref (s.heap.size + 0)), (0, .ref b)]) hx hb dL_17 rfl hl (by decide) rfl (fun ls hl => ?_)
  have hw := c_to_x hE hl2 hq2 hw
  refine W.widen (k := 2000 + 2 * 0) (n := 20000 + 10 * 0) (by decide) (by decide) ?_
  refine law_loop C hX hbl hG hL hlocks 513 0 (by decide) (by decide) _ _ (h0 _) H locs ls hw ?_
  have e1 : E.2.2.1 0 0 = s.heap.size + 0 := by rw [hE]; rfl
  have e2 : E.2.2.1 30 0 = s.heap.size + 150 := by rw [hE]; rfl
  rw [e1, e2]
  exact lv_sub hl [3, 2, 1, 0] rfl
