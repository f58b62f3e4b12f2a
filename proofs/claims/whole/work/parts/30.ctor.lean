/-! Constructors: the world as a closed list of cells by offsets from h. -/
abbrev vD : Type := Int32 ⊕ Option Nat
abbrev cS : Type := List (Nat × List (Int32 ⊕ Option Nat))
def c_v (h : Nat) (v : vD) : Value := match v with
  | .inl x => .int x
  | .inr o => va_rf (o.map (h + ·))
def c_i (v : vD) : Int32 := match v with
  | .inl x => x
  | .inr _ => 0
def c_r (h : Nat) (v : vD) : Option Nat := match v with
  | .inl _ => none
  | .inr o => o.map (h + ·)
def c_e (E : xE) (h : Nat) (c : Nat × List vD) : va_E := if c.1 < 20 then .inr (c.1, c.2.map (c_v h)) else if c.1 < 22 then .inl (E.2.2.2 (c.1 - 20), c.2.length, .inl (fun j => c_i (c.2.getD j (.inl 0)))) else .inl (E.2.2.2 (c.1 - 20), c.2.length, .inr (.inr (.inr (.inr (fun j => c_r h (c.2.getD j (.inr none)))))))
def c_ws (E : xE) (h : Nat) (w : cS) : va_W := (List.range w.length).map (fun a => (h + a, c_e E h (w.getD a (0, []))))
theorem c_len (E : xE) (h : Nat) (w : cS) : (c_ws E h w).length = w.length := by simp [c_ws]
theorem c_at {E : xE} {h a : Nat} {w : cS} {c : Nat × List vD} (hc : w[a]? = some c) : (c_ws E h w)[a]? = some (h + a, c_e E h c) := by
  have hl := (List.getElem?_eq_some_iff.mp hc).1
  unfold c_ws
  rw [List.getElem?_map, List.getElem?_range hl]
  simp [List.getD, hc]
theorem c_set {E : xE} {h a : Nat} {w : cS} {c : Nat × List vD} (hl : a < w.length) : (c_ws E h w).set a (h + a, c_e E h c) = c_ws E h (w.set a c) := by
  refine List.ext_getElem? (fun i => ?_)
  by_cases hi : i = a
  · subst hi
    rw [List.getElem?_set_self (by rw [c_len]; exact hl), c_at (c := c) (by rw [List.getElem?_set_self hl])]
  · rw [List.getElem?_set_ne (Ne.symm hi)]
    by_cases hw : i < w.length
    · have e1 : w[i]? = some w[i] := List.getElem?_eq_getElem hw
      rw [c_at e1, c_at (c := w[i]) (by rw [List.getElem?_set_ne (Ne.symm hi), e1])]
    · rw [List.getElem?_eq_none (by rw [c_len]; omega), List.getElem?_eq_none (by rw [c_len, List.length_set]; omega)]
theorem c_push {E : xE} {h : Nat} {w : cS} {c : Nat × List vD} : c_ws E h w ++ [(h + w.length, c_e E h c)] = c_ws E h (w ++ [c]) := by
  refine List.ext_getElem? (fun i => ?_)
  by_cases hw : i < w.length
  · have e1 : w[i]? = some w[i] := List.getElem?_eq_getElem hw
    rw [List.getElem?_append_left (by rw [c_len]; exact hw), c_at e1, c_at (c := w[i]) (by rw [List.getElem?_append_left hw, e1])]
  · by_cases he : i = w.length
    · subst he
      rw [List.getElem?_append_right (by rw [c_len]; exact Nat.le_refl _), c_len, c_at (c := c) (by rw [List.getElem?_append_right (Nat.le_refl _)]; simp)]
      simp
    · rw [List.getElem?_eq_none (by rw [List.length_append, c_len]; simp; omega), List.getElem?_eq_none (by rw [c_len, List.length_append]; simp; omega)]
theorem c_ix {E : xE} {h i : Nat} {w : cS} {q : Nat × va_E} (hq : (c_ws E h w)[i]? = some q) : i < w.length ∧ q.1 = h + i := by
  have hl := (List.getElem?_eq_some_iff.mp hq).1
  rw [c_len] at hl
  have e1 : w[i]? = some w[i] := List.getElem?_eq_getElem hl
  rw [c_at e1] at hq
  cases hq
  exact ⟨hl, rfl⟩
theorem c_D {E : xE} {h : Nat} {w : cS} : va_D (fun q : Nat => h ≤ q) (c_ws E h w) := by
  refine ⟨fun i j p q hi hj e => ?_, fun k q hk => ?_⟩
  · have h1 := (c_ix hi).2
    have h2 := (c_ix hj).2
    omega
  · have h1 := (c_ix hk).2
    show h ≤ q.1
    omega
def c_get (w : cS) (a k j : Nat) : Option vD := match w[a]? with
  | none => none
  | some c => if c.1 = k then c.2[j]? else none
def c_put (w : cS) (a k j : Nat) (v : vD) : Option cS := match w[a]? with
  | none => none
  | some c => if c.1 = k ∧ j < c.2.length then some (w.set a (k, c.2.set j v)) else none
def c_arr (w : cS) (a k : Nat) : Option Nat := match w[a]? with
  | none => none
  | some c => if c.1 = k then some c.2.length else none
theorem c_getE {w : cS} {a k j : Nat} {v : vD} (h : c_get w a k j = some v) : ∃ vs, w[a]? = some (k, vs) ∧ vs[j]? = some v := by
  unfold c_get at h
  cases hc : w[a]? with
  | none => rw [hc] at h; cases h
  | some c =>
    rw [hc] at h
    dsimp only at h
    by_cases hk : c.1 = k
    · rw [if_pos hk] at h; subst hk; exact ⟨c.2, rfl, h⟩
    · rw [if_neg hk] at h; cases h
theorem c_putE {w w' : cS} {a k j : Nat} {v : vD} (h : c_put w a k j v = some w') : ∃ vs, w[a]? = some (k, vs) ∧ j < vs.length ∧ w' = w.set a (k, vs.set j v) := by
  unfold c_put at h
  cases hc : w[a]? with
  | none => rw [hc] at h; cases h
  | some c =>
    rw [hc] at h
    dsimp only at h
    by_cases hk : c.1 = k ∧ j < c.2.length
    · rw [if_pos hk] at h
      obtain ⟨hk1, hk2⟩ := hk
      subst hk1
      exact ⟨c.2, rfl, hk2, (Option.some.inj h).symm⟩
    · rw [if_neg hk] at h; cases h
theorem c_arrE {w : cS} {a k n : Nat} (h : c_arr w a k = some n) : ∃ vs, w[a]? = some (k, vs) ∧ vs.length = n := by
  unfold c_arr at h
  cases hc : w[a]? with
  | none => rw [hc] at h; cases h
  | some c =>
    rw [hc] at h
    dsimp only at h
    by_cases hk : c.1 = k
    · rw [if_pos hk] at h; subst hk; exact ⟨c.2, rfl, Option.some.inj h⟩
    · rw [if_neg hk] at h; cases h
def cPre (E : xE) (h : Nat) (w : cS) : State → Prop := fun U => U.heap.size = h + w.length ∧ va_P (xG E) vwCl (c_ws E h w) U.heap ∧ va_K (xG E) vwCl (xTys E) U ∧ TbOK U
def cQ (E : xE) (h : Nat) (w : cS) : Array Value → State → Outcome → State → Prop := fun _ st oc t => oc = .returned none ∧ (va_P (xG E) vwCl (c_ws E h w) t.heap ∧ t.heap.size = h + w.length) ∧ va_F (fun q : Nat => h ≤ q) st t
def cM (l : Launch) (E : xE) (y : MethodName) (cc : ByteArray) (nL d mc ms h a : Nat) (w w' : cS) : Prop :=
  Met l y [.code y cc nL none] (xRm d mc ms) (va_Pc [.ref (h + a)] (cPre E h w)) (cQ E h w') mc ms (fun q : Nat => h ≤ q)
def cW (E : xE) (h : Nat) (s : State) (w : cS) (H : Heap) (locs : List Loc) : Prop := va_P (xG E) vwCl (c_ws E h w) H ∧ va_S (fun q : Nat => h ≤ q) s.heap H locs ∧ H.size = h + w.length
section CR
variable {p : Program} {l : Launch} {e : Env} {R : Room} {s : State} {m : MethodId} {args : Array Value} {below : List Frame} {meth : Method} {c : Code} {H : Heap} {locs : List Loc} {cells slots : Nat} {Q : State → Prop}
variable {E : xE} {cc : ByteArray} {nL : Nat} {y : MethodName} {ret : Option FieldType} {d mc ms h : Nat} {w : cS} {pc : Nat} {ls : Array Slot} {rest : List Value}
theorem c_met {a : Nat} {w' : cS} (hy : plainName y.cls = true) (hn : 1 ≤ nL)
    (body : ∀ (p : Program) (e : Env) (R : Room) (s : State) (m : MethodId) (args : Array Value) (below : List Frame) (meth : Method) (c : Code) (ls : Array Slot) (H : Heap) (locs : List Loc), xC p s m args meth c R E (fun q : Nat => h ≤ q) cc nL y none d mc ms → cW E h s w H locs → lv_has ls nL [(0, .ref (h + a))] → W p l e R s m args below meth c H locs 0 0 (MQ below (cQ E h w') args s mc ms (fun q : Nat => h ≤ q)) (F0 m 0 ls [])) : cM l E y cc nL d mc ms h a w w' := by
  refine Met.ofW (cc := cc) (maxL := nL) (ret := none) hy rfl ?_
  intro p e s m args below meth c s₁ B hml hv
  obtain ⟨rfl, hsz, hP, hK, hT⟩ := hv
  have hl := lv_entry [.ref (h + a)] (n := nL) hn
  rw [lg_entry_eq]
  generalize (lg_sl [Value.ref (h + a)] ++ List.replicate (nL - (lg_sl [Value.ref (h + a)]).length) Slot.unset).toArray = ls at hl ⊢
  exact body p e (xRm d mc ms) s m _ below meth c ls s.heap [] ⟨B.exec, B.bytes, hml, findClass_of_methodNamed B.named, fun h => (name_of_methodNamed B.named B.method).1.trans h, ⟨hT, hK⟩, fun q hq => by show h ≤ q; omega, B.returns, B.notSynchronized, Nat.le_refl _, Nat.le_refl _, Nat.le_refl _, Nat.le_refl _⟩ ⟨hP, va_S.rf, hsz⟩ hl
theorem c_vret (C : xC p s m args meth c R E (fun q : Nat => h ≤ q) cc nL y none d mc ms) (hw : cW E h s w H locs) (hdg : decode cc pc = .ok (.return_, 1)) : W p l e R s m args below meth c H locs cells slots (MQ below (cQ E h w) args s cells slots (fun q : Nat => h ≤ q)) (F0 m pc ls []) := by
  obtain ⟨hP, hS, hz⟩ := hw
  exact W.vret C.1 C.2.1 C.re (fun t ht _ => ⟨rfl, ⟨by rw [ht]; exact hP, by rw [ht]; exact hz⟩, hS.F ht⟩) hS.2.2 hdg C.lk
/-- a field, read: a reference -/
theorem c_rget (C : xC p s m args meth c R E (fun q : Nat => h ≤ q) cc nL y ret d mc ms) (hw : cW E h s w H locs) {a ci j b N index : Nat} {Cn : String} {T : u_T} (hg : c_get w a ci j = some (.inr (some b))) (hc : vwCl[ci]? = some (Cn, T, N)) (hj : j < N ∧ ci < 20) (hl : Cond.fieldLink y.cls index (T j).1 (T j).2.1 (T j).2.2.1 ∈ Tb) (hdg : decode cc pc = .ok (.getfield index, 3))
    (kk : W p l e R s m args below meth c H locs cells slots Q (F0 m (pc + 3) ls (.ref (h + b) :: rest))) : W p l e R s m args below meth c H locs cells slots Q (F0 m pc ls (.ref (h + a) :: rest)) := by
  obtain ⟨vs, h1, h2⟩ := c_getE hg
  have ha : (c_ws E h w)[a]? = some (h + a, .inr (ci, vs.map (c_v h))) := by rw [c_at h1]; unfold c_e; rw [if_pos hj.2]
  exact va_get C.1 C.2.1 (Ts := Tb) (fun _ h => C.tb h) (tb_lay hc) C.own C.K hw.1 a ha hc j hj.1 (C.tb hl) (fun _ h => h) (by rw [List.getElem?_map, h2]; rfl) hdg kk
/-- a field, written -/
theorem c_rput (C : xC p s m args meth c R E (fun q : Nat => h ≤ q) cc nL y ret d mc ms) (hw : cW E h s w H locs) {a ci j N index : Nat} {v : vD} {w' : cS} {Cn ds : String} {T : u_T} {ty : FieldType} (hg : c_put w a ci j v = some w') (hc : vwCl[ci]? = some (Cn, T, N)) (hT : (T j).2.2.1 = ds ∧ ((T j).2.2.2 = false ∨ ((T j).2.2.2 = true ∧ y.name = "<init>" ∧ (T j).1 = y.cls))) (hd : parseFieldDescriptor ds = some ty) (hn : narrow ty (c_v h v) = c_v h v ∧ fits ty (c_v h v) = true) (hj : j < N ∧ ci < 20) (hl : Cond.fieldLink y.cls index (T j).1 (T j).2.1 (T j).2.2.1 ∈ Tb) (hdg : decode cc pc = .ok (.putfield index, 3))
    (kk : ∀ (H : Heap) (locs : List Loc), cW E h s w' H locs → W p l e R s m args below meth c H locs cells slots Q (F0 m (pc + 3) ls rest)) : W p l e R s m args below meth c H locs cells slots Q (F0 m pc ls (c_v h v :: .ref (h + a) :: rest)) := by
  obtain ⟨vs, h1, h2, rfl⟩ := c_putE hg
  obtain ⟨hP, hS, hz⟩ := hw
  have hal := (List.getElem?_eq_some_iff.mp h1).1
  have ha : (c_ws E h w)[a]? = some (h + a, .inr (ci, vs.map (c_v h))) := by rw [c_at h1]; unfold c_e; rw [if_pos hj.2]
  have fin : ∀ (H1 : Heap) (locs1 : List Loc), va_P (xG E) vwCl ((c_ws E h w).set a (h + a, .inr (ci, (vs.map (c_v h)).set j (c_v h v)))) H1 → va_D (fun q : Nat => h ≤ q) ((c_ws E h w).set a (h + a, .inr (ci, (vs.map (c_v h)).set j (c_v h v)))) → va_S (fun q : Nat => h ≤ q) s.heap H1 locs1 → H1.size = H.size → W p l e R s m args below meth c H1 locs1 cells slots Q (F0 m (pc + 3) ls rest) := by
    intro H1 locs1 g1 g2 g3 g4
    rw [show ((h + a, Sum.inr (ci, (vs.map (c_v h)).set j (c_v h v))) : Nat × va_E) = (h + a, c_e E h (ci, vs.set j v)) by unfold c_e; rw [if_pos hj.2]; simp [List.map_set], c_set hal] at g1
    exact kk H1 locs1 ⟨g1, g3, by rw [g4, hz, List.length_set]⟩
  rcases hT with ⟨hT1, hT2 | ⟨hT2, hT3, hT4⟩⟩
  · exact x_putG C hP c_D hS a ha hc hj.1 hl hT2 (by rw [hT1]; exact hd) hn.1 hn.2 (by rw [List.length_map]; exact h2) hdg fin
  · exact x_putGF C hT3 hP c_D hS a ha hc hj.1 hl hT2 hT4 (by rw [hT1]; exact hd) hn.1 hn.2 (by rw [List.length_map]; exact h2) hdg fin
/-- a new object -/
theorem c_rnew (C : xC p s m args meth c R E (fun q : Nat => h ≤ q) cc nL y ret d mc ms) (hw : cW E h s w H locs) {ci N index : Nat} {Cn : String} {T : u_T} {vs : List vD} (hc : vwCl[ci]? = some (Cn, T, N)) (hl : Cond.classLink y.cls index Cn ∈ Tb) (hi1 : Cond.instantiable Cn N ∈ Tb) (hi2 : Cond.initialized Cn ∈ Tb) (hv : ci < 20 ∧ ∀ j, j < N → defaultValue (tb_ty T j) = vp_V (vs.map (c_v h)) j) (hm : cells + 1 ≤ mc ∧ slots + N ≤ ms) (hdg : decode cc pc = .ok (.new index, 3))
    (kk : ∀ H : Heap, cW E h s (w ++ [(ci, vs)]) H locs → W p l e R s m args below meth c H locs (cells + 1) (slots + N) Q (F0 m (pc + 3) ls (.ref (h + w.length) :: rest))) : W p l e R s m args below meth c H locs cells slots Q (F0 m pc ls rest) := by
  obtain ⟨hP, hS, hz⟩ := hw
  have hKn := C.K.1 ci _ hc
  obtain ⟨-, -, m1, m2⟩ := C.rm
  refine W.newcK C.1 C.2.1 C.own (C.tb hl) (C.tb hi1) (C.tb hi2) rfl hdg (by omega) (by omega) hKn.2.1 hz fun H1 kC hkC e1 z1 o1 => ?_
  have hlt : ∀ (k : Nat) (x : Nat × va_E), (c_ws E h w)[k]? = some x → x.1 < h + w.length := fun k x hx => by rw [← hz]; exact (hP k x hx).lt
  have hP1 : va_P (xG E) vwCl (c_ws E h w ++ [(h + w.length, .inr (ci, vs.map (c_v h)))]) H1 := by
    refine (hP.kept (fun k x hx => o1 x.1 (hlt k x hx))).app (fun k x hx => ?_)
    have hk0 : k < 1 := (List.getElem?_eq_some_iff.mp hx).1
    rw [show k = 0 by omega] at hx
    cases hx
    exact ⟨_, hc, (u_born (tb_ty T) (fun _ h => C.tb h) (tb_lay hc) hKn hkC e1 (tb_tyok hc)).to hv.2⟩
  rw [show ((h + w.length, Sum.inr (ci, vs.map (c_v h))) : Nat × va_E) = (h + w.length, c_e E h (ci, vs)) by unfold c_e; rw [if_pos hv.1], c_push] at hP1
  refine kk H1 ⟨hP1, ⟨by rw [z1]; have := hS.1; omega, fun q g1 g2 => (o1 q (by have := hS.1; omega)).trans (hS.2.1 q g1 g2), hS.2.2⟩, ?_⟩
  rw [z1, List.length_append]; rfl
/-- a new array of numbers (t 0: int, 1: boolean) -/
theorem c_rnewa (C : xC p s m args meth c R E (fun q : Nat => h ≤ q) cc nL y ret d mc ms) (hw : cW E h s w H locs) (t : Nat) {ty : FieldType} {atype : ArrayType} {n : Int32} {N : Nat} (ht : (xTys E)[t]? = some (E.2.2.2 t, ty) ∧ t < 2) (hty : newarray.typeOf atype = ty ∧ defaultValue ty = .int 0 ∧ (∀ (U : State) (cA : ClassId), va_RA U cA ty → U.vm.findClass ("[" ++ ty.toString) = some cA)) (harr : Cond.arrayClass ty ∈ Tb) (hn : ¬ n < 0 ∧ n.toNatClampNeg = N ∧ N * componentBytes ty ≤ 536870912) (hm : cells + 1 ≤ mc ∧ slots + N ≤ ms) (hdg : decode cc pc = .ok (.newarray atype, 2))
    (kk : ∀ H : Heap, cW E h s (w ++ [(20 + t, List.replicate N (.inl 0))]) H locs → W p l e R s m args below meth c H locs (cells + 1) (slots + N) Q (F0 m (pc + 2) ls (.ref (h + w.length) :: rest))) : W p l e R s m args below meth c H locs cells slots Q (F0 m pc ls (.int n :: rest)) := by
  obtain ⟨hP, hS, hz⟩ := hw
  obtain ⟨rfl, hdf, hra⟩ := hty
  obtain ⟨-, -, m1, m2⟩ := C.rm
  refine va_newaK C.1 C.2.1 (C.tb harr) rfl hdg rfl hn.1 hn.2.1 hn.2.2 (by omega) (by omega) hz fun H1 cA e1 z1 o1 hAr hNm => ?_
  have hcA : cA = E.2.2.2 t := Option.some.inj (hNm.symm.trans (hra s _ (C.K.2 t _ ht.1).2))
  subst hcA
  have hlt : ∀ (k : Nat) (x : Nat × va_E), (c_ws E h w)[k]? = some x → x.1 < h + w.length := fun k x hx => by rw [← hz]; exact (hP k x hx).lt
  have hP1 : va_P (xG E) vwCl (c_ws E h w ++ [(h + w.length, c_e E h (20 + t, List.replicate N (.inl 0)))]) H1 := by
    refine (hP.kept (fun k x hx => o1 x.1 (hlt k x hx))).app (fun k x hx => ?_)
    have hk0 : k < 1 := (List.getElem?_eq_some_iff.mp hx).1
    rw [show k = 0 by omega] at hx
    cases hx
    have ht2 := ht.2
    unfold c_e
    rw [if_neg (by show ¬ 20 + t < 20; omega), if_pos (by show 20 + t < 22; omega)]
    show H1[_]? = some (vp_cell _ _)
    rw [vp_cell_i, e1, hdf, show 20 + t - 20 = t by omega, List.length_replicate]
    congr 2
    funext j
    congr 1
    show 0 = c_i _
    by_cases hjn : j < N
    · simp [List.getD, hjn, c_i]
    · simp [List.getD, hjn, c_i]
  rw [c_push] at hP1
  refine kk H1 ⟨hP1, ⟨by rw [z1]; have := hS.1; omega, fun q g1 g2 => (o1 q (by have := hS.1; omega)).trans (hS.2.1 q g1 g2), hS.2.2⟩, ?_⟩
  rw [z1, List.length_append]; rfl
/-- a new array of references -/
theorem c_ranew (C : xC p s m args meth c R E (fun q : Nat => h ≤ q) cc nL y ret d mc ms) (hw : cW E h s w H locs) (t : Nat) {Cn : String} {index : Nat} {n : Int32} {N : Nat} (ht : (xTys E)[t]? = some (E.2.2.2 t, .object Cn) ∧ 2 ≤ t) (hl : Cond.classLink y.cls index Cn ∈ Tb) (harr : Cond.arrayOver (.object Cn) ∈ Tb) (hn : ¬ n < 0 ∧ n.toNatClampNeg = N ∧ N * 4 ≤ 536870912) (hm : cells + 1 ≤ mc ∧ slots + N ≤ ms) (hdg : decode cc pc = .ok (.anewarray index, 3))
    (kk : ∀ H : Heap, cW E h s (w ++ [(20 + t, List.replicate N (.inr none))]) H locs → W p l e R s m args below meth c H locs (cells + 1) (slots + N) Q (F0 m (pc + 3) ls (.ref (h + w.length) :: rest))) : W p l e R s m args below meth c H locs cells slots Q (F0 m pc ls (.int n :: rest)) := by
  obtain ⟨hP, hS, hz⟩ := hw
  obtain ⟨-, -, m1, m2⟩ := C.rm
  obtain ⟨n1, n2, n3⟩ := hn
  subst n2
  refine W.anew C.1 C.2.1 C.own (C.tb hl) (C.tb harr) rfl hdg rfl n1 n3 (by omega) (by omega) fun cA kA comp f1 f2 f3 f4 => ?_
  obtain ⟨kA', comp', g1, g2, g3, g4⟩ := (C.K.2 t _ ht.1).2
  have hcA : cA = E.2.2.2 t := Option.some.inj (f1.symm.trans g4)
  subst hcA
  generalize hH1 : H.push ({ cls := E.2.2.2 t, slots := Array.replicate n.toNatClampNeg .null, vm := .none } : Cell) = H1
  have z1 : H1.size = H.size + 1 := by rw [← hH1, Array.size_push]
  have e1 : H1[H.size]? = some (arrV (E.2.2.2 t) n.toNatClampNeg (fun _ => .null)) := by rw [← hH1, Array.getElem?_push_size, ← arrV_new]
  have o1 : ∀ q : Nat, q < H.size → H1[q]? = H[q]? := fun q hq => by rw [← hH1, Array.getElem?_push, if_neg (Nat.ne_of_lt hq)]
  rw [hz] at e1 z1 o1 ⊢
  have hlt : ∀ (k : Nat) (x : Nat × va_E), (c_ws E h w)[k]? = some x → x.1 < h + w.length := fun k x hx => by rw [← hz]; exact (hP k x hx).lt
  have hP1 : va_P (xG E) vwCl (c_ws E h w ++ [(h + w.length, c_e E h (20 + t, List.replicate n.toNatClampNeg (.inr none)))]) H1 := by
    refine (hP.kept (fun k x hx => o1 x.1 (hlt k x hx))).app (fun k x hx => ?_)
    have hk0 : k < 1 := (List.getElem?_eq_some_iff.mp hx).1
    rw [show k = 0 by omega] at hx
    cases hx
    have ht2 := ht.2
    unfold c_e
    rw [if_neg (by show ¬ 20 + t < 20; omega), if_neg (by show ¬ 20 + t < 22; omega)]
    show H1[_]? = some (vp_cell _ _)
    rw [vp_cell_q, e1, show 20 + t - 20 = t by omega, List.length_replicate]
    congr 2
    funext j
    show Value.null = va_rf (c_r h _)
    by_cases hjn : j < n.toNatClampNeg
    · simp [List.getD, hjn, c_r, va_rf]
    · simp [List.getD, hjn, c_r, va_rf]
  rw [c_push] at hP1
  refine kk H1 ⟨hP1, ⟨by rw [z1]; have := hS.1; omega, fun q g1 g2 => (o1 q (by have := hS.1; omega)).trans (hS.2.1 q g1 g2), hS.2.2⟩, ?_⟩
  rw [z1, List.length_append]; rfl
theorem c_rlen (C : xC p s m args meth c R E (fun q : Nat => h ≤ q) cc nL y ret d mc ms) (hw : cW E h s w H locs) (t : Nat) {a n : Nat} {Cn : String} (hg : c_arr w a (20 + t) = some n) (ht : (xTys E)[t]? = some (E.2.2.2 t, .object Cn) ∧ 2 ≤ t) (hdg : decode cc pc = .ok (.arraylength, 1))
    (kk : W p l e R s m args below meth c H locs cells slots Q (F0 m (pc + 1) ls (.int (nI n) :: rest))) : W p l e R s m args below meth c H locs cells slots Q (F0 m pc ls (.ref (h + a) :: rest)) := by
  obtain ⟨vs, h1, h2⟩ := c_arrE hg
  have ha := c_at (E := E) (h := h) h1
  have ht2 := ht.2
  unfold c_e at ha
  rw [if_neg (by show ¬ 20 + t < 20; omega), if_neg (by show ¬ 20 + t < 22; omega), show 20 + t - 20 = t by omega] at ha
  exact va_alen C.1 C.2.1 C.K hw.1 a t ha ht.1 (by show Int32.ofNat vs.length = nI n; rw [h2]; rfl) hdg kk
theorem c_raast (C : xC p s m args meth c R E (fun q : Nat => h ≤ q) cc nL y ret d mc ms) (hw : cW E h s w H locs) (t ci : Nat) {a b n N : Nat} {i : Int32} {w' : cS} {Cn : String} {T : u_T} {vb : List vD} (hlen : c_arr w a (20 + t) = some n) (hin : ¬ (i < 0 ∨ n ≤ i.toNatClampNeg)) (hg : c_put w a (20 + t) i.toNatClampNeg (.inr (some b)) = some w') (hb : w[b]? = some (ci, vb)) (hc : vwCl[ci]? = some (Cn, T, N)) (ht : (xTys E)[t]? = some (E.2.2.2 t, .object Cn) ∧ 2 ≤ t ∧ ci < 20) (hdg : decode cc pc = .ok (.aastore, 1))
    (kk : ∀ (H : Heap) (locs : List Loc), cW E h s w' H locs → W p l e R s m args below meth c H locs cells slots Q (F0 m (pc + 1) ls rest)) : W p l e R s m args below meth c H locs cells slots Q (F0 m pc ls (.ref (h + b) :: .int i :: .ref (h + a) :: rest)) := by
  obtain ⟨vs, h1, h2, rfl⟩ := c_putE hg
  obtain ⟨vs', h1', h2'⟩ := c_arrE hlen
  cases h1.symm.trans h1'
  subst h2'
  obtain ⟨hP, hS, hz⟩ := hw
  have hal := (List.getElem?_eq_some_iff.mp h1).1
  obtain ⟨ht1, ht2, ht3⟩ := ht
  have e20 : ∀ u : List vD, c_e E h (20 + t, u) = .inl (E.2.2.2 t, u.length, .inr (.inr (.inr (.inr (fun j => c_r h (u.getD j (.inr none))))))) := by
    intro u
    unfold c_e
    rw [if_neg (by show ¬ 20 + t < 20; omega), if_neg (by show ¬ 20 + t < 22; omega), show 20 + t - 20 = t by omega]
  have ha := c_at (E := E) (h := h) h1
  rw [e20] at ha
  have hv := c_at (E := E) (h := h) hb
  unfold c_e at hv
  rw [if_pos ht3] at hv
  obtain ⟨r', hr', cellV, g1, g2, g3, -⟩ := hP b _ hv
  have hcls := (C.K.1 ci _ hc).2
  obtain ⟨kA, comp, k1, k2, k3, -⟩ := (C.K.2 t _ ht1).2
  have hcomp : comp = (xG E).1 ci := Option.some.inj (k3.symm.trans hcls.1)
  subst hcomp
  obtain ⟨kC, hkC, -⟩ := hcls.2
  refine W.aast C.1 C.2.1 (hP _ _ ha) (fun q h => by cases h) (fun h => by cases h) k1 k2 rfl hkC ⟨fun q => hin (Or.inl q), by show _ < (arrV _ _ _).slots.size; rw [arrV_size]; exact h2⟩ g1 (fun q h => by rw [g3] at h; cases h) (by rw [g2]; exact hkC) (by rw [g2]; exact va_assign hcls) rfl rfl hdg fun H1 e1 z1 oq => ?_
  have hP1 := hP.set (e := c_e E h (20 + t, vs.set i.toNatClampNeg (.inr (some b)))) c_D ha (by
    rw [e20]
    show H1[_]? = some (vp_cell _ _)
    rw [e1, vp_cell_q, vp_cell_q, arrV_store, List.length_set]
    congr 2
    funext q
    by_cases hq : q = i.toNatClampNeg
    · subst hq
      simp [updV, List.getD, h2, c_r, va_rf]
    · simp [updV, hq, List.getD, List.getElem?_set_ne (Ne.symm hq)]) oq
  rw [c_set hal] at hP1
  exact kk H1 _ ⟨hP1, hS.put z1 oq (c_D.2 _ _ ha), by rw [z1, hz, List.length_set]⟩
/-- a place of an array of booleans, written -/
theorem c_rbast (C : xC p s m args meth c R E (fun q : Nat => h ≤ q) cc nL y ret d mc ms) (hw : cW E h s w H locs) {a n : Nat} {i x : Int32} {w' : cS} (hlen : c_arr w a 21 = some n) (hin : ¬ (i < 0 ∨ n ≤ i.toNatClampNeg)) (hx1 : x = 0 ∨ x = 1) (hg : c_put w a 21 i.toNatClampNeg (.inl x) = some w') (hdg : decode cc pc = .ok (.bastore, 1))
    (kk : ∀ (H : Heap) (locs : List Loc), cW E h s w' H locs → W p l e R s m args below meth c H locs cells slots Q (F0 m (pc + 1) ls rest)) : W p l e R s m args below meth c H locs cells slots Q (F0 m pc ls (.int x :: .int i :: .ref (h + a) :: rest)) := by
  obtain ⟨vs, h1, h2, rfl⟩ := c_putE hg
  obtain ⟨vs', h1', h2'⟩ := c_arrE hlen
  cases h1.symm.trans h1'
  subst h2'
  obtain ⟨hP, hS, hz⟩ := hw
  have hal := (List.getElem?_eq_some_iff.mp h1).1
  have ha : (c_ws E h w)[a]? = some (h + a, .inl (E.2.2.2 1, vs.length, .inl (fun j => c_i (vs.getD j (.inl 0))))) := c_at h1
  refine W.zast C.1 C.2.1 (hP _ _ ha) ((C.K.2 1 _ rfl).1 vs.length (fun j => .int (c_i (vs.getD j (.inl 0))))) (fun q => by cases q) (by show ¬ (i < 0 ∨ (arrV _ _ _).slots.size ≤ _); rw [arrV_size]; exact hin) rfl rfl hdg fun H1 e1 z1 oq => ?_
  rw [x_nz hx1] at e1
  have hP1 := hP.set (e := c_e E h (21, vs.set i.toNatClampNeg (.inl x))) c_D ha (by
    show H1[_]? = some (vp_cell (E.2.2.2 1) ((vs.set i.toNatClampNeg (.inl x)).length, .inl (fun j => c_i ((vs.set i.toNatClampNeg (.inl x)).getD j (.inl 0)))))
    rw [e1, vp_cell_i, vp_cell_i, arrV_store, List.length_set]
    congr 2
    funext q
    by_cases hq : q = i.toNatClampNeg
    · subst hq
      simp [updV, List.getD, h2, c_i]
    · simp [updV, hq, List.getD, List.getElem?_set_ne (Ne.symm hq)]) oq
  rw [c_set hal] at hP1
  exact kk H1 _ ⟨hP1, hS.put z1 oq (c_D.2 _ _ ha), by rw [z1, hz, List.length_set]⟩
/-- a constructor, called -/
theorem c_after (C : xC p s m args meth c R E (fun q : Nat => h ≤ q) cc nL y ret d mc ms) (hw : cW E h s w H locs) {w' : cS} {mc' ms' : Nat} {st0 : List Value} {a : Array Value} (hr : va_Run p l e R s m args below meth c H locs cells slots mc' ms' (F0 m pc ls st0) rest (cQ E h w' a) (fun q : Nat => h ≤ q))
    (kk : ∀ (H : Heap) (locs : List Loc), cW E h s w' H locs → W p l e R s m args below meth c H locs (cells + mc') (slots + ms') Q (F0 m (pc + 3) ls rest)) : W p l e R s m args below meth c H locs cells slots Q (F0 m pc ls st0) := by
  obtain ⟨hP, hS, hz⟩ := hw
  intro T hT X
  obtain ⟨v, st₀, t, T', L, h0, X', hL, e1, e2, ⟨hv, ⟨hP1, hz1⟩, hF1, hF2⟩, st⟩ := hr T hT X
  cases hv
  rw [h0] at hF1 hF2
  obtain ⟨t2, a1, b1⟩ := kk T'.heap (locs ++ L) ⟨by rw [e1]; exact hP1, ⟨Nat.le_trans hS.1 (by rw [e1]; exact hF1), fun q g1 g2 => by rw [e1, hF2 q (Nat.lt_of_lt_of_le g1 hS.1) g2]; exact hS.2.1 q g1 g2, fun q hq => by
      rcases List.mem_append.mp hq with h | h
      · exact hS.2.2 q h
      · exact hL q h⟩, by rw [e1]; exact hz1⟩ T' rfl X'
  exact ⟨t2, st t2 a1, b1⟩
theorem c_preS (C : xC p s m args meth c R E (fun q : Nat => h ≤ q) cc nL y ret d mc ms) (hw : cW E h s w H locs) (As : List Value) : PreS s H (va_Pc As (cPre E h w)) As := by
  obtain ⟨hP, hS, hz⟩ := hw
  refine ⟨fun a U g mk q => ?_, fun U hU hW => ⟨rfl, by rw [hU]; exact hz, by rw [hU]; exact hP, va_K.moved hW.alike C.K, C.T.warm hW⟩⟩
  obtain ⟨q0, q1, qP, qK, qT⟩ := q
  exact ⟨q0, q1, qP, va_K.moved (u := U) (U := U.calling g mk a) (Vm.Alike.refl U.vm) qK, qT.calling⟩
theorem c_callIN {y' : MethodName} {cc' : ByteArray} {nL' d' mc' ms' index a : Nat} {st0 : List Value} {w' : cS} (C : xC p s m args meth c R E (fun q : Nat => h ≤ q) cc nL y ret d mc ms) (hw : cW E h s w H locs) (hM : cM l E y' cc' nL' d' mc' ms' h a w w') (hk : xkIN y.cls index y' cc' nL' 0) (hd : d' + 1 ≤ d) (hst : st0 = .ref (h + a) :: rest) (hs : ls.size = nL) (hro : 2 * (F0 m pc ls st0).monitorRoom + (rest.map fun v => v.category).sum ≤ 8) (hdg : decode cc pc = .ok (.invokespecial index, 3)) (hms : cells + mc' ≤ mc ∧ slots + ms' ≤ ms)
    (kk : ∀ (H : Heap) (locs : List Loc), cW E h s w' H locs → W p l e R s m args below meth c H locs (cells + mc') (slots + ms') Q (F0 m (pc + 3) ls rest)) : W p l e R s m args below meth c H locs cells slots Q (F0 m pc ls st0) := by
  obtain ⟨-, -, m1, m2⟩ := C.rm
  exact c_after C hw (va_runIN (As := []) C.fix hM ⟨x_CN C hk.1 hk.2.1 hd, hk.2.2.2, C.tb hk.2.2.1⟩ (c_preS C hw _) rfl rfl hs hst hro hdg ⟨by omega, by omega⟩) kk
def xkI (own : String) (index : Nat) (y : MethodName) (cc : ByteArray) (nL n : Nat) : Prop := xk y cc nL none n ∧ Cond.methodLink own index y ∈ Tb ∧ Cond.instanceMethod y ∈ Tb ∧ y.name = "<init>"
theorem c_callI {y' : MethodName} {cc' : ByteArray} {nL' d' mc' ms' index a : Nat} {st0 : List Value} {w' : cS} (C : xC p s m args meth c R E (fun q : Nat => h ≤ q) cc nL y ret d mc ms) (hw : cW E h s w H locs) (hM : cM l E y' cc' nL' d' mc' ms' h a w w') (hk : xkI y.cls index y' cc' nL' 0) (hd : d' + 1 ≤ d) (hst : st0 = .ref (h + a) :: rest) (hs : ls.size = nL) (hro : 2 * (F0 m pc ls st0).monitorRoom + (rest.map fun v => v.category).sum ≤ 8) (hdg : decode cc pc = .ok (.invokespecial index, 3)) (hms : cells + mc' ≤ mc ∧ slots + ms' ≤ ms)
    (kk : ∀ (H : Heap) (locs : List Loc), cW E h s w' H locs → W p l e R s m args below meth c H locs (cells + mc') (slots + ms') Q (F0 m (pc + 3) ls rest)) : W p l e R s m args below meth c H locs cells slots Q (F0 m pc ls st0) := by
  obtain ⟨-, -, m1, m2⟩ := C.rm
  exact c_after C hw (va_runI (As := []) C.fix hM ⟨x_CB C hk.1 hk.2.1 hd, hk.2.2.2, C.tb hk.2.2.1⟩ (c_preS C hw _) rfl rfl hs hst hro hdg ⟨by omega, by omega⟩) kk
end CR
