/-! Contracts and rows over the world. -/
abbrev xG (E : xE) : va_G := (E.1, E.2.1)
def TbOK (U : State) : Prop := ∀ w ∈ Tb, va_Nw w U
theorem TbOK.warm {s U : State} (hW : s.WarmedH U.vm) (h : TbOK s) : TbOK U := by
  intro w hw
  have h0 := h w hw
  have hk := tb_ok w hw
  unfold tb_okw at hk
  split at hk
  · exact va_Nw.warmF hW h0
  · exact va_Nw.warmM hW h0
  · exact word_at hW (Or.inr ⟨_, rfl⟩) h0
  · exact va_AO.moved hW.alike h0
  · exact word_at hW (Or.inl hk) h0
theorem tb_use {w : Cond} (hw : w ∈ Tb) {B : Array Value} {U : State} (h : va_Nw w U) : w.before B U = true := by
  have hk := tb_on w hw
  unfold tb_onw at hk
  split at hk
  · exact h
  · exact h
  · exact va_Nw.use hk h
theorem tb_of {w : Cond} (hw : w ∈ Tb) {B : Array Value} {U : State} (h : w.before B U = true) : va_Nw w U := by
  have hk := tb_on w hw
  unfold tb_onw at hk
  split at hk
  · exact h
  · exact h
  · exact va_Nw.of hk h
theorem TbOK.calling {U : State} {g : JFrame} {mk : MethodId} {B : Array Value} (h : TbOK U) : TbOK (U.calling g mk B) := by
  intro w hw
  have h0 := h w hw
  have hk := tb_on w hw
  unfold tb_onw at hk
  split at hk
  · exact h0
  · exact h0
  · exact va_Nw.same hk (u := U) rfl h0
def xRm (d mc ms : Nat) : Room := { frames := d, cells := mc, slots := ms, locals := 100 * d }
def xPre (E : xE) (σ : xS) (τ : yS) : State → Prop := fun U => U.heap.size = σ.2.2.2 ∧ va_P (xG E) vwCl (x_ws E σ τ) U.heap ∧ (va_K (xG E) vwCl (xTys E) U ∧ TbOK U) ∧ va_D (fun _ => True) (x_ws E σ τ)
def xQ (E : xE) (A : Nat → Prop) (rv : Option Value) (σ : xS) (τ : yS) : Array Value → State → Outcome → State → Prop := fun _ st oc t => oc = .returned rv ∧ (va_P (xG E) vwCl (x_ws E σ τ) t.heap ∧ va_D A (x_ws E σ τ) ∧ t.heap.size = σ.2.2.2) ∧ va_F A st t
def xA (E : xE) (σ : xS) (τ : yS) : Nat → Prop := va_A (x_ws E σ τ) σ.2.2.2
def xM (l : Launch) (E : xE) (y : MethodName) (cc : ByteArray) (nL : Nat) (ret : Option FieldType) (d mc ms : Nat) (av : List Value) (σ : xS) (τ : yS) (rv : Option Value) (σ' : xS) (τ' : yS) : Prop :=
  Met l y [.code y cc nL ret] (xRm d mc ms) (va_Pc av (xPre E σ τ)) (xQ E (xA E σ τ) rv σ' τ') mc ms (xA E σ τ)
def xC (p : Program) (s : State) (m : MethodId) (args : Array Value) (meth : Method) (c : Code) (R : Room) (E : xE) (A : Nat → Prop) (cc : ByteArray) (nL : Nat) (y : MethodName) (ret : Option FieldType) (d mc ms : Nat) : Prop :=
  p.tables.exec = Jvm.exec ∧ c.code = cc ∧ c.maxLocals = nL ∧ s.vm.findClass y.cls = some m.cls ∧ (y.name = "<init>" → meth.name = "<init>") ∧ (TbOK s ∧ va_K (xG E) vwCl (xTys E) s) ∧ (∀ q, s.heap.size ≤ q → A q) ∧ meth.sig.returnType = ret ∧ meth.locks = false ∧ d ≤ R.frames ∧ 100 * d ≤ R.locals ∧ mc ≤ R.cells ∧ ms ≤ R.slots
def xW (E : xE) (A : Nat → Prop) (s : State) (σ : xS) (τ : yS) (H : Heap) (locs : List Loc) : Prop := va_P (xG E) vwCl (x_ws E σ τ) H ∧ va_D A (x_ws E σ τ) ∧ va_S A s.heap H locs ∧ H.size = σ.2.2.2
section XR
variable {p : Program} {l : Launch} {e : Env} {R : Room} {s : State} {m : MethodId} {args : Array Value} {below : List Frame} {meth : Method} {c : Code} {H : Heap} {locs : List Loc} {cells slots : Nat} {Q : State → Prop}
variable {E : xE} {A : Nat → Prop} {cc : ByteArray} {nL : Nat} {y : MethodName} {ret : Option FieldType} {d mc ms : Nat} {σ : xS} {τ : yS} {pc : Nat} {ls : Array Slot} {rest : List Value}
theorem xC.own (C : xC p s m args meth c R E A cc nL y ret d mc ms) : s.vm.findClass y.cls = some m.cls := C.2.2.2.1
theorem xC.K (C : xC p s m args meth c R E A cc nL y ret d mc ms) : va_K (xG E) vwCl (xTys E) s := C.2.2.2.2.2.1.2
theorem xC.T (C : xC p s m args meth c R E A cc nL y ret d mc ms) : TbOK s := C.2.2.2.2.2.1.1
theorem xC.A0 (C : xC p s m args meth c R E A cc nL y ret d mc ms) : ∀ q, s.heap.size ≤ q → A q := C.2.2.2.2.2.2.1
theorem xC.re (C : xC p s m args meth c R E A cc nL y ret d mc ms) : meth.sig.returnType = ret := C.2.2.2.2.2.2.2.1
theorem xC.lk (C : xC p s m args meth c R E A cc nL y ret d mc ms) : meth.locks = false := C.2.2.2.2.2.2.2.2.1
theorem xC.rm (C : xC p s m args meth c R E A cc nL y ret d mc ms) : d ≤ R.frames ∧ 100 * d ≤ R.locals ∧ mc ≤ R.cells ∧ ms ≤ R.slots := C.2.2.2.2.2.2.2.2.2
theorem xC.tb (C : xC p s m args meth c R E A cc nL y ret d mc ms) {w : Cond} (h : w ∈ Tb) : w.before args s = true := tb_use h (C.T w h)
theorem x_met {av : List Value} {rv : Option Value} {σ' : xS} {τ' : yS} (hy : plainName y.cls = true) (hn : (lg_sl av).length ≤ nL)
    (body : ∀ (p : Program) (e : Env) (R : Room) (s : State) (m : MethodId) (args : Array Value) (below : List Frame) (meth : Method) (c : Code) (A : Nat → Prop) (ls : Array Slot) (H : Heap) (locs : List Loc), xC p s m args meth c R E A cc nL y ret d mc ms → xW E A s σ τ H locs → lv_has ls nL (lv_args 0 av) → W p l e R s m args below meth c H locs 0 0 (MQ below (xQ E A rv σ' τ') args s mc ms A) (F0 m 0 ls [])) : xM l E y cc nL ret d mc ms av σ τ rv σ' τ' := by
  refine Met.ofW (cc := cc) (maxL := nL) (ret := ret) hy rfl ?_
  intro p e s m args below meth c s₁ B hml hv
  obtain ⟨rfl, hsz, hP, ⟨hK, hT⟩, hD0⟩ := hv
  have hl := lv_entry av (n := nL) hn
  rw [lg_entry_eq]
  generalize (lg_sl av ++ List.replicate (nL - (lg_sl av).length) Slot.unset).toArray = ls at hl ⊢
  refine body p e (xRm d mc ms) s m av.toArray below meth c (xA E σ τ) ls s.heap [] ⟨B.exec, B.bytes, hml, findClass_of_methodNamed B.named, fun h => (name_of_methodNamed B.named B.method).1.trans h, ⟨hT, hK⟩, fun q h => Or.inr (by rw [← hsz]; exact h), B.returns, B.notSynchronized, Nat.le_refl _, Nat.le_refl _, Nat.le_refl _, Nat.le_refl _⟩ ⟨hP, hD0.self, va_S.rf, hsz⟩ hl
-- the end of a method
theorem x_qend {rv : Option Value} (hw : xW E A s σ τ H locs) : ∀ t : State, t.heap = H → s.WarmedH t.vm → xQ E A rv σ τ args s (.returned rv) t := by
  intro t ht hW
  obtain ⟨hP, hD, hS, hz⟩ := hw
  exact ⟨rfl, ⟨by rw [ht]; exact hP, hD, by rw [ht]; exact hz⟩, hS.F ht⟩
theorem x_iret {v : Int32} (C : xC p s m args meth c R E A cc nL y (some .int) d mc ms) (hw : xW E A s σ τ H locs) (hdg : decode cc pc = .ok (.ireturn, 1)) : W p l e R s m args below meth c H locs cells slots (MQ below (xQ E A (some (.int v)) σ τ) args s cells slots A) (F0 m pc ls [.int v]) :=
  W.iret C.1 C.2.1 C.re (x_qend hw) hw.2.2.1.2.2 hdg C.lk
theorem x_zret {v : Int32} (C : xC p s m args meth c R E A cc nL y (some .boolean) d mc ms) (hw : xW E A s σ τ H locs) (hz : narrow .boolean (.int v) = .int v) (hdg : decode cc pc = .ok (.ireturn, 1)) : W p l e R s m args below meth c H locs cells slots (MQ below (xQ E A (some (.int v)) σ τ) args s cells slots A) (F0 m pc ls [.int v]) :=
  W.zret C.1 C.2.1 C.re hz (x_qend hw) hw.2.2.1.2.2 hdg C.lk
theorem x_lret {v : Int64} (C : xC p s m args meth c R E A cc nL y (some .long) d mc ms) (hw : xW E A s σ τ H locs) (hdg : decode cc pc = .ok (.lreturn, 1)) : W p l e R s m args below meth c H locs cells slots (MQ below (xQ E A (some (.long v)) σ τ) args s cells slots A) (F0 m pc ls [.long v]) :=
  W.lret C.1 C.2.1 C.re (x_qend hw) hw.2.2.1.2.2 hdg C.lk
theorem x_vret (C : xC p s m args meth c R E A cc nL y none d mc ms) (hw : xW E A s σ τ H locs) (hdg : decode cc pc = .ok (.return_, 1)) : W p l e R s m args below meth c H locs cells slots (MQ below (xQ E A none σ τ) args s cells slots A) (F0 m pc ls []) :=
  W.vret C.1 C.2.1 C.re (x_qend hw) hw.2.2.1.2.2 hdg C.lk
theorem x_aret {v : Value} {cn : String} (C : xC p s m args meth c R E A cc nL y (some (.object cn)) d mc ms) (hw : xW E A s σ τ H locs) (hv : v = .null ∨ ∃ a, v = .ref a) (hdg : decode cc pc = .ok (.areturn, 1)) : W p l e R s m args below meth c H locs cells slots (MQ below (xQ E A (some v) σ τ) args s cells slots A) (F0 m pc ls [v]) :=
  W.aret C.1 C.2.1 C.re (Or.inl ⟨cn, rfl⟩) hv (x_qend hw) hw.2.2.1.2.2 hdg C.lk
-- locals and nulls
theorem x_null (hx : p.tables.exec = Jvm.exec) (hb : c.code = cc) (hdg : decode cc pc = .ok (.aconst_null, 1)) (k : W p l e R s m args below meth c H locs cells slots Q (F0 m (pc + 1) ls (va_rf none :: rest))) : W p l e R s m args below meth c H locs cells slots Q (F0 m pc ls rest) := lv_null hx hb hdg k
theorem x_aload_n (hx : p.tables.exec = Jvm.exec) (hb : c.code = cc) {k : Fin 4} {i : Nat} {o : Option Nat} (hdg : decode cc pc = .ok (.aload_n k, 1)) (hi : (k : Nat) = i) (hl : ls[i]? = some (.val (va_rf o)))
    (kk : W p l e R s m args below meth c H locs cells slots Q (F0 m (pc + 1) ls (va_rf o :: rest))) : W p l e R s m args below meth c H locs cells slots Q (F0 m pc ls rest) := by
  cases o with
  | none => exact lv_aload_nN hx hb hdg hi hl kk
  | some a => exact lv_aload_n hx hb hdg hi hl kk
theorem x_aload (hx : p.tables.exec = Jvm.exec) (hb : c.code = cc) {i : Nat} {o : Option Nat} (hdg : decode cc pc = .ok (.aload i, 2)) (hl : ls[i]? = some (.val (va_rf o)))
    (kk : W p l e R s m args below meth c H locs cells slots Q (F0 m (pc + 2) ls (va_rf o :: rest))) : W p l e R s m args below meth c H locs cells slots Q (F0 m pc ls rest) := by
  cases o with
  | none => exact lv_aloadN hx hb hdg hl kk
  | some a => exact lv_aload hx hb hdg hl kk
theorem x_astore_n (hx : p.tables.exec = Jvm.exec) (hb : c.code = cc) {k : Fin 4} {i nL : Nat} {o : Option Nat} {lv lv' : List (Nat × Value)} (hdg : decode cc pc = .ok (.astore_n k, 1)) (hi : (k : Nat) = i) (h : lv_has ls nL lv) (hn : i < nL) (hl : (i, va_rf o) :: lv.filter (fun q => !(q.1 == i) && !(q.1 + 1 == i && q.2.category == 2)) = lv')
    (kk : ∀ ls' : Array Slot, lv_has ls' nL lv' → W p l e R s m args below meth c H locs cells slots Q (F0 m (pc + 1) ls' rest)) : W p l e R s m args below meth c H locs cells slots Q (F0 m pc ls (va_rf o :: rest)) := by
  cases o with
  | none => exact lv_astore_nN hx hb hdg hi h hn hl kk
  | some a => exact lv_astore_n hx hb hdg hi h hn hl kk
theorem x_astore (hx : p.tables.exec = Jvm.exec) (hb : c.code = cc) {i nL : Nat} {o : Option Nat} {lv lv' : List (Nat × Value)} (hdg : decode cc pc = .ok (.astore i, 2)) (h : lv_has ls nL lv) (hn : i < nL) (hl : (i, va_rf o) :: lv.filter (fun q => !(q.1 == i) && !(q.1 + 1 == i && q.2.category == 2)) = lv')
    (kk : ∀ ls' : Array Slot, lv_has ls' nL lv' → W p l e R s m args below meth c H locs cells slots Q (F0 m (pc + 2) ls' rest)) : W p l e R s m args below meth c H locs cells slots Q (F0 m pc ls (va_rf o :: rest)) := by
  cases o with
  | none => exact lv_astoreN hx hb hdg h hn hl kk
  | some a => exact lv_astore hx hb hdg h hn hl kk
theorem x_ifnull (hx : p.tables.exec = Jvm.exec) (hb : c.code = cc) {o : Option Nat} {off : Int} {tgt : Nat} (hdg : decode cc pc = .ok (.ifnull off, 3)) (ht : (pc : Int) + off = (tgt : Int))
    (kt : o = none → W p l e R s m args below meth c H locs cells slots Q (F0 m tgt ls rest)) (kf : ¬ o = none → W p l e R s m args below meth c H locs cells slots Q (F0 m (pc + 3) ls rest)) : W p l e R s m args below meth c H locs cells slots Q (F0 m pc ls (va_rf o :: rest)) := by
  cases o with
  | none => exact lv_ifnullN hx hb hdg ht (kt rfl)
  | some a => exact lv_ifnull hx hb hdg (kf (fun h => by cases h))
theorem x_ifnonnull (hx : p.tables.exec = Jvm.exec) (hb : c.code = cc) {o : Option Nat} {off : Int} {tgt : Nat} (hdg : decode cc pc = .ok (.ifnonnull off, 3)) (ht : (pc : Int) + off = (tgt : Int))
    (kt : o = none → W p l e R s m args below meth c H locs cells slots Q (F0 m (pc + 3) ls rest)) (kf : ¬ o = none → W p l e R s m args below meth c H locs cells slots Q (F0 m tgt ls rest)) : W p l e R s m args below meth c H locs cells slots Q (F0 m pc ls (va_rf o :: rest)) := by
  cases o with
  | none => exact lv_ifnonnullN hx hb hdg (kt rfl)
  | some a => exact lv_ifnonnull hx hb hdg ht (kf (fun h => by cases h))
-- fields, read
theorem x_get (C : xC p s m args meth c R E A cc nL y ret d mc ms) (hw : xW E A s σ τ H locs) (r k j : Nat) {v : Value} {ci N index : Nat} {fs : List Value} {Cn : String} {T : u_T} (hp : xat r k) (hcell : x_cell E r k (σ.1 r k) (σ.2.1 r k) = .inr (ci, fs)) (hc : vwCl[ci]? = some (Cn, T, N)) (hj : j < N ∧ r < 30) (hl : Cond.fieldLink y.cls index (T j).1 (T j).2.1 (T j).2.2.1 ∈ Tb) (hv : fs[j]? = some v) (hdg : decode cc pc = .ok (.getfield index, 3))
    (kk : W p l e R s m args below meth c H locs cells slots Q (F0 m (pc + 3) ls (v :: rest))) : W p l e R s m args below meth c H locs cells slots Q (F0 m pc ls (.ref (E.2.2.1 r k) :: rest)) :=
  va_get C.1 C.2.1 (Ts := Tb) (fun _ h => C.tb h) (tb_lay hc) C.own C.K hw.1 (x_pl r k) (x_atX hp hj.2 hcell) hc j hj.1 (C.tb hl) (fun _ h => h) hv hdg kk
theorem y_get (C : xC p s m args meth c R E A cc nL y ret d mc ms) (hw : xW E A s σ τ H locs) (r k j : Nat) {v : Value} {ci N index : Nat} {fs : List Value} {Cn : String} {T : u_T} (hp : xat r k) (hcell : x_cell E r k (τ r k) (σ.2.1 r k) = .inr (ci, fs)) (hc : vwCl[ci]? = some (Cn, T, N)) (hj : j < N ∧ 30 ≤ r) (hl : Cond.fieldLink y.cls index (T j).1 (T j).2.1 (T j).2.2.1 ∈ Tb) (hv : fs[j]? = some v) (hdg : decode cc pc = .ok (.getfield index, 3))
    (kk : W p l e R s m args below meth c H locs cells slots Q (F0 m (pc + 3) ls (v :: rest))) : W p l e R s m args below meth c H locs cells slots Q (F0 m pc ls (.ref (E.2.2.1 r k) :: rest)) :=
  va_get C.1 C.2.1 (Ts := Tb) (fun _ h => C.tb h) (tb_lay hc) C.own C.K hw.1 (x_pl r k) (x_atY hp hj.2 hcell) hc j hj.1 (C.tb hl) (fun _ h => h) hv hdg kk
theorem x_getN (C : xC p s m args meth c R E A cc nL y ret d mc ms) (hw : xW E A s σ τ H locs) (r k j : Nat) {v : Value} {ci N index : Nat} {fs : List Value} {Cn : String} {T : u_T} (hp : xat r k) (hcell : x_cell E r k (σ.1 r k) (σ.2.1 r k) = .inr (ci, fs)) (hc : vwCl[ci]? = some (Cn, T, N)) (hj : j < N ∧ r < 30) (hl : Cond.fieldLinkNest y.cls index (T j).1 (T j).2.1 (T j).2.2.1 xHost ∈ Tb) (hv : fs[j]? = some v) (hdg : decode cc pc = .ok (.getfield index, 3))
    (kk : W p l e R s m args below meth c H locs cells slots Q (F0 m (pc + 3) ls (v :: rest))) : W p l e R s m args below meth c H locs cells slots Q (F0 m pc ls (.ref (E.2.2.1 r k) :: rest)) :=
  va_getN C.1 C.2.1 (Ts := Tb) (fun _ h => C.tb h) (tb_lay hc) C.own C.K hw.1 (x_pl r k) (x_atX hp hj.2 hcell) hc j hj.1 (C.tb hl) (fun _ h => h) hv hdg kk
-- fields of the pool, read
theorem x_getM (C : xC p s m args meth c R E A cc nL y ret d mc ms) (hw : xW E A s σ τ H locs) {o : Option Nat} {a : Nat} (ha : xd σ.2.2.1 o = some a) (j : Nat) {v : Value} {index : Nat} (hj : j < 5) (hl : Cond.fieldLink y.cls index (TxH j).1 (TxH j).2.1 (TxH j).2.2.1 ∈ Tb) (hv : (x_fsH (σ.1 21 a) (σ.2.1 21 a))[j]? = some v) (hdg : decode cc pc = .ok (.getfield index, 3))
    (kk : W p l e R s m args below meth c H locs cells slots Q (F0 m (pc + 3) ls (v :: rest))) : W p l e R s m args below meth c H locs cells slots Q (F0 m pc ls (va_rf o :: rest)) := by
  obtain ⟨rfl, hm⟩ := x_d ha
  obtain ⟨q0, hq⟩ := va_pl_get (X := (List.range 175).map (x_st E σ τ)) (f := x_pool E σ) hm
  exact va_get C.1 C.2.1 (Ts := Tb) (fun _ h => C.tb h) (tb_lay (ci := ixH) rfl) C.own C.K hw.1 q0 hq rfl j hj (C.tb hl) (fun _ h => h) hv hdg kk
theorem x_getMN (C : xC p s m args meth c R E A cc nL y ret d mc ms) (hw : xW E A s σ τ H locs) {o : Option Nat} {a : Nat} (ha : xd σ.2.2.1 o = some a) (j : Nat) {v : Value} {index : Nat} (hj : j < 5) (hl : Cond.fieldLinkNest y.cls index (TxH j).1 (TxH j).2.1 (TxH j).2.2.1 xHost ∈ Tb) (hv : (x_fsH (σ.1 21 a) (σ.2.1 21 a))[j]? = some v) (hdg : decode cc pc = .ok (.getfield index, 3))
    (kk : W p l e R s m args below meth c H locs cells slots Q (F0 m (pc + 3) ls (v :: rest))) : W p l e R s m args below meth c H locs cells slots Q (F0 m pc ls (va_rf o :: rest)) := by
  obtain ⟨rfl, hm⟩ := x_d ha
  obtain ⟨q0, hq⟩ := va_pl_get (X := (List.range 175).map (x_st E σ τ)) (f := x_pool E σ) hm
  exact va_getN C.1 C.2.1 (Ts := Tb) (fun _ h => C.tb h) (tb_lay (ci := ixH) rfl) C.own C.K hw.1 q0 hq rfl j hj (C.tb hl) (fun _ h => h) hv hdg kk
-- fields, written: any world, any place
theorem x_putG (C : xC p s m args meth c R E A cc nL y ret d mc ms) {ws : va_W} {a ci N index j : Nat} {fs : List Value} {Cn : String} {T : u_T} {ty : FieldType} {v : Value} (hP : va_P (xG E) vwCl ws H) (hD : va_D A ws) (hS : va_S A s.heap H locs) (q0 : Nat) (he : ws[q0]? = some (a, .inr (ci, fs))) (hc : vwCl[ci]? = some (Cn, T, N)) (hj : j < N) (hl : Cond.fieldLink y.cls index (T j).1 (T j).2.1 (T j).2.2.1 ∈ Tb) (hfin : (T j).2.2.2 = false) (hd : parseFieldDescriptor (T j).2.2.1 = some ty) (hn : narrow ty v = v) (hfit : fits ty v = true) (hlen : j < fs.length) (hdg : decode cc pc = .ok (.putfield index, 3))
    (kk : ∀ (H1 : Heap) (locs1 : List Loc), va_P (xG E) vwCl (ws.set q0 (a, .inr (ci, fs.set j v))) H1 → va_D A (ws.set q0 (a, .inr (ci, fs.set j v))) → va_S A s.heap H1 locs1 → H1.size = H.size → W p l e R s m args below meth c H1 locs1 cells slots Q (F0 m (pc + 3) ls rest)) : W p l e R s m args below meth c H locs cells slots Q (F0 m pc ls (v :: .ref a :: rest)) := by
  have hap := va_apart (own := y.cls) (fun _ h => C.tb h) (tb_lay hc) (tb_ty T) (tb_tyok hc) (tb_nm hc) C.K hc
  obtain ⟨r, h1, cell, q1, q2, q3, q4⟩ := hP q0 _ he
  have hr : r = (Cn, T, N) := Option.some.inj (h1.symm.trans hc)
  subst hr
  obtain ⟨hS', hfc, kC, hkC, hkind⟩ := C.K.1 ci _ hc
  obtain ⟨cf, kf, fi, f, hi, hsl⟩ := hS' j hj
  have hlay : (u_lay Cn T j).before args s = true := C.tb (tb_lay hc _ (u_in_lay hj))
  unfold u_lay at hlay
  rw [if_neg (by rw [hfin]; decide)] at hlay
  have hst := (u_facts hfc hkC (Or.inl hlay) hi).1
  have h6 := u_store hfc hkC hkind hlay hi hd hn hfit
  refine W.putK C.1 C.2.1 (f := f) ⟨C.own, C.tb hl, ⟨_, _, _, hi⟩, hst⟩ (by rw [q2]; exact h6) q1 q3 (by rw [hsl]; exact k2_hasslot (q4 j hj)) rfl rfl hdg fun H' e1 e2 e3 => ?_
  rw [hsl] at e1 ⊢
  exact kk H' _ (hP.set hD he ⟨_, hc, t_OB.to (V := updV (vp_V fs) j v) ⟨_, e1, q2, q3, t_set q4 hap hj v⟩ (fun i _ => vp_updV_set hlen v i)⟩ e3) (hD.set he) (hS.put e2 e3 (hD.2 q0 _ he)) e2
theorem x_putGN (C : xC p s m args meth c R E A cc nL y ret d mc ms) {ws : va_W} {a ci N index j : Nat} {fs : List Value} {Cn : String} {T : u_T} {ty : FieldType} {v : Value} (hP : va_P (xG E) vwCl ws H) (hD : va_D A ws) (hS : va_S A s.heap H locs) (q0 : Nat) (he : ws[q0]? = some (a, .inr (ci, fs))) (hc : vwCl[ci]? = some (Cn, T, N)) (hj : j < N) (hl : Cond.fieldLinkNest y.cls index (T j).1 (T j).2.1 (T j).2.2.1 xHost ∈ Tb) (hfin : (T j).2.2.2 = false) (hd : parseFieldDescriptor (T j).2.2.1 = some ty) (hn : narrow ty v = v) (hfit : fits ty v = true) (hlen : j < fs.length) (hdg : decode cc pc = .ok (.putfield index, 3))
    (kk : ∀ (H1 : Heap) (locs1 : List Loc), va_P (xG E) vwCl (ws.set q0 (a, .inr (ci, fs.set j v))) H1 → va_D A (ws.set q0 (a, .inr (ci, fs.set j v))) → va_S A s.heap H1 locs1 → H1.size = H.size → W p l e R s m args below meth c H1 locs1 cells slots Q (F0 m (pc + 3) ls rest)) : W p l e R s m args below meth c H locs cells slots Q (F0 m pc ls (v :: .ref a :: rest)) := by
  have hap := va_apart (own := y.cls) (fun _ h => C.tb h) (tb_lay hc) (tb_ty T) (tb_tyok hc) (tb_nm hc) C.K hc
  obtain ⟨r, h1, cell, q1, q2, q3, q4⟩ := hP q0 _ he
  have hr : r = (Cn, T, N) := Option.some.inj (h1.symm.trans hc)
  subst hr
  obtain ⟨hS', hfc, kC, hkC, hkind⟩ := C.K.1 ci _ hc
  obtain ⟨cf, kf, fi, f, hi, hsl⟩ := hS' j hj
  have hlay : (u_lay Cn T j).before args s = true := C.tb (tb_lay hc _ (u_in_lay hj))
  unfold u_lay at hlay
  rw [if_neg (by rw [hfin]; decide)] at hlay
  have hst := (u_facts hfc hkC (Or.inl hlay) hi).1
  have h6 := u_store hfc hkC hkind hlay hi hd hn hfit
  refine va_WputK C.1 C.2.1 (f := f) C.own (C.tb hl) hi hst (by rw [q2]; exact h6) q1 q3 (by rw [hsl]; exact k2_hasslot (q4 j hj)) rfl rfl hdg fun H' e1 e2 e3 => ?_
  rw [hsl] at e1 ⊢
  exact kk H' _ (hP.set hD he ⟨_, hc, t_OB.to (V := updV (vp_V fs) j v) ⟨_, e1, q2, q3, t_set q4 hap hj v⟩ (fun i _ => vp_updV_set hlen v i)⟩ e3) (hD.set he) (hS.put e2 e3 (hD.2 q0 _ he)) e2
theorem x_putGF (C : xC p s m args meth c R E A cc nL y ret d mc ms) (hin : y.name = "<init>") {ws : va_W} {a ci N index j : Nat} {fs : List Value} {Cn : String} {T : u_T} {ty : FieldType} {v : Value} (hP : va_P (xG E) vwCl ws H) (hD : va_D A ws) (hS : va_S A s.heap H locs) (q0 : Nat) (he : ws[q0]? = some (a, .inr (ci, fs))) (hc : vwCl[ci]? = some (Cn, T, N)) (hj : j < N) (hl : Cond.fieldLink y.cls index (T j).1 (T j).2.1 (T j).2.2.1 ∈ Tb) (hfin : (T j).2.2.2 = true) (hdecl : (T j).1 = y.cls) (hd : parseFieldDescriptor (T j).2.2.1 = some ty) (hn : narrow ty v = v) (hfit : fits ty v = true) (hlen : j < fs.length) (hdg : decode cc pc = .ok (.putfield index, 3))
    (kk : ∀ (H1 : Heap) (locs1 : List Loc), va_P (xG E) vwCl (ws.set q0 (a, .inr (ci, fs.set j v))) H1 → va_D A (ws.set q0 (a, .inr (ci, fs.set j v))) → va_S A s.heap H1 locs1 → H1.size = H.size → W p l e R s m args below meth c H1 locs1 cells slots Q (F0 m (pc + 3) ls rest)) : W p l e R s m args below meth c H locs cells slots Q (F0 m pc ls (v :: .ref a :: rest)) := by
  have hap := va_apart (own := y.cls) (fun _ h => C.tb h) (tb_lay hc) (tb_ty T) (tb_tyok hc) (tb_nm hc) C.K hc
  obtain ⟨r, h1, cell, q1, q2, q3, q4⟩ := hP q0 _ he
  have hr : r = (Cn, T, N) := Option.some.inj (h1.symm.trans hc)
  subst hr
  obtain ⟨hS', hfc, kC, hkC, hkind⟩ := C.K.1 ci _ hc
  obtain ⟨cf, kf, fi, f, hi, hsl⟩ := hS' j hj
  have hlay : (u_lay Cn T j).before args s = true := C.tb (tb_lay hc _ (u_in_lay hj))
  unfold u_lay at hlay
  rw [if_pos hfin] at hlay
  have hst := (u_facts hfc hkC (Or.inr hlay) hi).1
  have hcf : m.cls = cf := by
    obtain ⟨_, _, c', _, _, _, -, -, hf', -, -, -, hown2, -⟩ := Cond.laysFinal_spec hlay
    have e1 : c' = cf := by have := hi.symm.trans hf'; simp at this; exact this.1.symm
    rw [hdecl] at hown2
    rw [← e1]; exact Option.some.inj (C.own.symm.trans hown2)
  have h6 := u_fits hfc hkC hkind (Or.inr hlay) hi hd hn hfit
  refine W.putFinK C.1 C.2.1 C.own (C.tb hl) hi hst hcf (C.2.2.2.2.1 hin) (by rw [q2]; exact h6) q1 q3 (by rw [hsl]; exact k2_hasslot (q4 j hj)) rfl rfl hdg fun H' e1 e2 e3 => ?_
  rw [hsl] at e1 ⊢
  exact kk H' _ (hP.set hD he ⟨_, hc, t_OB.to (V := updV (vp_V fs) j v) ⟨_, e1, q2, q3, t_set q4 hap hj v⟩ (fun i _ => vp_updV_set hlen v i)⟩ e3) (hD.set he) (hS.put e2 e3 (hD.2 q0 _ he)) e2
theorem x_nrf {cn : String} (o : Option Nat) : narrow (.object cn) (va_rf o) = va_rf o ∧ fits (.object cn) (va_rf o) = true := by cases o <;> exact ⟨rfl, rfl⟩
theorem x_fz {v : Int32} (h : v = 0 ∨ v = 1) : fits .boolean (.int v) = true := by rcases h with rfl | rfl <;> rfl
-- written, of the class
theorem x_puti (C : xC p s m args meth c R E A cc nL y ret d mc ms) (hw : xW E A s σ τ H locs) (r k j : Nat) {v : Int32} {ci N index : Nat} {fs : List Value} {Cn : String} {T : u_T} (hp : xat r k) (hcell : x_cell E r k (σ.1 r k) (σ.2.1 r k) = .inr (ci, fs)) (hc : vwCl[ci]? = some (Cn, T, N)) (hcell' : x_cell E r k (u1 (σ.1 r k) j v) (σ.2.1 r k) = .inr (ci, fs.set j (.int v))) (hT : (T j).2.2.1 = "I" ∧ (T j).2.2.2 = false) (hj : j < N ∧ r < 21) (hlen : j < fs.length) (hl : Cond.fieldLink y.cls index (T j).1 (T j).2.1 (T j).2.2.1 ∈ Tb) (hdg : decode cc pc = .ok (.putfield index, 3))
    (kk : ∀ (H : Heap) (locs : List Loc), xW E A s (x_si σ r k j v) τ H locs → W p l e R s m args below meth c H locs cells slots Q (F0 m (pc + 3) ls rest)) : W p l e R s m args below meth c H locs cells slots Q (F0 m pc ls (.int v :: .ref (E.2.2.1 r k) :: rest)) := by
  obtain ⟨hP, hD, hS, hz9⟩ := hw
  have hj2 := hj.2
  refine x_putG C hP hD hS (x_pl r k) (x_atX hp (by omega) hcell) hc hj.1 hl hT.2 (by rw [hT.1]; exact pd_I) rfl rfl hlen hdg (fun H1 locs1 h1 h2 h3 h4 => ?_)
  rw [x_updI hp (by omega) hcell'] at h1 h2
  exact kk H1 locs1 ⟨h1, h2, h3, h4.trans hz9⟩
theorem x_putiN (C : xC p s m args meth c R E A cc nL y ret d mc ms) (hw : xW E A s σ τ H locs) (r k j : Nat) {v : Int32} {ci N index : Nat} {fs : List Value} {Cn : String} {T : u_T} (hp : xat r k) (hcell : x_cell E r k (σ.1 r k) (σ.2.1 r k) = .inr (ci, fs)) (hc : vwCl[ci]? = some (Cn, T, N)) (hcell' : x_cell E r k (u1 (σ.1 r k) j v) (σ.2.1 r k) = .inr (ci, fs.set j (.int v))) (hT : (T j).2.2.1 = "I" ∧ (T j).2.2.2 = false) (hj : j < N ∧ r < 21) (hlen : j < fs.length) (hl : Cond.fieldLinkNest y.cls index (T j).1 (T j).2.1 (T j).2.2.1 xHost ∈ Tb) (hdg : decode cc pc = .ok (.putfield index, 3))
    (kk : ∀ (H : Heap) (locs : List Loc), xW E A s (x_si σ r k j v) τ H locs → W p l e R s m args below meth c H locs cells slots Q (F0 m (pc + 3) ls rest)) : W p l e R s m args below meth c H locs cells slots Q (F0 m pc ls (.int v :: .ref (E.2.2.1 r k) :: rest)) := by
  obtain ⟨hP, hD, hS, hz9⟩ := hw
  have hj2 := hj.2
  refine x_putGN C hP hD hS (x_pl r k) (x_atX hp (by omega) hcell) hc hj.1 hl hT.2 (by rw [hT.1]; exact pd_I) rfl rfl hlen hdg (fun H1 locs1 h1 h2 h3 h4 => ?_)
  rw [x_updI hp (by omega) hcell'] at h1 h2
  exact kk H1 locs1 ⟨h1, h2, h3, h4.trans hz9⟩
theorem x_putz (C : xC p s m args meth c R E A cc nL y ret d mc ms) (hw : xW E A s σ τ H locs) (r k j : Nat) {v : Int32} {ci N index : Nat} {fs : List Value} {Cn : String} {T : u_T} (hp : xat r k) (hz : v = 0 ∨ v = 1) (hcell : x_cell E r k (σ.1 r k) (σ.2.1 r k) = .inr (ci, fs)) (hc : vwCl[ci]? = some (Cn, T, N)) (hcell' : x_cell E r k (u1 (σ.1 r k) j v) (σ.2.1 r k) = .inr (ci, fs.set j (.int v))) (hT : (T j).2.2.1 = "Z" ∧ (T j).2.2.2 = false) (hj : j < N ∧ r < 21) (hlen : j < fs.length) (hl : Cond.fieldLink y.cls index (T j).1 (T j).2.1 (T j).2.2.1 ∈ Tb) (hdg : decode cc pc = .ok (.putfield index, 3))
    (kk : ∀ (H : Heap) (locs : List Loc), xW E A s (x_si σ r k j v) τ H locs → W p l e R s m args below meth c H locs cells slots Q (F0 m (pc + 3) ls rest)) : W p l e R s m args below meth c H locs cells slots Q (F0 m pc ls (.int v :: .ref (E.2.2.1 r k) :: rest)) := by
  obtain ⟨hP, hD, hS, hz9⟩ := hw
  have hj2 := hj.2
  refine x_putG C hP hD hS (x_pl r k) (x_atX hp (by omega) hcell) hc hj.1 hl hT.2 (by rw [hT.1]; exact pd_Z) (x_nz hz) (x_fz hz) hlen hdg (fun H1 locs1 h1 h2 h3 h4 => ?_)
  rw [x_updI hp (by omega) hcell'] at h1 h2
  exact kk H1 locs1 ⟨h1, h2, h3, h4.trans hz9⟩
theorem x_putzN (C : xC p s m args meth c R E A cc nL y ret d mc ms) (hw : xW E A s σ τ H locs) (r k j : Nat) {v : Int32} {ci N index : Nat} {fs : List Value} {Cn : String} {T : u_T} (hp : xat r k) (hz : v = 0 ∨ v = 1) (hcell : x_cell E r k (σ.1 r k) (σ.2.1 r k) = .inr (ci, fs)) (hc : vwCl[ci]? = some (Cn, T, N)) (hcell' : x_cell E r k (u1 (σ.1 r k) j v) (σ.2.1 r k) = .inr (ci, fs.set j (.int v))) (hT : (T j).2.2.1 = "Z" ∧ (T j).2.2.2 = false) (hj : j < N ∧ r < 21) (hlen : j < fs.length) (hl : Cond.fieldLinkNest y.cls index (T j).1 (T j).2.1 (T j).2.2.1 xHost ∈ Tb) (hdg : decode cc pc = .ok (.putfield index, 3))
    (kk : ∀ (H : Heap) (locs : List Loc), xW E A s (x_si σ r k j v) τ H locs → W p l e R s m args below meth c H locs cells slots Q (F0 m (pc + 3) ls rest)) : W p l e R s m args below meth c H locs cells slots Q (F0 m pc ls (.int v :: .ref (E.2.2.1 r k) :: rest)) := by
  obtain ⟨hP, hD, hS, hz9⟩ := hw
  have hj2 := hj.2
  refine x_putGN C hP hD hS (x_pl r k) (x_atX hp (by omega) hcell) hc hj.1 hl hT.2 (by rw [hT.1]; exact pd_Z) (x_nz hz) (x_fz hz) hlen hdg (fun H1 locs1 h1 h2 h3 h4 => ?_)
  rw [x_updI hp (by omega) hcell'] at h1 h2
  exact kk H1 locs1 ⟨h1, h2, h3, h4.trans hz9⟩
theorem x_puto (C : xC p s m args meth c R E A cc nL y ret d mc ms) (hw : xW E A s σ τ H locs) (r k j : Nat) {v : Option Nat} {ci N index : Nat} {fs : List Value} {Cn : String} {T : u_T} (hp : xat r k) (hcell : x_cell E r k (σ.1 r k) (σ.2.1 r k) = .inr (ci, fs)) (hc : vwCl[ci]? = some (Cn, T, N)) (hcell' : x_cell E r k (σ.1 r k) (u1 (σ.2.1 r k) j v) = .inr (ci, fs.set j (va_rf v))) (hT : (T j).2.2.1 = "LStandIns$Matcher;" ∧ (T j).2.2.2 = false) (hj : j < N ∧ r < 21) (hlen : j < fs.length) (hl : Cond.fieldLink y.cls index (T j).1 (T j).2.1 (T j).2.2.1 ∈ Tb) (hdg : decode cc pc = .ok (.putfield index, 3))
    (kk : ∀ (H : Heap) (locs : List Loc), xW E A s (x_sp σ r k j v) τ H locs → W p l e R s m args below meth c H locs cells slots Q (F0 m (pc + 3) ls rest)) : W p l e R s m args below meth c H locs cells slots Q (F0 m pc ls (va_rf v :: .ref (E.2.2.1 r k) :: rest)) := by
  obtain ⟨hP, hD, hS, hz9⟩ := hw
  have hj2 := hj.2
  refine x_putG C hP hD hS (x_pl r k) (x_atX hp (by omega) hcell) hc hj.1 hl hT.2 (by rw [hT.1]; exact pd_H) (x_nrf v).1 (x_nrf v).2 hlen hdg (fun H1 locs1 h1 h2 h3 h4 => ?_)
  rw [x_updP hp (by omega) hcell'] at h1 h2
  exact kk H1 locs1 ⟨h1, h2, h3, h4.trans hz9⟩
theorem x_putoN (C : xC p s m args meth c R E A cc nL y ret d mc ms) (hw : xW E A s σ τ H locs) (r k j : Nat) {v : Option Nat} {ci N index : Nat} {fs : List Value} {Cn : String} {T : u_T} (hp : xat r k) (hcell : x_cell E r k (σ.1 r k) (σ.2.1 r k) = .inr (ci, fs)) (hc : vwCl[ci]? = some (Cn, T, N)) (hcell' : x_cell E r k (σ.1 r k) (u1 (σ.2.1 r k) j v) = .inr (ci, fs.set j (va_rf v))) (hT : (T j).2.2.1 = "LStandIns$Matcher;" ∧ (T j).2.2.2 = false) (hj : j < N ∧ r < 21) (hlen : j < fs.length) (hl : Cond.fieldLinkNest y.cls index (T j).1 (T j).2.1 (T j).2.2.1 xHost ∈ Tb) (hdg : decode cc pc = .ok (.putfield index, 3))
    (kk : ∀ (H : Heap) (locs : List Loc), xW E A s (x_sp σ r k j v) τ H locs → W p l e R s m args below meth c H locs cells slots Q (F0 m (pc + 3) ls rest)) : W p l e R s m args below meth c H locs cells slots Q (F0 m pc ls (va_rf v :: .ref (E.2.2.1 r k) :: rest)) := by
  obtain ⟨hP, hD, hS, hz9⟩ := hw
  have hj2 := hj.2
  refine x_putGN C hP hD hS (x_pl r k) (x_atX hp (by omega) hcell) hc hj.1 hl hT.2 (by rw [hT.1]; exact pd_H) (x_nrf v).1 (x_nrf v).2 hlen hdg (fun H1 locs1 h1 h2 h3 h4 => ?_)
  rw [x_updP hp (by omega) hcell'] at h1 h2
  exact kk H1 locs1 ⟨h1, h2, h3, h4.trans hz9⟩
theorem y_puti (C : xC p s m args meth c R E A cc nL y ret d mc ms) (hw : xW E A s σ τ H locs) (r k j : Nat) {v : Int32} {ci N index : Nat} {fs : List Value} {Cn : String} {T : u_T} (hp : xat r k) (hcell : x_cell E r k (τ r k) (σ.2.1 r k) = .inr (ci, fs)) (hc : vwCl[ci]? = some (Cn, T, N)) (hcell' : x_cell E r k (u1 (τ r k) j v) (σ.2.1 r k) = .inr (ci, fs.set j (.int v))) (hT : (T j).2.2.1 = "I" ∧ (T j).2.2.2 = false) (hj : j < N ∧ 30 ≤ r) (hlen : j < fs.length) (hl : Cond.fieldLink y.cls index (T j).1 (T j).2.1 (T j).2.2.1 ∈ Tb) (hdg : decode cc pc = .ok (.putfield index, 3))
    (kk : ∀ (H : Heap) (locs : List Loc), xW E A s σ (y_si τ r k j v) H locs → W p l e R s m args below meth c H locs cells slots Q (F0 m (pc + 3) ls rest)) : W p l e R s m args below meth c H locs cells slots Q (F0 m pc ls (.int v :: .ref (E.2.2.1 r k) :: rest)) := by
  obtain ⟨hP, hD, hS, hz9⟩ := hw
  have hj2 := hj.2
  refine x_putG C hP hD hS (x_pl r k) (x_atY hp hj.2 hcell) hc hj.1 hl hT.2 (by rw [hT.1]; exact pd_I) rfl rfl hlen hdg (fun H1 locs1 h1 h2 h3 h4 => ?_)
  rw [x_updY hp (by omega) hcell'] at h1 h2
  exact kk H1 locs1 ⟨h1, h2, h3, h4.trans hz9⟩
theorem y_putz (C : xC p s m args meth c R E A cc nL y ret d mc ms) (hw : xW E A s σ τ H locs) (r k j : Nat) {v : Int32} {ci N index : Nat} {fs : List Value} {Cn : String} {T : u_T} (hp : xat r k) (hz : v = 0 ∨ v = 1) (hcell : x_cell E r k (τ r k) (σ.2.1 r k) = .inr (ci, fs)) (hc : vwCl[ci]? = some (Cn, T, N)) (hcell' : x_cell E r k (u1 (τ r k) j v) (σ.2.1 r k) = .inr (ci, fs.set j (.int v))) (hT : (T j).2.2.1 = "Z" ∧ (T j).2.2.2 = false) (hj : j < N ∧ 30 ≤ r) (hlen : j < fs.length) (hl : Cond.fieldLink y.cls index (T j).1 (T j).2.1 (T j).2.2.1 ∈ Tb) (hdg : decode cc pc = .ok (.putfield index, 3))
    (kk : ∀ (H : Heap) (locs : List Loc), xW E A s σ (y_si τ r k j v) H locs → W p l e R s m args below meth c H locs cells slots Q (F0 m (pc + 3) ls rest)) : W p l e R s m args below meth c H locs cells slots Q (F0 m pc ls (.int v :: .ref (E.2.2.1 r k) :: rest)) := by
  obtain ⟨hP, hD, hS, hz9⟩ := hw
  have hj2 := hj.2
  refine x_putG C hP hD hS (x_pl r k) (x_atY hp hj.2 hcell) hc hj.1 hl hT.2 (by rw [hT.1]; exact pd_Z) (x_nz hz) (x_fz hz) hlen hdg (fun H1 locs1 h1 h2 h3 h4 => ?_)
  rw [x_updY hp (by omega) hcell'] at h1 h2
  exact kk H1 locs1 ⟨h1, h2, h3, h4.trans hz9⟩
theorem x_putFiM (C : xC p s m args meth c R E A cc nL y ret d mc ms) (hw : xW E A s σ τ H locs) (k j : Nat) {v : Int32} {index : Nat} (hm : k ∈ σ.2.2.1) (hin : y.name = "<init>") (hcl : (TxH j).1 = y.cls) (hcell' : x_fsH (u1 (σ.1 21 k) j v) (σ.2.1 21 k) = (x_fsH (σ.1 21 k) (σ.2.1 21 k)).set j (.int v)) (hT : (TxH j).2.2.1 = "I" ∧ (TxH j).2.2.2 = true) (hj : j < 5) (hl : Cond.fieldLink y.cls index (TxH j).1 (TxH j).2.1 (TxH j).2.2.1 ∈ Tb) (hdg : decode cc pc = .ok (.putfield index, 3))
    (kk : ∀ (H : Heap) (locs : List Loc), xW E A s (x_si σ 21 k j v) τ H locs → W p l e R s m args below meth c H locs cells slots Q (F0 m (pc + 3) ls rest)) : W p l e R s m args below meth c H locs cells slots Q (F0 m pc ls (.int v :: .ref k :: rest)) := by
  obtain ⟨hP, hD, hS, hz9⟩ := hw
  obtain ⟨q0, hq⟩ := va_pl_get (X := (List.range 175).map (x_st E σ τ)) (f := x_pool E σ) hm
  refine x_putGF C hin hP hD hS q0 hq rfl hj hl hT.2 hcl (by rw [hT.1]; exact pd_I) rfl rfl hj hdg (fun H1 locs1 h1 h2 h3 h4 => ?_)
  have hset : (x_ws E σ τ).set q0 (k, .inr (ixH, (x_fsH (σ.1 21 k) (σ.2.1 21 k)).set j (.int v))) = x_ws E (x_si σ 21 k j v) τ := by
    have e1 : (List.range 175).map (x_st E σ τ) = (List.range 175).map (x_st E (x_si σ 21 k j v) τ) := by
      refine List.map_congr_left (fun q hq1 => (x_st_eq ?_ ?_).symm)
      · exact x_rdM (x_dec21 (List.mem_range.mp hq1))
      · rfl
    have e2 : va_pl σ.2.2.1 (va_up (x_pool E σ) k (.inr (ixH, (x_fsH (σ.1 21 k) (σ.2.1 21 k)).set j (.int v)))) = va_pl σ.2.2.1 (x_pool E (x_si σ 21 k j v)) := by
      refine va_pl_congr (fun a => ?_)
      unfold va_up x_pool
      by_cases ha : a = k
      · subst ha
        rw [if_pos rfl]
        show _ = Sum.inr (ixH, x_fsH ((x_si σ 21 a j v).1 21 a) ((x_si σ 21 a j v).2.1 21 a))
        rw [show (x_si σ 21 a j v).1 21 a = u1 (σ.1 21 a) j v from u3_self]
        show _ = Sum.inr (ixH, x_fsH (u1 (σ.1 21 a) j v) (σ.2.1 21 a))
        rw [hcell']
      · rw [if_neg ha]
        show x_cell E 21 a (σ.1 21 a) (σ.2.1 21 a) = x_cell E 21 a (u3 σ.1 21 k j v 21 a) (σ.2.1 21 a)
        rw [u3_row (r' := 21) (k' := a) (fun e => ha e.2)]
    show ((List.range 175).map (x_st E σ τ) ++ va_pl σ.2.2.1 (x_pool E σ)).set q0 _ = (List.range 175).map (x_st E (x_si σ 21 k j v) τ) ++ va_pl σ.2.2.1 (x_pool E (x_si σ 21 k j v))
    rw [va_pl_set hD hm hq, e2, e1]
  rw [hset] at h1 h2
  exact kk H1 locs1 ⟨h1, h2, h3, h4.trans hz9⟩
theorem x_putFoM (C : xC p s m args meth c R E A cc nL y ret d mc ms) (hw : xW E A s σ τ H locs) (k j : Nat) {v : Option Nat} {index : Nat} (hm : k ∈ σ.2.2.1) (hin : y.name = "<init>") (hcl : (TxH j).1 = y.cls) (hcell' : x_fsH (σ.1 21 k) (u1 (σ.2.1 21 k) j v) = (x_fsH (σ.1 21 k) (σ.2.1 21 k)).set j (va_rf v)) (hT : (TxH j).2.2.1 = "LStandIns$Matcher;" ∧ (TxH j).2.2.2 = true) (hj : j < 5) (hl : Cond.fieldLink y.cls index (TxH j).1 (TxH j).2.1 (TxH j).2.2.1 ∈ Tb) (hdg : decode cc pc = .ok (.putfield index, 3))
    (kk : ∀ (H : Heap) (locs : List Loc), xW E A s (x_sp σ 21 k j v) τ H locs → W p l e R s m args below meth c H locs cells slots Q (F0 m (pc + 3) ls rest)) : W p l e R s m args below meth c H locs cells slots Q (F0 m pc ls (va_rf v :: .ref k :: rest)) := by
  obtain ⟨hP, hD, hS, hz9⟩ := hw
  obtain ⟨q0, hq⟩ := va_pl_get (X := (List.range 175).map (x_st E σ τ)) (f := x_pool E σ) hm
  refine x_putGF C hin hP hD hS q0 hq rfl hj hl hT.2 hcl (by rw [hT.1]; exact pd_H) (x_nrf v).1 (x_nrf v).2 hj hdg (fun H1 locs1 h1 h2 h3 h4 => ?_)
  have hset : (x_ws E σ τ).set q0 (k, .inr (ixH, (x_fsH (σ.1 21 k) (σ.2.1 21 k)).set j (va_rf v))) = x_ws E (x_sp σ 21 k j v) τ := by
    have e1 : (List.range 175).map (x_st E σ τ) = (List.range 175).map (x_st E (x_sp σ 21 k j v) τ) := by
      refine List.map_congr_left (fun q hq1 => (x_st_eq ?_ ?_).symm)
      · rfl
      · exact u3_row (fun e => x_dec21 (List.mem_range.mp hq1) e.1)
    have e2 : va_pl σ.2.2.1 (va_up (x_pool E σ) k (.inr (ixH, (x_fsH (σ.1 21 k) (σ.2.1 21 k)).set j (va_rf v)))) = va_pl σ.2.2.1 (x_pool E (x_sp σ 21 k j v)) := by
      refine va_pl_congr (fun a => ?_)
      unfold va_up x_pool
      by_cases ha : a = k
      · subst ha
        rw [if_pos rfl]
        show _ = Sum.inr (ixH, x_fsH ((x_sp σ 21 a j v).1 21 a) ((x_sp σ 21 a j v).2.1 21 a))
        rw [show (x_sp σ 21 a j v).2.1 21 a = u1 (σ.2.1 21 a) j v from u3_self]
        show _ = Sum.inr (ixH, x_fsH (σ.1 21 a) (u1 (σ.2.1 21 a) j v))
        rw [hcell']
      · rw [if_neg ha]
        show x_cell E 21 a (σ.1 21 a) (σ.2.1 21 a) = x_cell E 21 a (σ.1 21 a) (u3 σ.2.1 21 k j v 21 a)
        rw [u3_row (r' := 21) (k' := a) (fun e => ha e.2)]
    show ((List.range 175).map (x_st E σ τ) ++ va_pl σ.2.2.1 (x_pool E σ)).set q0 _ = (List.range 175).map (x_st E (x_sp σ 21 k j v) τ) ++ va_pl σ.2.2.1 (x_pool E (x_sp σ 21 k j v))
    rw [va_pl_set hD hm hq, e2, e1]
  rw [hset] at h1 h2
  exact kk H1 locs1 ⟨h1, h2, h3, h4.trans hz9⟩
-- arrays
theorem x_ild (C : xC p s m args meth c R E A cc nL y ret d mc ms) (hw : xW E A s σ τ H locs) (r k : Nat) {n : Nat} (hp : xat r k) (hcell : x_cell E r k (σ.1 r k) (σ.2.1 r k) = .inl (E.2.2.2 0, n, .inl (σ.1 r k))) {i : Int32} (hin : ¬ (i < 0 ∨ n ≤ i.toNatClampNeg)) (hdg : decode cc pc = .ok (.iaload, 1))
    (kk : W p l e R s m args below meth c H locs cells slots Q (F0 m (pc + 1) ls (.int (σ.1 r k i.toNatClampNeg) :: rest))) (hr : r < 30 := by decide) : W p l e R s m args below meth c H locs cells slots Q (F0 m pc ls (.int i :: .ref (E.2.2.1 r k) :: rest)) :=
  va_iald C.1 C.2.1 C.K hw.1 (x_pl r k) 0 (x_atX hp hr hcell) rfl hin hdg kk
theorem y_ild (C : xC p s m args meth c R E A cc nL y ret d mc ms) (hw : xW E A s σ τ H locs) (r k : Nat) {n : Nat} (hp : xat r k) (hcell : x_cell E r k (τ r k) (σ.2.1 r k) = .inl (E.2.2.2 0, n, .inl (τ r k))) {i : Int32} (hin : ¬ (i < 0 ∨ n ≤ i.toNatClampNeg)) (hdg : decode cc pc = .ok (.iaload, 1))
    (kk : W p l e R s m args below meth c H locs cells slots Q (F0 m (pc + 1) ls (.int (τ r k i.toNatClampNeg) :: rest))) (hr : 30 ≤ r := by decide) : W p l e R s m args below meth c H locs cells slots Q (F0 m pc ls (.int i :: .ref (E.2.2.1 r k) :: rest)) :=
  va_iald C.1 C.2.1 C.K hw.1 (x_pl r k) 0 (x_atY hp hr hcell) rfl hin hdg kk
theorem y_zld (C : xC p s m args meth c R E A cc nL y ret d mc ms) (hw : xW E A s σ τ H locs) (r k : Nat) {n : Nat} (hp : xat r k) (hcell : x_cell E r k (τ r k) (σ.2.1 r k) = .inl (E.2.2.2 1, n, .inl (τ r k))) {i : Int32} (hin : ¬ (i < 0 ∨ n ≤ i.toNatClampNeg)) (hdg : decode cc pc = .ok (.baload, 1))
    (kk : W p l e R s m args below meth c H locs cells slots Q (F0 m (pc + 1) ls (.int (τ r k i.toNatClampNeg) :: rest))) (hr : 30 ≤ r := by decide) : W p l e R s m args below meth c H locs cells slots Q (F0 m pc ls (.int i :: .ref (E.2.2.1 r k) :: rest)) :=
  va_zald C.1 C.2.1 C.K hw.1 (x_pl r k) 1 (x_atY hp hr hcell) rfl hin hdg kk
theorem x_aldG (C : xC p s m args meth c R E A cc nL y ret d mc ms) (hw : xW E A s σ τ H locs) (r t0 : Nat) {n : Nat} {cA : ClassId} {Cn : String} {g : Nat → Option Nat} (hp : xat r 0) (hcell : x_cell E r 0 (σ.1 r 0) (σ.2.1 r 0) = .inl (cA, n, .inr (.inr (.inr (.inr g))))) (ht : (xTys E)[t0]? = some (cA, .object Cn)) (hr : r < 30) {i : Int32} (hin : ¬ (i < 0 ∨ n ≤ i.toNatClampNeg)) (hdg : decode cc pc = .ok (.aaload, 1))
    (kk : W p l e R s m args below meth c H locs cells slots Q (F0 m (pc + 1) ls (va_rf (g i.toNatClampNeg) :: rest))) : W p l e R s m args below meth c H locs cells slots Q (F0 m pc ls (.int i :: .ref (E.2.2.1 r 0) :: rest)) :=
  va_aldq C.1 C.2.1 C.K hw.1 (x_pl r 0) t0 (x_atX hp hr hcell) ht hin hdg kk
theorem x_ald1 (C : xC p s m args meth c R E A cc nL y ret d mc ms) (hw : xW E A s σ τ H locs) {i : Int32} (hin : ¬ (i < 0 ∨ 12 ≤ i.toNatClampNeg)) (hdg : decode cc pc = .ok (.aaload, 1)) (kk : W p l e R s m args below meth c H locs cells slots Q (F0 m (pc + 1) ls (.ref (E.2.2.1 14 i.toNatClampNeg) :: rest))) : W p l e R s m args below meth c H locs cells slots Q (F0 m pc ls (.int i :: .ref (E.2.2.1 1 0) :: rest)) :=
  x_aldG C hw 1 2 at_1 rfl rfl (by decide) hin hdg kk
theorem x_ald7 (C : xC p s m args meth c R E A cc nL y ret d mc ms) (hw : xW E A s σ τ H locs) {i : Int32} (hin : ¬ (i < 0 ∨ 40 ≤ i.toNatClampNeg)) (hdg : decode cc pc = .ok (.aaload, 1)) (kk : W p l e R s m args below meth c H locs cells slots Q (F0 m (pc + 1) ls (.ref (E.2.2.1 15 i.toNatClampNeg) :: rest))) : W p l e R s m args below meth c H locs cells slots Q (F0 m pc ls (.int i :: .ref (E.2.2.1 7 0) :: rest)) :=
  x_aldG C hw 7 3 at_7 rfl rfl (by decide) hin hdg kk
theorem x_ald8 (C : xC p s m args meth c R E A cc nL y ret d mc ms) (hw : xW E A s σ τ H locs) {i : Int32} (hin : ¬ (i < 0 ∨ 16 ≤ i.toNatClampNeg)) (hdg : decode cc pc = .ok (.aaload, 1)) (kk : W p l e R s m args below meth c H locs cells slots Q (F0 m (pc + 1) ls (.ref (E.2.2.1 16 i.toNatClampNeg) :: rest))) : W p l e R s m args below meth c H locs cells slots Q (F0 m pc ls (.int i :: .ref (E.2.2.1 8 0) :: rest)) :=
  x_aldG C hw 8 4 at_8 rfl rfl (by decide) hin hdg kk
theorem x_oald (C : xC p s m args meth c R E A cc nL y ret d mc ms) (hw : xW E A s σ τ H locs) {i : Int32} (hin : ¬ (i < 0 ∨ 6 ≤ i.toNatClampNeg)) (hdg : decode cc pc = .ok (.aaload, 1)) (kk : W p l e R s m args below meth c H locs cells slots Q (F0 m (pc + 1) ls (va_rf (σ.2.1 5 0 i.toNatClampNeg) :: rest))) : W p l e R s m args below meth c H locs cells slots Q (F0 m pc ls (.int i :: .ref (E.2.2.1 5 0) :: rest)) :=
  x_aldG C hw 5 5 at_5 rfl rfl (by decide) hin hdg kk
theorem x_alen (C : xC p s m args meth c R E A cc nL y ret d mc ms) (hw : xW E A s σ τ H locs) (r k t0 : Nat) {v : Int32} {cA : ClassId} {x : vp_A} {ty : FieldType} (hp : xat r k) (hcell : x_cell E r k (σ.1 r k) (σ.2.1 r k) = .inl (cA, x)) (ht : (xTys E)[t0]? = some (cA, ty)) (hr : r < 30) (hv : Int32.ofNat x.1 = v) (hdg : decode cc pc = .ok (.arraylength, 1))
    (kk : W p l e R s m args below meth c H locs cells slots Q (F0 m (pc + 1) ls (.int v :: rest))) : W p l e R s m args below meth c H locs cells slots Q (F0 m pc ls (.ref (E.2.2.1 r k) :: rest)) :=
  va_alen C.1 C.2.1 C.K hw.1 (x_pl r k) t0 (x_atX hp hr hcell) ht hv hdg kk
theorem x_ist (C : xC p s m args meth c R E A cc nL y ret d mc ms) (hw : xW E A s σ τ H locs) (r k : Nat) {n : Nat} {i x : Int32} (hp : xat r k) (hcell : x_cell E r k (σ.1 r k) (σ.2.1 r k) = .inl (E.2.2.2 0, n, .inl (σ.1 r k))) (hcell' : x_cell E r k (u1 (σ.1 r k) i.toNatClampNeg x) (σ.2.1 r k) = .inl (E.2.2.2 0, n, .inl (u1 (σ.1 r k) i.toNatClampNeg x))) (hin : ¬ (i < 0 ∨ n ≤ i.toNatClampNeg)) (hdg : decode cc pc = .ok (.iastore, 1))
    (kk : ∀ (H : Heap) (locs : List Loc), xW E A s (x_si σ r k i.toNatClampNeg x) τ H locs → W p l e R s m args below meth c H locs cells slots Q (F0 m (pc + 1) ls rest)) (hr : r < 21 := by decide) : W p l e R s m args below meth c H locs cells slots Q (F0 m pc ls (.int x :: .int i :: .ref (E.2.2.1 r k) :: rest)) := by
  obtain ⟨hP, hD, hS, hz9⟩ := hw
  have ha := x_atX (τ := τ) hp (by omega) hcell
  refine W.iast C.1 C.2.1 (hP _ _ ha) ((C.K.2 0 _ rfl).1 n (fun j => .int (σ.1 r k j))) (fun q => by cases q) (by show ¬ (i < 0 ∨ (arrV _ _ _).slots.size ≤ _); rw [arrV_size]; exact hin) rfl rfl hdg fun H1 e1 z1 oq => ?_
  have h1 := hP.set (e := .inl (E.2.2.2 0, n, .inl (u1 (σ.1 r k) i.toNatClampNeg x))) hD ha (by
    show H1[_]? = some (vp_cell _ _)
    rw [e1, vp_cell_i, vp_cell_i, arrV_store]
    congr 2
    funext q
    by_cases hq : q = i.toNatClampNeg
    · subst hq; simp [updV, u1]
    · simp [updV, u1, hq]) oq
  have h2 := hD.set (e := .inl (E.2.2.2 0, n, .inl (u1 (σ.1 r k) i.toNatClampNeg x))) ha
  rw [x_updI hp hr hcell'] at h1 h2
  exact kk H1 _ ⟨h1, h2, hS.put z1 oq (hD.2 _ _ ha), z1.trans hz9⟩
theorem y_ist (C : xC p s m args meth c R E A cc nL y ret d mc ms) (hw : xW E A s σ τ H locs) (r k : Nat) {n : Nat} {i x : Int32} (hp : xat r k) (hcell : x_cell E r k (τ r k) (σ.2.1 r k) = .inl (E.2.2.2 0, n, .inl (τ r k))) (hcell' : x_cell E r k (u1 (τ r k) i.toNatClampNeg x) (σ.2.1 r k) = .inl (E.2.2.2 0, n, .inl (u1 (τ r k) i.toNatClampNeg x))) (hin : ¬ (i < 0 ∨ n ≤ i.toNatClampNeg)) (hdg : decode cc pc = .ok (.iastore, 1))
    (kk : ∀ (H : Heap) (locs : List Loc), xW E A s σ (y_si τ r k i.toNatClampNeg x) H locs → W p l e R s m args below meth c H locs cells slots Q (F0 m (pc + 1) ls rest)) (hr : 30 ≤ r := by decide) : W p l e R s m args below meth c H locs cells slots Q (F0 m pc ls (.int x :: .int i :: .ref (E.2.2.1 r k) :: rest)) := by
  obtain ⟨hP, hD, hS, hz9⟩ := hw
  have ha := x_atY (σ := σ) hp hr hcell
  refine W.iast C.1 C.2.1 (hP _ _ ha) ((C.K.2 0 _ rfl).1 n (fun j => .int (τ r k j))) (fun q => by cases q) (by show ¬ (i < 0 ∨ (arrV _ _ _).slots.size ≤ _); rw [arrV_size]; exact hin) rfl rfl hdg fun H1 e1 z1 oq => ?_
  have h1 := hP.set (e := .inl (E.2.2.2 0, n, .inl (u1 (τ r k) i.toNatClampNeg x))) hD ha (by
    show H1[_]? = some (vp_cell _ _)
    rw [e1, vp_cell_i, vp_cell_i, arrV_store]
    congr 2
    funext q
    by_cases hq : q = i.toNatClampNeg
    · subst hq; simp [updV, u1]
    · simp [updV, u1, hq]) oq
  have h2 := hD.set (e := .inl (E.2.2.2 0, n, .inl (u1 (τ r k) i.toNatClampNeg x))) ha
  rw [x_updY hp hr hcell'] at h1 h2
  exact kk H1 _ ⟨h1, h2, hS.put z1 oq (hD.2 _ _ ha), z1.trans hz9⟩
theorem y_zst (C : xC p s m args meth c R E A cc nL y ret d mc ms) (hw : xW E A s σ τ H locs) (r k : Nat) {n : Nat} {i x : Int32} (hp : xat r k) (hx01 : x = 0 ∨ x = 1) (hcell : x_cell E r k (τ r k) (σ.2.1 r k) = .inl (E.2.2.2 1, n, .inl (τ r k))) (hcell' : x_cell E r k (u1 (τ r k) i.toNatClampNeg x) (σ.2.1 r k) = .inl (E.2.2.2 1, n, .inl (u1 (τ r k) i.toNatClampNeg x))) (hin : ¬ (i < 0 ∨ n ≤ i.toNatClampNeg)) (hdg : decode cc pc = .ok (.bastore, 1))
    (kk : ∀ (H : Heap) (locs : List Loc), xW E A s σ (y_si τ r k i.toNatClampNeg x) H locs → W p l e R s m args below meth c H locs cells slots Q (F0 m (pc + 1) ls rest)) (hr : 30 ≤ r := by decide) : W p l e R s m args below meth c H locs cells slots Q (F0 m pc ls (.int x :: .int i :: .ref (E.2.2.1 r k) :: rest)) := by
  obtain ⟨hP, hD, hS, hz9⟩ := hw
  have ha := x_atY (σ := σ) hp hr hcell
  refine W.zast C.1 C.2.1 (hP _ _ ha) ((C.K.2 1 _ rfl).1 n (fun j => .int (τ r k j))) (fun q => by cases q) (by show ¬ (i < 0 ∨ (arrV _ _ _).slots.size ≤ _); rw [arrV_size]; exact hin) rfl rfl hdg fun H1 e1 z1 oq => ?_
  rw [x_nz hx01] at e1
  have h1 := hP.set (e := .inl (E.2.2.2 1, n, .inl (u1 (τ r k) i.toNatClampNeg x))) hD ha (by
    show H1[_]? = some (vp_cell _ _)
    rw [e1, vp_cell_i, vp_cell_i, arrV_store]
    congr 2
    funext q
    by_cases hq : q = i.toNatClampNeg
    · subst hq; simp [updV, u1]
    · simp [updV, u1, hq]) oq
  have h2 := hD.set (e := .inl (E.2.2.2 1, n, .inl (u1 (τ r k) i.toNatClampNeg x))) ha
  rw [x_updY hp hr hcell'] at h1 h2
  exact kk H1 _ ⟨h1, h2, hS.put z1 oq (hD.2 _ _ ha), z1.trans hz9⟩
theorem x_oast (C : xC p s m args meth c R E A cc nL y ret d mc ms) (hw : xW E A s σ τ H locs) {i : Int32} {o : Option Nat} (ho : xo σ.2.2.1 o = true) (hin : ¬ (i < 0 ∨ 6 ≤ i.toNatClampNeg)) (hdg : decode cc pc = .ok (.aastore, 1))
    (kk : ∀ (H : Heap) (locs : List Loc), xW E A s (x_sp σ 5 0 i.toNatClampNeg o) τ H locs → W p l e R s m args below meth c H locs cells slots Q (F0 m (pc + 1) ls rest)) : W p l e R s m args below meth c H locs cells slots Q (F0 m pc ls (va_rf o :: .int i :: .ref (E.2.2.1 5 0) :: rest)) := by
  obtain ⟨hP, hD, hS, hz9⟩ := hw
  have ha := x_atX (E := E) (σ := σ) (τ := τ) (r := 5) (k := 0) at_5 (by decide) rfl
  have hlt : i.toNatClampNeg < 6 := x_lt hin
  have fin : ∀ (H1 : Heap), H1[E.2.2.1 5 0]? = some ((arrV (E.2.2.2 5) 6 (fun j => va_rf (σ.2.1 5 0 j))).setSlot i.toNatClampNeg (va_rf o)) → H1.size = H.size → (∀ q, q ≠ E.2.2.1 5 0 → H1[q]? = H[q]?) → W p l e R s m args below meth c H1 (locs ++ [⟨E.2.2.1 5 0, i.toNatClampNeg⟩]) cells slots Q (F0 m (pc + 1) ls rest) := by
    intro H1 e1 z1 oq
    have h1 := hP.set (e := .inl (E.2.2.2 5, 6, .inr (.inr (.inr (.inr (u1 (σ.2.1 5 0) i.toNatClampNeg o)))))) hD ha (by
      show H1[_]? = some (vp_cell _ _)
      rw [e1, vp_cell_q, arrV_store]
      congr 2
      funext q
      by_cases hq : q = i.toNatClampNeg
      · subst hq; simp [updV, u1]
      · simp [updV, u1, hq]) oq
    have h2 := hD.set (e := .inl (E.2.2.2 5, 6, .inr (.inr (.inr (.inr (u1 (σ.2.1 5 0) i.toNatClampNeg o)))))) ha
    rw [x_updP (c := .inl (E.2.2.2 5, 6, .inr (.inr (.inr (.inr (u1 (σ.2.1 5 0) i.toNatClampNeg o)))))) at_5 (by decide) rfl] at h1 h2
    exact kk H1 _ ⟨h1, h2, hS.put z1 oq (hD.2 _ _ ha), z1.trans hz9⟩
  cases o with
  | none =>
    exact va_WaastN (C := RxH) C.1 C.2.1 (hP _ _ ha) ((C.K.2 5 _ rfl).1 6 (fun j => va_rf (σ.2.1 5 0 j))) (fun h => by cases h) (by show ¬ (i < 0 ∨ (arrV _ _ _).slots.size ≤ _); rw [arrV_size]; exact hin) rfl rfl hdg fin
  | some v =>
    have hm : v ∈ σ.2.2.1 := of_decide_eq_true ho
    obtain ⟨qk, hv⟩ := va_pl_get (X := (List.range 175).map (x_st E σ τ)) (f := x_pool E σ) hm
    obtain ⟨r', hr', cellV, g1, g2, g3, -⟩ := hP qk _ hv
    have hcls := (C.K.1 ixH _ rfl).2
    obtain ⟨kA, comp, k1, k2, k3, -⟩ := (C.K.2 5 _ rfl).2
    have hcomp : comp = (xG E).1 ixH := Option.some.inj (k3.symm.trans hcls.1)
    subst hcomp
    obtain ⟨kC, hkC, -⟩ := hcls.2
    exact W.aast C.1 C.2.1 (hP _ _ ha) (fun q h => by cases h) (fun h => by cases h) k1 k2 rfl hkC ⟨fun q => hin (Or.inl q), by show _ < (arrV _ _ _).slots.size; rw [arrV_size]; exact hlt⟩ g1 (fun q h => by rw [g3] at h; cases h) (by rw [g2]; exact hkC) (by rw [g2]; exact va_assign hcls) rfl rfl hdg fin
-- a new one in the pool
theorem x_new (C : xC p s m args meth c R E A cc nL y ret d mc ms) (hw : xW E A s σ τ H locs) {index : Nat} (hl : Cond.classLink y.cls index RxH ∈ Tb) (hc1 : cells + 1 ≤ mc) (hs1 : slots + 5 ≤ ms) (hdg : decode cc pc = .ok (.new index, 3))
    (kk : ∀ H : Heap, xW E A s (x_nw σ) τ H locs → W p l e R s m args below meth c H locs (cells + 1) (slots + 5) Q (F0 m (pc + 3) ls (.ref σ.2.2.2 :: rest))) : W p l e R s m args below meth c H locs cells slots Q (F0 m pc ls rest) := by
  obtain ⟨hP, hD, hS, hz9⟩ := hw
  have hKn := C.K.1 ixH _ rfl
  obtain ⟨-, -, m1, m2⟩ := C.rm
  refine W.newcK C.1 C.2.1 C.own (C.tb hl) (C.tb wH_inst) (C.tb wH_init) rfl hdg (by omega) (by omega) hKn.2.1 hz9 fun H1 kC hkC e1 z1 o1 => ?_
  have hlt : ∀ (k : Nat) (x : Nat × va_E), (x_ws E σ τ)[k]? = some x → x.1 < σ.2.2.2 := fun k x hx => by rw [← hz9]; exact (hP k x hx).lt
  have hfresh : σ.2.2.2 ∉ σ.2.2.1 := fun q => by
    have := va_pl_lt (X := (List.range 175).map (x_st E σ τ)) (f := x_pool E σ) hP q
    omega
  have hP1 : va_P (xG E) vwCl (x_ws E σ τ ++ [(σ.2.2.2, .inr (ixH, x_fsH (fun _ => 0) (fun _ => none)))]) H1 := by
    refine (hP.kept (fun k x hx => o1 x.1 (hlt k x hx))).app (fun k x hx => ?_)
    have hk0 : k < 1 := (List.getElem?_eq_some_iff.mp hx).1
    rw [show k = 0 by omega] at hx
    cases hx
    exact ⟨_, rfl, (u_born (tb_ty TxH) (fun _ h => C.tb h) (tb_lay (ci := ixH) rfl) hKn hkC e1 (tb_tyok (ci := ixH) rfl)).to x_bornH⟩
  have hD1 : va_D A (x_ws E σ τ ++ [(σ.2.2.2, .inr (ixH, x_fsH (fun _ => 0) (fun _ => none)))]) := hD.push hP hz9.symm (C.A0 _ (by rw [← hz9]; exact hS.1))
  have hset : x_ws E σ τ ++ [(σ.2.2.2, .inr (ixH, x_fsH (fun _ => 0) (fun _ => none)))] = x_ws E (x_nw σ) τ := by
    have e1 : (List.range 175).map (x_st E σ τ) = (List.range 175).map (x_st E (x_nw σ) τ) := by
      refine List.map_congr_left (fun q hq1 => (x_st_eq ?_ ?_).symm)
      · unfold x_rd
        by_cases h30 : (x_dec q).1 < 30
        · rw [if_pos h30, if_pos h30]
          funext j
          show (if _ then _ else _) = _
          rw [if_neg (fun h => x_dec21 (List.mem_range.mp hq1) h.1)]
        · rw [if_neg h30, if_neg h30]
      · funext j
        show (if _ then _ else _) = _
        rw [if_neg (fun h => x_dec21 (List.mem_range.mp hq1) h.1)]
    have e2 : va_pl (σ.2.2.1 ++ [σ.2.2.2]) (va_up (x_pool E σ) σ.2.2.2 (.inr (ixH, x_fsH (fun _ => 0) (fun _ => none)))) = va_pl (σ.2.2.1 ++ [σ.2.2.2]) (x_pool E (x_nw σ)) := by
      refine va_pl_congr (fun a => ?_)
      unfold va_up
      by_cases ha : a = σ.2.2.2
      · subst ha
        rw [if_pos rfl]
        have f1 : (x_nw σ).1 21 σ.2.2.2 = fun _ => 0 := by funext j; exact if_pos ⟨rfl, rfl⟩
        have f2 : (x_nw σ).2.1 21 σ.2.2.2 = fun _ => none := by funext j; exact if_pos ⟨rfl, rfl⟩
        unfold x_pool
        rw [f1, f2]
        rfl
      · rw [if_neg ha]
        have f1 : (x_nw σ).1 21 a = σ.1 21 a := by funext j; exact if_neg (fun h => ha h.2)
        have f2 : (x_nw σ).2.1 21 a = σ.2.1 21 a := by funext j; exact if_neg (fun h => ha h.2)
        unfold x_pool
        rw [f1, f2]
    show ((List.range 175).map (x_st E σ τ) ++ va_pl σ.2.2.1 (x_pool E σ)) ++ _ = (List.range 175).map (x_st E (x_nw σ) τ) ++ va_pl (σ.2.2.1 ++ [σ.2.2.2]) (x_pool E (x_nw σ))
    rw [List.append_assoc, va_pl_push hfresh, e2, e1]
  rw [hset] at hP1 hD1
  exact kk H1 ⟨hP1, hD1, ⟨by rw [z1]; have := hS.1; omega, fun q h1 h2 => (o1 q (by have := hS.1; omega)).trans (hS.2.1 q h1 h2), hS.2.2⟩, z1⟩
-- the library's
theorem x_objinit (C : xC p s m args meth c R E A cc nL y ret d mc ms) {lv : List (Nat × Value)} (hl : lv_has ls nL lv) {index a : Nat} (hk : Cond.methodLink y.cls index Lib.objectInit ∈ Tb) (hdg : decode cc pc = .ok (.invokespecial index, 3)) (kk : W p l e R s m args below meth c H locs cells slots Q (F0 m (pc + 3) ls rest)) (hd : 1 ≤ d := by decide) (hrs : (rest.map fun v => v.category).sum ≤ 8 := by exact Nat.le_of_ble_eq_true rfl) : W p l e R s m args below meth c H locs cells slots Q (F0 m pc ls (.ref a :: rest)) := by
  obtain ⟨r1, r2, -, -⟩ := C.rm
  exact W.objInit C.1 C.2.1 C.own (C.tb hk) (C.tb wO_inst) (C.tb wO_code) rfl (by rw [C.2.2.1]; exact hl.1) rfl hdg (by omega) (by show 2 * 0 + _ + 12 ≤ _; omega) kk
theorem x_mmax (C : xC p s m args meth c R E A cc nL y ret d mc ms) {lv : List (Nat × Value)} (hl : lv_has ls nL lv) {index : Nat} {u v : Int32} (hk : Cond.methodLink y.cls index Lib.Math.max.name ∈ Tb) (hdg : decode cc pc = .ok (.invokestatic index, 3)) (kk : W p l e R s m args below meth c H locs 0 0 Q (F0 m (pc + 3) ls (.int (if u < v then v else u) :: rest))) (hd : 1 ≤ d := by decide) (hrs : (rest.map fun v => v.category).sum ≤ 8 := by exact Nat.le_of_ble_eq_true rfl) : W p l e R s m args below meth c H locs 0 0 Q (F0 m pc ls (.int v :: .int u :: rest)) := by
  obtain ⟨r1, r2, -, -⟩ := C.rm
  exact va_mmax C.1 C.2.1 (C.2.2.1.trans hl.1.symm) C.own (C.tb hk) (C.tb wO_max1) (C.tb wO_math) (C.tb wO_max2) (by omega) (by omega) (Nat.zero_le _) (Nat.zero_le _) hdg kk
theorem x_mmin (C : xC p s m args meth c R E A cc nL y ret d mc ms) {lv : List (Nat × Value)} (hl : lv_has ls nL lv) {index : Nat} {u v : Int32} (hk : Cond.methodLink y.cls index Lib.Math.min.name ∈ Tb) (hdg : decode cc pc = .ok (.invokestatic index, 3)) (kk : W p l e R s m args below meth c H locs 0 0 Q (F0 m (pc + 3) ls (.int (if v < u then v else u) :: rest))) (hd : 1 ≤ d := by decide) (hrs : (rest.map fun v => v.category).sum ≤ 8 := by exact Nat.le_of_ble_eq_true rfl) : W p l e R s m args below meth c H locs 0 0 Q (F0 m pc ls (.int v :: .int u :: rest)) := by
  obtain ⟨r1, r2, -, -⟩ := C.rm
  exact va_mmin C.1 C.2.1 (C.2.2.1.trans hl.1.symm) C.own (C.tb hk) (C.tb wO_min1) (C.tb wO_math) (C.tb wO_min2) (by omega) (by omega) (Nat.zero_le _) (Nat.zero_le _) hdg kk
-- calls
theorem x_preS (C : xC p s m args meth c R E A cc nL y ret d mc ms) (hw : xW E A s σ τ H locs) (As : List Value) : PreS s H (va_Pc As (xPre E σ τ)) As := by
  obtain ⟨hP, hD, hS, hz⟩ := hw
  refine ⟨fun a U g mk q => ?_, fun U hU hW => ⟨rfl, by rw [hU]; exact hz, by rw [hU]; exact hP, ⟨va_K.moved hW.alike C.K, C.T.warm hW⟩, hD.weaken (fun _ _ _ _ => trivial)⟩⟩
  obtain ⟨q0, q1, qP, ⟨qK, qT⟩, qD⟩ := q
  exact ⟨q0, q1, qP, ⟨va_K.moved (u := U) (U := U.calling g mk a) (Vm.Alike.refl U.vm) qK, qT.calling⟩, qD⟩
theorem x_after (C : xC p s m args meth c R E A cc nL y ret d mc ms) (hw : xW E A s σ τ H locs) {rv : Option Value} {σ' : xS} {τ' : yS} {mc' ms' : Nat} {st0 st1 : List Value} {a : Array Value} (hr : va_Run p l e R s m args below meth c H locs cells slots mc' ms' (F0 m pc ls st0) rest (xQ E (xA E σ τ) rv σ' τ' a) (xA E σ τ)) (h1 : rv.toList ++ rest = st1)
    (kk : ∀ (H : Heap) (locs : List Loc), xW E A s σ' τ' H locs → W p l e R s m args below meth c H locs (cells + mc') (slots + ms') Q (F0 m (pc + 3) ls st1)) : W p l e R s m args below meth c H locs cells slots Q (F0 m pc ls st0) := by
  obtain ⟨hP, hD, hS, hz⟩ := hw
  subst h1
  have hA : ∀ q, xA E σ τ q → A q := by
    intro q hq
    rcases hq with ⟨k, e2, h⟩ | h
    · exact hD.2 k _ h
    · exact C.A0 q (by have := hS.1; omega)
  intro T hT X
  obtain ⟨v, st₀, t, T', L, h0, X', hL, e1, e2, ⟨hv, ⟨hP1, hD1, hz1⟩, hF1, hF2⟩, st⟩ := hr T hT X
  cases hv
  rw [h0] at hF1 hF2
  obtain ⟨t2, a1, b1⟩ := kk T'.heap (locs ++ L) ⟨by rw [e1]; exact hP1, hD1.weaken (fun _ q _ h => hA q.1 h), ⟨Nat.le_trans hS.1 (by rw [e1]; exact hF1), fun q g1 g2 => by rw [e1, hF2 q (Nat.lt_of_lt_of_le g1 hS.1) (fun z => g2 (hA q z))]; exact hS.2.1 q g1 g2, fun q hq => by
      rcases List.mem_append.mp hq with h | h
      · exact hS.2.2 q h
      · exact hA _ (hL q h)⟩, by rw [e1]; exact hz1⟩ T' rfl X'
  exact ⟨t2, st t2 a1, b1⟩
/-- what the tables say of a call -/
def xk (y : MethodName) (cc : ByteArray) (nL : Nat) (ret : Option FieldType) (n : Nat) : Prop := Cond.code y cc nL ret ∈ Tb ∧ Cond.initialized y.cls ∈ Tb ∧ (y.cls ≠ "java/lang/invoke/MethodHandle" ∧ y.cls ≠ "java/lang/invoke/VarHandle" ∧ (parseMethodDescriptor y.desc).map (fun d => d.parameters.length) = some n) ∧ nL ≤ 80
def xkV (own : String) (index : Nat) (Cn : String) (y : MethodName) (cc : ByteArray) (nL : Nat) (ret : Option FieldType) (n : Nat) : Prop := xk y cc nL ret n ∧ Cond.methodLink own index y ∈ Tb ∧ Cond.instanceMethod y ∈ Tb ∧ Cond.selects Cn y y ∈ Tb
def xkS (own : String) (index : Nat) (y : MethodName) (cc : ByteArray) (nL : Nat) (ret : Option FieldType) (n : Nat) : Prop := xk y cc nL ret n ∧ Cond.methodLink own index y ∈ Tb ∧ Cond.static y ∈ Tb
def xkVN (own : String) (index : Nat) (Cn : String) (y : MethodName) (cc : ByteArray) (nL : Nat) (ret : Option FieldType) (n : Nat) : Prop := xk y cc nL ret n ∧ Cond.methodLinkNest own index y xHost ∈ Tb ∧ Cond.instanceMethod y ∈ Tb ∧ Cond.selects Cn y y ∈ Tb
def xkSN (own : String) (index : Nat) (y : MethodName) (cc : ByteArray) (nL : Nat) (ret : Option FieldType) (n : Nat) : Prop := xk y cc nL ret n ∧ Cond.methodLinkNest own index y xHost ∈ Tb ∧ Cond.static y ∈ Tb
def xkIN (own : String) (index : Nat) (y : MethodName) (cc : ByteArray) (nL n : Nat) : Prop := xk y cc nL none n ∧ Cond.methodLinkNest own index y xHost ∈ Tb ∧ Cond.instanceMethod y ∈ Tb ∧ y.name = "<init>"
theorem x_codew (C : xC p s m args meth c R E A cc nL y ret d mc ms) {y' : MethodName} {cc' : ByteArray} {nL' : Nat} {ret' : Option FieldType} (h : Cond.code y' cc' nL' ret' ∈ Tb) : ∀ w ∈ [Cond.code y' cc' nL' ret'], ∀ (a' : Array Value) (U : State), s.WarmedH U.vm → w.before a' U = true := by
  intro w hw a' U hW
  rw [List.mem_singleton.mp hw]
  exact tb_use h ((C.T.warm hW) _ h)
theorem x_CB (C : xC p s m args meth c R E A cc nL y ret d mc ms) {y' : MethodName} {cc' : ByteArray} {nL' d' mc' ms' n index : Nat} {ret' : Option FieldType} (hk : xk y' cc' nL' ret' n) (hl : Cond.methodLink y.cls index y' ∈ Tb) (hd : d' + 1 ≤ d) : CallB R s args y.cls index y' cc' nL' ret' [.code y' cc' nL' ret'] (xRm d' mc' ms') mc' ms' n := by
  obtain ⟨r1, r2, -, -⟩ := C.rm
  obtain ⟨k1, k2, ⟨k3, k4, k5⟩, k6⟩ := hk
  refine ⟨rfl, rfl, by show d' + 1 ≤ _; omega, by show 8 + (nL' + 11) + 100 * d' ≤ _; omega, x_codew C k1, List.mem_singleton.mpr rfl, C.tb k1, C.tb k2, ⟨k3, k4⟩, fun sig h => ?_, C.tb hl⟩
  rw [h] at k5
  exact (Option.some.inj k5).symm
theorem x_CN (C : xC p s m args meth c R E A cc nL y ret d mc ms) {y' : MethodName} {cc' : ByteArray} {nL' d' mc' ms' n index : Nat} {ret' : Option FieldType} (hk : xk y' cc' nL' ret' n) (hl : Cond.methodLinkNest y.cls index y' xHost ∈ Tb) (hd : d' + 1 ≤ d) : va_CN R s args y.cls index y' xHost cc' nL' ret' [.code y' cc' nL' ret'] (xRm d' mc' ms') mc' ms' n := by
  obtain ⟨r1, r2, -, -⟩ := C.rm
  obtain ⟨k1, k2, ⟨k3, k4, k5⟩, k6⟩ := hk
  refine ⟨⟨rfl, rfl, by show d' + 1 ≤ _; omega, by show 8 + (nL' + 11) + 100 * d' ≤ _; omega, x_codew C k1, List.mem_singleton.mpr rfl⟩, C.tb k1, C.tb k2, ⟨k3, k4⟩, fun sig h => ?_, C.tb hl⟩
  rw [h] at k5
  exact (Option.some.inj k5).symm
theorem xC.fix (C : xC p s m args meth c R E A cc nL y ret d mc ms) : CallFix p m c cc nL s args Tb y.cls := ⟨C.1, C.2.1, C.2.2.1, C.own, fun _ h => C.tb h⟩
theorem x_callV {y' : MethodName} {cc' : ByteArray} {nL' d' mc' ms' n index b : Nat} {ret' : Option FieldType} {As st0 st1 : List Value} {rv : Option Value} {σ' : xS} {τ' : yS} {Cn : String} (C : xC p s m args meth c R E A cc nL y ret d mc ms) (hw : xW E A s σ τ H locs) (hM : xM l E y' cc' nL' ret' d' mc' ms' (.ref b :: As) σ τ rv σ' τ') (hk : xkV y.cls index Cn y' cc' nL' ret' n) (hv : ∃ cellB : Cell, H[b]? = some cellB ∧ cellB.vm.isStatics = false ∧ s.vm.findClass Cn = some cellB.cls) (hd : d' + 1 ≤ d) (hn : As.length = n) (hst : st0 = As.reverse ++ .ref b :: rest) (hs : ls.size = nL) (hro : 2 * (F0 m pc ls st0).monitorRoom + (rest.map fun v => v.category).sum ≤ 8) (hdg : decode cc pc = .ok (.invokevirtual index, 3)) (hms : cells + mc' ≤ mc ∧ slots + ms' ≤ ms) (h1 : rv.toList ++ rest = st1)
    (kk : ∀ (H : Heap) (locs : List Loc), xW E A s σ' τ' H locs → W p l e R s m args below meth c H locs (cells + mc') (slots + ms') Q (F0 m (pc + 3) ls st1)) : W p l e R s m args below meth c H locs cells slots Q (F0 m pc ls st0) := by
  obtain ⟨-, -, m1, m2⟩ := C.rm
  exact x_after C hw (va_runV C.fix hM ⟨x_CB C hk.1 hk.2.1 hd, C.tb hk.2.2.1, C.tb hk.2.2.2⟩ ⟨(x_preS C hw _).1, hv, (x_preS C hw _).2⟩ rfl hn hs hst hro hdg ⟨by omega, by omega⟩) h1 kk
theorem x_callVN {y' : MethodName} {cc' : ByteArray} {nL' d' mc' ms' n index b : Nat} {ret' : Option FieldType} {As st0 st1 : List Value} {rv : Option Value} {σ' : xS} {τ' : yS} {Cn : String} (C : xC p s m args meth c R E A cc nL y ret d mc ms) (hw : xW E A s σ τ H locs) (hM : xM l E y' cc' nL' ret' d' mc' ms' (.ref b :: As) σ τ rv σ' τ') (hk : xkVN y.cls index Cn y' cc' nL' ret' n) (hv : ∃ cellB : Cell, H[b]? = some cellB ∧ cellB.vm.isStatics = false ∧ s.vm.findClass Cn = some cellB.cls) (hd : d' + 1 ≤ d) (hn : As.length = n) (hst : st0 = As.reverse ++ .ref b :: rest) (hs : ls.size = nL) (hro : 2 * (F0 m pc ls st0).monitorRoom + (rest.map fun v => v.category).sum ≤ 8) (hdg : decode cc pc = .ok (.invokevirtual index, 3)) (hms : cells + mc' ≤ mc ∧ slots + ms' ≤ ms) (h1 : rv.toList ++ rest = st1)
    (kk : ∀ (H : Heap) (locs : List Loc), xW E A s σ' τ' H locs → W p l e R s m args below meth c H locs (cells + mc') (slots + ms') Q (F0 m (pc + 3) ls st1)) : W p l e R s m args below meth c H locs cells slots Q (F0 m pc ls st0) := by
  obtain ⟨-, -, m1, m2⟩ := C.rm
  exact x_after C hw (va_runVN C.fix hM ⟨x_CN C hk.1 hk.2.1 hd, C.tb hk.2.2.1, C.tb hk.2.2.2⟩ ⟨(x_preS C hw _).1, hv, (x_preS C hw _).2⟩ rfl hn hs hst hro hdg ⟨by omega, by omega⟩) h1 kk
theorem x_callS {y' : MethodName} {cc' : ByteArray} {nL' d' mc' ms' n index : Nat} {ret' : Option FieldType} {As st0 st1 : List Value} {rv : Option Value} {σ' : xS} {τ' : yS} (C : xC p s m args meth c R E A cc nL y ret d mc ms) (hw : xW E A s σ τ H locs) (hM : xM l E y' cc' nL' ret' d' mc' ms' As σ τ rv σ' τ') (hk : xkS y.cls index y' cc' nL' ret' n) (hd : d' + 1 ≤ d) (hn : As.length = n) (hst : st0 = As.reverse ++ rest) (hs : ls.size = nL) (hro : 2 * (F0 m pc ls st0).monitorRoom + (rest.map fun v => v.category).sum ≤ 8) (hdg : decode cc pc = .ok (.invokestatic index, 3)) (hms : cells + mc' ≤ mc ∧ slots + ms' ≤ ms) (h1 : rv.toList ++ rest = st1)
    (kk : ∀ (H : Heap) (locs : List Loc), xW E A s σ' τ' H locs → W p l e R s m args below meth c H locs (cells + mc') (slots + ms') Q (F0 m (pc + 3) ls st1)) : W p l e R s m args below meth c H locs cells slots Q (F0 m pc ls st0) := by
  obtain ⟨-, -, m1, m2⟩ := C.rm
  exact x_after C hw (va_runS C.fix hM ⟨x_CB C hk.1 hk.2.1 hd, C.tb hk.2.2⟩ (x_preS C hw _) rfl hn hs hst hro hdg ⟨by omega, by omega⟩) h1 kk
theorem x_callSN {y' : MethodName} {cc' : ByteArray} {nL' d' mc' ms' n index : Nat} {ret' : Option FieldType} {As st0 st1 : List Value} {rv : Option Value} {σ' : xS} {τ' : yS} (C : xC p s m args meth c R E A cc nL y ret d mc ms) (hw : xW E A s σ τ H locs) (hM : xM l E y' cc' nL' ret' d' mc' ms' As σ τ rv σ' τ') (hk : xkSN y.cls index y' cc' nL' ret' n) (hd : d' + 1 ≤ d) (hn : As.length = n) (hst : st0 = As.reverse ++ rest) (hs : ls.size = nL) (hro : 2 * (F0 m pc ls st0).monitorRoom + (rest.map fun v => v.category).sum ≤ 8) (hdg : decode cc pc = .ok (.invokestatic index, 3)) (hms : cells + mc' ≤ mc ∧ slots + ms' ≤ ms) (h1 : rv.toList ++ rest = st1)
    (kk : ∀ (H : Heap) (locs : List Loc), xW E A s σ' τ' H locs → W p l e R s m args below meth c H locs (cells + mc') (slots + ms') Q (F0 m (pc + 3) ls st1)) : W p l e R s m args below meth c H locs cells slots Q (F0 m pc ls st0) := by
  obtain ⟨-, -, m1, m2⟩ := C.rm
  exact x_after C hw (va_runSN C.fix hM ⟨x_CN C hk.1 hk.2.1 hd, C.tb hk.2.2, trivial⟩ (x_preS C hw _) rfl hn hs hst hro hdg ⟨by omega, by omega⟩) h1 kk
theorem x_callIN {y' : MethodName} {cc' : ByteArray} {nL' d' mc' ms' n index b : Nat} {As st0 st1 : List Value} {rv : Option Value} {σ' : xS} {τ' : yS} (C : xC p s m args meth c R E A cc nL y ret d mc ms) (hw : xW E A s σ τ H locs) (hM : xM l E y' cc' nL' none d' mc' ms' (.ref b :: As) σ τ rv σ' τ') (hk : xkIN y.cls index y' cc' nL' n) (hd : d' + 1 ≤ d) (hn : As.length = n) (hst : st0 = As.reverse ++ .ref b :: rest) (hs : ls.size = nL) (hro : 2 * (F0 m pc ls st0).monitorRoom + (rest.map fun v => v.category).sum ≤ 8) (hdg : decode cc pc = .ok (.invokespecial index, 3)) (hms : cells + mc' ≤ mc ∧ slots + ms' ≤ ms) (h1 : rv.toList ++ rest = st1)
    (kk : ∀ (H : Heap) (locs : List Loc), xW E A s σ' τ' H locs → W p l e R s m args below meth c H locs (cells + mc') (slots + ms') Q (F0 m (pc + 3) ls st1)) : W p l e R s m args below meth c H locs cells slots Q (F0 m pc ls st0) := by
  obtain ⟨-, -, m1, m2⟩ := C.rm
  exact x_after C hw (va_runIN C.fix hM ⟨x_CN C hk.1 hk.2.1 hd, hk.2.2.2, C.tb hk.2.2.1⟩ (x_preS C hw _) rfl hn hs hst hro hdg ⟨by omega, by omega⟩) h1 kk
theorem x_recv (C : xC p s m args meth c R E A cc nL y ret d mc ms) (hw : xW E A s σ τ H locs) (r k : Nat) {ci N : Nat} {fs : List Value} {Cn : String} {T : u_T} (hp : xat r k) (hcell : x_cell E r k (σ.1 r k) (σ.2.1 r k) = .inr (ci, fs)) (hc : vwCl[ci]? = some (Cn, T, N)) (hr : r < 30 := by decide) : ∃ cellB : Cell, H[E.2.2.1 r k]? = some cellB ∧ cellB.vm.isStatics = false ∧ s.vm.findClass Cn = some cellB.cls :=
  va_recv C.K hw.1 hc (x_atX hp hr hcell)
theorem x_recvY (C : xC p s m args meth c R E A cc nL y ret d mc ms) (hw : xW E A s σ τ H locs) (r k : Nat) {ci N : Nat} {fs : List Value} {Cn : String} {T : u_T} (hp : xat r k) (hcell : x_cell E r k (τ r k) (σ.2.1 r k) = .inr (ci, fs)) (hc : vwCl[ci]? = some (Cn, T, N)) (hr : 30 ≤ r := by decide) : ∃ cellB : Cell, H[E.2.2.1 r k]? = some cellB ∧ cellB.vm.isStatics = false ∧ s.vm.findClass Cn = some cellB.cls :=
  va_recv C.K hw.1 hc (x_atY hp hr hcell)
end XR
