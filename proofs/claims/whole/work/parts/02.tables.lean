set_option maxRecDepth 100000 in
set_option maxHeartbeats 4000000 in
theorem tb_ok : ∀ w ∈ Tb, tb_okw w = true := fun w h => (List.mem_filter.mp h).2
set_option maxRecDepth 100000 in
set_option maxHeartbeats 4000000 in
theorem tb_on0 : ∀ w ∈ lw_tbl, tb_onw w = true := by decide +kernel
set_option maxRecDepth 100000 in
set_option maxHeartbeats 4000000 in
theorem tb_on : ∀ w ∈ Tb, tb_onw w = true := fun w h => tb_on0 w (List.mem_filter.mp h).1
set_option maxRecDepth 100000 in
set_option maxHeartbeats 4000000 in
theorem i_A0 : ∀ w ∈ u_ws RxA TxA 18, w ∈ lw_tbl ∧ tb_okw w = true := by decide +kernel
set_option maxRecDepth 100000 in
set_option maxHeartbeats 4000000 in
theorem i_A : ∀ w ∈ u_ws RxA TxA 18, w ∈ Tb := fun w h => tb_m (i_A0 w h).1 (i_A0 w h).2
set_option maxRecDepth 100000 in
set_option maxHeartbeats 4000000 in
theorem i_K0 : ∀ w ∈ u_ws RxK TxK 2, w ∈ lw_tbl ∧ tb_okw w = true := by decide +kernel
set_option maxRecDepth 100000 in
set_option maxHeartbeats 4000000 in
theorem i_K : ∀ w ∈ u_ws RxK TxK 2, w ∈ Tb := fun w h => tb_m (i_K0 w h).1 (i_K0 w h).2
set_option maxRecDepth 100000 in
set_option maxHeartbeats 4000000 in
theorem i_B0 : ∀ w ∈ u_ws RxB TxB 3, w ∈ lw_tbl ∧ tb_okw w = true := by decide +kernel
set_option maxRecDepth 100000 in
set_option maxHeartbeats 4000000 in
theorem i_B : ∀ w ∈ u_ws RxB TxB 3, w ∈ Tb := fun w h => tb_m (i_B0 w h).1 (i_B0 w h).2
set_option maxRecDepth 100000 in
set_option maxHeartbeats 4000000 in
theorem i_F0 : ∀ w ∈ u_ws RxF TxF 5, w ∈ lw_tbl ∧ tb_okw w = true := by decide +kernel
set_option maxRecDepth 100000 in
set_option maxHeartbeats 4000000 in
theorem i_F : ∀ w ∈ u_ws RxF TxF 5, w ∈ Tb := fun w h => tb_m (i_F0 w h).1 (i_F0 w h).2
set_option maxRecDepth 100000 in
set_option maxHeartbeats 4000000 in
theorem i_C0 : ∀ w ∈ u_ws RxC TxC 4, w ∈ lw_tbl ∧ tb_okw w = true := by decide +kernel
set_option maxRecDepth 100000 in
set_option maxHeartbeats 4000000 in
theorem i_C : ∀ w ∈ u_ws RxC TxC 4, w ∈ Tb := fun w h => tb_m (i_C0 w h).1 (i_C0 w h).2
set_option maxRecDepth 100000 in
set_option maxHeartbeats 4000000 in
theorem i_D0 : ∀ w ∈ u_ws RxD TxD 2, w ∈ lw_tbl ∧ tb_okw w = true := by decide +kernel
set_option maxRecDepth 100000 in
set_option maxHeartbeats 4000000 in
theorem i_D : ∀ w ∈ u_ws RxD TxD 2, w ∈ Tb := fun w h => tb_m (i_D0 w h).1 (i_D0 w h).2
set_option maxRecDepth 100000 in
set_option maxHeartbeats 4000000 in
theorem i_N0 : ∀ w ∈ u_ws RxN TxN 7, w ∈ lw_tbl ∧ tb_okw w = true := by decide +kernel
set_option maxRecDepth 100000 in
set_option maxHeartbeats 4000000 in
theorem i_N : ∀ w ∈ u_ws RxN TxN 7, w ∈ Tb := fun w h => tb_m (i_N0 w h).1 (i_N0 w h).2
set_option maxRecDepth 100000 in
set_option maxHeartbeats 4000000 in
theorem i_T0 : ∀ w ∈ u_ws RxT TxT 5, w ∈ lw_tbl ∧ tb_okw w = true := by decide +kernel
set_option maxRecDepth 100000 in
set_option maxHeartbeats 4000000 in
theorem i_T : ∀ w ∈ u_ws RxT TxT 5, w ∈ Tb := fun w h => tb_m (i_T0 w h).1 (i_T0 w h).2
set_option maxRecDepth 100000 in
set_option maxHeartbeats 4000000 in
theorem i_P0 : ∀ w ∈ u_ws RxP TxP 4, w ∈ lw_tbl ∧ tb_okw w = true := by decide +kernel
set_option maxRecDepth 100000 in
set_option maxHeartbeats 4000000 in
theorem i_P : ∀ w ∈ u_ws RxP TxP 4, w ∈ Tb := fun w h => tb_m (i_P0 w h).1 (i_P0 w h).2
set_option maxRecDepth 100000 in
set_option maxHeartbeats 4000000 in
theorem i_Q0 : ∀ w ∈ u_ws RxQ TxQ 3, w ∈ lw_tbl ∧ tb_okw w = true := by decide +kernel
set_option maxRecDepth 100000 in
set_option maxHeartbeats 4000000 in
theorem i_Q : ∀ w ∈ u_ws RxQ TxQ 3, w ∈ Tb := fun w h => tb_m (i_Q0 w h).1 (i_Q0 w h).2
set_option maxRecDepth 100000 in
set_option maxHeartbeats 4000000 in
theorem i_H0 : ∀ w ∈ u_ws RxH TxH 5, w ∈ lw_tbl ∧ tb_okw w = true := by decide +kernel
set_option maxRecDepth 100000 in
set_option maxHeartbeats 4000000 in
theorem i_H : ∀ w ∈ u_ws RxH TxH 5, w ∈ Tb := fun w h => tb_m (i_H0 w h).1 (i_H0 w h).2
set_option maxRecDepth 100000 in
set_option maxHeartbeats 4000000 in
theorem i_M0 : ∀ w ∈ u_ws RxM TxM 39, w ∈ lw_tbl ∧ tb_okw w = true := by decide +kernel
set_option maxRecDepth 100000 in
set_option maxHeartbeats 4000000 in
theorem i_M : ∀ w ∈ u_ws RxM TxM 39, w ∈ Tb := fun w h => tb_m (i_M0 w h).1 (i_M0 w h).2
def tb_ty (T : u_T) (k : Nat) : FieldType := (parseFieldDescriptor (T k).2.2.1).getD .int
set_option maxRecDepth 100000 in
set_option maxHeartbeats 4000000 in
theorem tb_lay {ci N : Nat} {Cn : String} {T : u_T} (hc : vwCl[ci]? = some (Cn, T, N)) : ∀ w ∈ u_ws Cn T N, w ∈ Tb := by
  match ci, hc with
  | 0, hc => cases hc; exact i_A
  | 1, hc => cases hc; exact i_K
  | 2, hc => cases hc; exact i_B
  | 3, hc => cases hc; exact i_F
  | 4, hc => cases hc; exact i_C
  | 5, hc => cases hc; exact i_D
  | 6, hc => cases hc; exact i_N
  | 7, hc => cases hc; exact i_T
  | 8, hc => cases hc; exact i_P
  | 9, hc => cases hc; exact i_Q
  | 10, hc => cases hc; exact i_H
  | 11, hc => cases hc; exact i_M
  | k + 12, hc => simp [vwCl] at hc
set_option maxRecDepth 100000 in
set_option maxHeartbeats 4000000 in
theorem tb_tyok {ci N : Nat} {Cn : String} {T : u_T} (hc : vwCl[ci]? = some (Cn, T, N)) : ∀ k, k < N → parseFieldDescriptor (T k).2.2.1 = some (tb_ty T k) := by
  match ci, hc with
  | 0, hc => cases hc; decide +kernel
  | 1, hc => cases hc; decide +kernel
  | 2, hc => cases hc; decide +kernel
  | 3, hc => cases hc; decide +kernel
  | 4, hc => cases hc; decide +kernel
  | 5, hc => cases hc; decide +kernel
  | 6, hc => cases hc; decide +kernel
  | 7, hc => cases hc; decide +kernel
  | 8, hc => cases hc; decide +kernel
  | 9, hc => cases hc; decide +kernel
  | 10, hc => cases hc; decide +kernel
  | 11, hc => cases hc; decide +kernel
  | k + 12, hc => simp [vwCl] at hc
set_option maxRecDepth 100000 in
set_option maxHeartbeats 4000000 in
theorem tb_nm {ci N : Nat} {Cn : String} {T : u_T} (hc : vwCl[ci]? = some (Cn, T, N)) : ∀ a, a < N → ∀ b, b < N → a ≠ b → (T a).2.1 ≠ (T b).2.1 := by
  match ci, hc with
  | 0, hc => cases hc; decide +kernel
  | 1, hc => cases hc; decide +kernel
  | 2, hc => cases hc; decide +kernel
  | 3, hc => cases hc; decide +kernel
  | 4, hc => cases hc; decide +kernel
  | 5, hc => cases hc; decide +kernel
  | 6, hc => cases hc; decide +kernel
  | 7, hc => cases hc; decide +kernel
  | 8, hc => cases hc; decide +kernel
  | 9, hc => cases hc; decide +kernel
  | 10, hc => cases hc; decide +kernel
  | 11, hc => cases hc; decide +kernel
  | k + 12, hc => simp [vwCl] at hc
set_option maxRecDepth 100000 in
set_option maxHeartbeats 4000000 in
theorem pd_I : parseFieldDescriptor "I" = some .int := by decide +kernel
set_option maxRecDepth 100000 in
set_option maxHeartbeats 4000000 in
theorem pd_Z : parseFieldDescriptor "Z" = some .boolean := by decide +kernel
set_option maxRecDepth 100000 in
set_option maxHeartbeats 4000000 in
theorem pd_H : parseFieldDescriptor "LStandIns$Matcher;" = some (.object "StandIns$Matcher") := by decide +kernel
set_option maxRecDepth 100000 in
set_option maxHeartbeats 4000000 in
theorem wO_inst : Cond.instanceMethod Lib.objectInit ∈ Tb := tb_1 (List.mem_of_getElem? (i := 20) rfl)
set_option maxRecDepth 100000 in
set_option maxHeartbeats 4000000 in
theorem wO_code : Cond.code Lib.objectInit ⟨#[0xb1]⟩ 1 none ∈ Tb := tb_1 (List.mem_of_getElem? (i := 21) rfl)
set_option maxRecDepth 100000 in
set_option maxHeartbeats 4000000 in
theorem wO_math : Cond.initialized "java/lang/Math" ∈ Tb := tb_1 (List.mem_of_getElem? (i := 12) rfl)
set_option maxRecDepth 100000 in
set_option maxHeartbeats 4000000 in
theorem wO_max1 : Cond.static Lib.Math.max.name ∈ Tb := tb_2 (List.mem_of_getElem? (i := 87) rfl)
set_option maxRecDepth 100000 in
set_option maxHeartbeats 4000000 in
theorem wO_max2 : Cond.code Lib.Math.max.name Lib.Math.max.code 2 (some .int) ∈ Tb := tb_2 (List.mem_of_getElem? (i := 88) rfl)
set_option maxRecDepth 100000 in
set_option maxHeartbeats 4000000 in
theorem wO_min1 : Cond.static Lib.Math.min.name ∈ Tb := tb_3 (List.mem_of_getElem? (i := 2) rfl)
set_option maxRecDepth 100000 in
set_option maxHeartbeats 4000000 in
theorem wO_min2 : Cond.code Lib.Math.min.name Lib.Math.min.code 2 (some .int) ∈ Tb := tb_3 (List.mem_of_getElem? (i := 3) rfl)
set_option maxRecDepth 100000 in
set_option maxHeartbeats 4000000 in
theorem wH_inst : Cond.instantiable RxH 5 ∈ Tb := tb_2 (List.mem_of_getElem? (i := 121) rfl)
set_option maxRecDepth 100000 in
set_option maxHeartbeats 4000000 in
theorem wH_init : Cond.initialized RxH ∈ Tb := tb_1 (List.mem_of_getElem? (i := 13) rfl)
