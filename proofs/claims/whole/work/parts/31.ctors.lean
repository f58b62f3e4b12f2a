set_option maxRecDepth 100000 in
theorem vD_3 : Cond.methodLink RxD 3 Lib.objectInit ∈ Tb := tb_1 (List.mem_of_getElem? (i := 208) rfl)
set_option maxRecDepth 100000 in
theorem vD_9 : Cond.fieldLink RxD 9 (TxD 0).1 (TxD 0).2.1 (TxD 0).2.2.1 ∈ Tb := tb_1 (List.mem_of_getElem? (i := 209) rfl)
set_option maxRecDepth 100000 in
theorem vD_15 : Cond.fieldLink RxD 15 (TxD 1).1 (TxD 1).2.1 (TxD 1).2.2.1 ∈ Tb := tb_1 (List.mem_of_getElem? (i := 211) rfl)
set_option maxRecDepth 100000 in
theorem vN_3 : Cond.methodLink RxN 3 Lib.objectInit ∈ Tb := tb_1 (List.mem_of_getElem? (i := 72) rfl)
set_option maxRecDepth 100000 in
theorem vN_9 : Cond.fieldLink RxN 9 (TxN 0).1 (TxN 0).2.1 (TxN 0).2.2.1 ∈ Tb := tb_1 (List.mem_of_getElem? (i := 73) rfl)
set_option maxRecDepth 100000 in
theorem vN_15 : Cond.fieldLink RxN 15 (TxN 1).1 (TxN 1).2.1 (TxN 1).2.2.1 ∈ Tb := tb_1 (List.mem_of_getElem? (i := 76) rfl)
set_option maxRecDepth 100000 in
theorem vN_18 : Cond.fieldLink RxN 18 (TxN 2).1 (TxN 2).2.1 (TxN 2).2.2.1 ∈ Tb := tb_1 (List.mem_of_getElem? (i := 80) rfl)
set_option maxRecDepth 100000 in
theorem vN_21 : Cond.fieldLink RxN 21 (TxN 3).1 (TxN 3).2.1 (TxN 3).2.2.1 ∈ Tb := tb_1 (List.mem_of_getElem? (i := 85) rfl)
set_option maxRecDepth 100000 in
theorem vN_24 : Cond.fieldLink RxN 24 (TxN 4).1 (TxN 4).2.1 (TxN 4).2.2.1 ∈ Tb := tb_1 (List.mem_of_getElem? (i := 91) rfl)
set_option maxRecDepth 100000 in
theorem vN_27 : Cond.fieldLink RxN 27 (TxN 5).1 (TxN 5).2.1 (TxN 5).2.2.1 ∈ Tb := tb_1 (List.mem_of_getElem? (i := 97) rfl)
set_option maxRecDepth 100000 in
theorem vN_31 : Cond.fieldLink RxN 31 (TxN 6).1 (TxN 6).2.1 (TxN 6).2.2.1 ∈ Tb := tb_1 (List.mem_of_getElem? (i := 100) rfl)
set_option maxRecDepth 100000 in
theorem vP_3 : Cond.methodLink RxP 3 Lib.objectInit ∈ Tb := tb_1 (List.mem_of_getElem? (i := 184) rfl)
set_option maxRecDepth 100000 in
theorem vP_9 : Cond.fieldLink RxP 9 (TxP 0).1 (TxP 0).2.1 (TxP 0).2.2.1 ∈ Tb := tb_1 (List.mem_of_getElem? (i := 185) rfl)
set_option maxRecDepth 100000 in
theorem vP_15 : Cond.fieldLink RxP 15 (TxP 1).1 (TxP 1).2.1 (TxP 1).2.2.1 ∈ Tb := tb_1 (List.mem_of_getElem? (i := 188) rfl)
set_option maxRecDepth 100000 in
theorem vP_18 : Cond.fieldLink RxP 18 (TxP 2).1 (TxP 2).2.1 (TxP 2).2.2.1 ∈ Tb := tb_1 (List.mem_of_getElem? (i := 191) rfl)
set_option maxRecDepth 100000 in
theorem vP_22 : Cond.fieldLink RxP 22 (TxP 3).1 (TxP 3).2.1 (TxP 3).2.2.1 ∈ Tb := tb_1 (List.mem_of_getElem? (i := 193) rfl)
set_option maxRecDepth 100000 in
theorem vQ_3 : Cond.methodLink RxQ 3 Lib.objectInit ∈ Tb := tb_1 (List.mem_of_getElem? (i := 47) rfl)
set_option maxRecDepth 100000 in
theorem vQ_9 : Cond.fieldLink RxQ 9 (TxQ 0).1 (TxQ 0).2.1 (TxQ 0).2.2.1 ∈ Tb := tb_1 (List.mem_of_getElem? (i := 48) rfl)
set_option maxRecDepth 100000 in
theorem vQ_15 : Cond.fieldLink RxQ 15 (TxQ 1).1 (TxQ 1).2.1 (TxQ 1).2.2.1 ∈ Tb := tb_1 (List.mem_of_getElem? (i := 49) rfl)
set_option maxRecDepth 100000 in
theorem vQ_18 : Cond.fieldLink RxQ 18 (TxQ 2).1 (TxQ 2).2.1 (TxQ 2).2.2.1 ∈ Tb := tb_1 (List.mem_of_getElem? (i := 50) rfl)
set_option maxRecDepth 100000 in
theorem vT_1 : Cond.methodLink RxT 1 Lib.objectInit ∈ Tb := tb_1 (List.mem_of_getElem? (i := 223) rfl)
set_option maxRecDepth 100000 in
theorem vT_7 : Cond.classLink RxT 7 RxP ∈ Tb := tb_1 (List.mem_of_getElem? (i := 224) rfl)
set_option maxRecDepth 100000 in
theorem xc_P_init : xk yP_init bP_init 1 none 0 := ⟨tb_1 (List.mem_of_getElem? (i := 183) rfl), tb_1 (List.mem_of_getElem? (i := 8) rfl), by decide +kernel, by decide⟩
set_option maxRecDepth 100000 in
theorem kcT_9 : xkIN RxT 9 yP_init bP_init 1 0 := ⟨xc_P_init, tb_1 (List.mem_of_getElem? (i := 225) rfl), tb_1 (List.mem_of_getElem? (i := 182) rfl), rfl⟩
set_option maxRecDepth 100000 in
theorem vT_10 : Cond.fieldLink RxT 10 (TxT 0).1 (TxT 0).2.1 (TxT 0).2.2.1 ∈ Tb := tb_1 (List.mem_of_getElem? (i := 228) rfl)
set_option maxRecDepth 100000 in
theorem vT_16 : Cond.classLink RxT 16 RxQ ∈ Tb := tb_1 (List.mem_of_getElem? (i := 226) rfl)
set_option maxRecDepth 100000 in
theorem xc_Q_init : xk yQ_init bQ_init 1 none 0 := ⟨tb_1 (List.mem_of_getElem? (i := 46) rfl), tb_1 (List.mem_of_getElem? (i := 3) rfl), by decide +kernel, by decide⟩
set_option maxRecDepth 100000 in
theorem kcT_18 : xkIN RxT 18 yQ_init bQ_init 1 0 := ⟨xc_Q_init, tb_1 (List.mem_of_getElem? (i := 227) rfl), tb_1 (List.mem_of_getElem? (i := 45) rfl), rfl⟩
set_option maxRecDepth 100000 in
theorem vT_19 : Cond.fieldLink RxT 19 (TxT 1).1 (TxT 1).2.1 (TxT 1).2.2.1 ∈ Tb := tb_1 (List.mem_of_getElem? (i := 230) rfl)
set_option maxRecDepth 100000 in
theorem vT_23 : Cond.fieldLink RxT 23 (TxT 2).1 (TxT 2).2.1 (TxT 2).2.2.1 ∈ Tb := tb_1 (List.mem_of_getElem? (i := 232) rfl)
set_option maxRecDepth 100000 in
theorem vT_27 : Cond.fieldLink RxT 27 (TxT 3).1 (TxT 3).2.1 (TxT 3).2.2.1 ∈ Tb := tb_1 (List.mem_of_getElem? (i := 233) rfl)
set_option maxRecDepth 100000 in
theorem vT_30 : Cond.fieldLink RxT 30 (TxT 4).1 (TxT 4).2.1 (TxT 4).2.2.1 ∈ Tb := tb_1 (List.mem_of_getElem? (i := 235) rfl)
set_option maxRecDepth 100000 in
theorem vK_3 : Cond.methodLink RxK 3 Lib.objectInit ∈ Tb := tb_1 (List.mem_of_getElem? (i := 29) rfl)
set_option maxRecDepth 100000 in
theorem vK_9 : Cond.classLink RxK 9 RxH ∈ Tb := tb_1 (List.mem_of_getElem? (i := 30) rfl)
set_option maxRecDepth 100000 in
theorem vK_11 : Cond.fieldLink RxK 11 (TxK 0).1 (TxK 0).2.1 (TxK 0).2.2.1 ∈ Tb := tb_1 (List.mem_of_getElem? (i := 32) rfl)
set_option maxRecDepth 100000 in
theorem vK_17 : Cond.fieldLink RxK 17 (TxK 1).1 (TxK 1).2.1 (TxK 1).2.2.1 ∈ Tb := tb_1 (List.mem_of_getElem? (i := 34) rfl)
set_option maxRecDepth 100000 in
theorem vF_3 : Cond.methodLink RxF 3 Lib.objectInit ∈ Tb := tb_1 (List.mem_of_getElem? (i := 136) rfl)
set_option maxRecDepth 100000 in
theorem vF_9 : Cond.fieldLink RxF 9 (TxF 0).1 (TxF 0).2.1 (TxF 0).2.2.1 ∈ Tb := tb_1 (List.mem_of_getElem? (i := 137) rfl)
set_option maxRecDepth 100000 in
theorem vF_15 : Cond.fieldLink RxF 15 (TxF 1).1 (TxF 1).2.1 (TxF 1).2.2.1 ∈ Tb := tb_1 (List.mem_of_getElem? (i := 139) rfl)
set_option maxRecDepth 100000 in
theorem vF_18 : Cond.fieldLink RxF 18 (TxF 2).1 (TxF 2).2.1 (TxF 2).2.2.1 ∈ Tb := tb_1 (List.mem_of_getElem? (i := 141) rfl)
set_option maxRecDepth 100000 in
theorem vF_22 : Cond.fieldLink RxF 22 (TxF 3).1 (TxF 3).2.1 (TxF 3).2.2.1 ∈ Tb := tb_1 (List.mem_of_getElem? (i := 143) rfl)
set_option maxRecDepth 100000 in
theorem vF_26 : Cond.fieldLink RxF 26 (TxF 4).1 (TxF 4).2.1 (TxF 4).2.2.1 ∈ Tb := tb_1 (List.mem_of_getElem? (i := 145) rfl)
set_option maxRecDepth 100000 in
theorem vC_3 : Cond.methodLink RxC 3 Lib.objectInit ∈ Tb := tb_1 (List.mem_of_getElem? (i := 163) rfl)
set_option maxRecDepth 100000 in
theorem vC_9 : Cond.fieldLink RxC 9 (TxC 0).1 (TxC 0).2.1 (TxC 0).2.2.1 ∈ Tb := tb_1 (List.mem_of_getElem? (i := 164) rfl)
set_option maxRecDepth 100000 in
theorem vC_15 : Cond.fieldLink RxC 15 (TxC 1).1 (TxC 1).2.1 (TxC 1).2.2.1 ∈ Tb := tb_1 (List.mem_of_getElem? (i := 165) rfl)
set_option maxRecDepth 100000 in
theorem vC_19 : Cond.fieldLink RxC 19 (TxC 2).1 (TxC 2).2.1 (TxC 2).2.2.1 ∈ Tb := tb_1 (List.mem_of_getElem? (i := 166) rfl)
set_option maxRecDepth 100000 in
theorem vC_22 : Cond.fieldLink RxC 22 (TxC 3).1 (TxC 3).2.1 (TxC 3).2.2.1 ∈ Tb := tb_1 (List.mem_of_getElem? (i := 168) rfl)
set_option maxRecDepth 100000 in
theorem vB_11 : Cond.fieldLink RxB 11 (TxB 0).1 (TxB 0).2.1 (TxB 0).2.2.1 ∈ Tb := tb_1 (List.mem_of_getElem? (i := 117) rfl)
set_option maxRecDepth 100000 in
theorem vB_9 : Cond.classLink RxB 9 RxN ∈ Tb := tb_1 (List.mem_of_getElem? (i := 66) rfl)
set_option maxRecDepth 100000 in
theorem xc_N_init : xk yN_init bN_init 1 none 0 := ⟨tb_1 (List.mem_of_getElem? (i := 71) rfl), tb_1 (List.mem_of_getElem? (i := 5) rfl), by decide +kernel, by decide⟩
set_option maxRecDepth 100000 in
theorem kcB_24 : xkIN RxB 24 yN_init bN_init 1 0 := ⟨xc_N_init, tb_1 (List.mem_of_getElem? (i := 69) rfl), tb_1 (List.mem_of_getElem? (i := 70) rfl), rfl⟩
set_option maxRecDepth 100000 in
theorem vB_3 : Cond.methodLink RxB 3 Lib.objectInit ∈ Tb := tb_1 (List.mem_of_getElem? (i := 65) rfl)
set_option maxRecDepth 100000 in
theorem vB_17 : Cond.fieldLink RxB 17 (TxB 1).1 (TxB 1).2.1 (TxB 1).2.2.1 ∈ Tb := tb_1 (List.mem_of_getElem? (i := 119) rfl)
set_option maxRecDepth 100000 in
theorem vB_21 : Cond.fieldLink RxB 21 (TxB 2).1 (TxB 2).2.1 (TxB 2).2.2.1 ∈ Tb := tb_1 (List.mem_of_getElem? (i := 121) rfl)
set_option maxRecDepth 100000 in
theorem vA_49 : Cond.fieldLink RxA 49 (TxA 7).1 (TxA 7).2.1 (TxA 7).2.2.1 ∈ Tb := tb_2 (List.mem_of_getElem? (i := 15) rfl)
set_option maxRecDepth 100000 in
theorem vA_47 : Cond.classLink RxA 47 RxT ∈ Tb := tb_1 (List.mem_of_getElem? (i := 129) rfl)
set_option maxRecDepth 100000 in
theorem xc_T_init : xk yT_init bT_init 1 none 0 := ⟨tb_1 (List.mem_of_getElem? (i := 222) rfl), tb_1 (List.mem_of_getElem? (i := 10) rfl), by decide +kernel, by decide⟩
set_option maxRecDepth 100000 in
theorem kcA_96 : xkIN RxA 96 yT_init bT_init 1 0 := ⟨xc_T_init, tb_1 (List.mem_of_getElem? (i := 220) rfl), tb_1 (List.mem_of_getElem? (i := 221) rfl), rfl⟩
set_option maxRecDepth 100000 in
theorem vA_11 : Cond.fieldLink RxA 11 (TxA 0).1 (TxA 0).2.1 (TxA 0).2.2.1 ∈ Tb := tb_2 (List.mem_of_getElem? (i := 8) rfl)
set_option maxRecDepth 100000 in
theorem vA_9 : Cond.classLink RxA 9 RxD ∈ Tb := tb_1 (List.mem_of_getElem? (i := 22) rfl)
set_option maxRecDepth 100000 in
theorem xc_D_init : xk yD_init bD_init 1 none 0 := ⟨tb_1 (List.mem_of_getElem? (i := 207) rfl), tb_1 (List.mem_of_getElem? (i := 9) rfl), by decide +kernel, by decide⟩
set_option maxRecDepth 100000 in
theorem kcA_95 : xkIN RxA 95 yD_init bD_init 1 0 := ⟨xc_D_init, tb_1 (List.mem_of_getElem? (i := 205) rfl), tb_1 (List.mem_of_getElem? (i := 206) rfl), rfl⟩
set_option maxRecDepth 100000 in
theorem vA_1 : Cond.methodLink RxA 1 Lib.objectInit ∈ Tb := tb_1 (List.mem_of_getElem? (i := 19) rfl)
set_option maxRecDepth 100000 in
theorem vA_15 : Cond.fieldLink RxA 15 (TxA 1).1 (TxA 1).2.1 (TxA 1).2.2.1 ∈ Tb := tb_2 (List.mem_of_getElem? (i := 9) rfl)
set_option maxRecDepth 100000 in
theorem vA_19 : Cond.fieldLink RxA 19 (TxA 2).1 (TxA 2).2.1 (TxA 2).2.2.1 ∈ Tb := tb_2 (List.mem_of_getElem? (i := 10) rfl)
set_option maxRecDepth 100000 in
theorem vA_22 : Cond.fieldLink RxA 22 (TxA 3).1 (TxA 3).2.1 (TxA 3).2.2.1 ∈ Tb := tb_2 (List.mem_of_getElem? (i := 11) rfl)
set_option maxRecDepth 100000 in
theorem vA_26 : Cond.classLink RxA 26 RxK ∈ Tb := tb_1 (List.mem_of_getElem? (i := 24) rfl)
set_option maxRecDepth 100000 in
theorem xc_K_init : xk yK_init bK_init 1 none 0 := ⟨tb_1 (List.mem_of_getElem? (i := 28) rfl), tb_1 (List.mem_of_getElem? (i := 2) rfl), by decide +kernel, by decide⟩
set_option maxRecDepth 100000 in
theorem kcA_28 : xkIN RxA 28 yK_init bK_init 1 0 := ⟨xc_K_init, tb_1 (List.mem_of_getElem? (i := 26) rfl), tb_1 (List.mem_of_getElem? (i := 27) rfl), rfl⟩
set_option maxRecDepth 100000 in
theorem vA_29 : Cond.fieldLink RxA 29 (TxA 4).1 (TxA 4).2.1 (TxA 4).2.2.1 ∈ Tb := tb_2 (List.mem_of_getElem? (i := 12) rfl)
set_option maxRecDepth 100000 in
theorem vA_33 : Cond.classLink RxA 33 RxQ ∈ Tb := tb_1 (List.mem_of_getElem? (i := 42) rfl)
set_option maxRecDepth 100000 in
theorem kcA_35 : xkIN RxA 35 yQ_init bQ_init 1 0 := ⟨xc_Q_init, tb_1 (List.mem_of_getElem? (i := 44) rfl), tb_1 (List.mem_of_getElem? (i := 45) rfl), rfl⟩
set_option maxRecDepth 100000 in
theorem vA_36 : Cond.fieldLink RxA 36 (TxA 5).1 (TxA 5).2.1 (TxA 5).2.2.1 ∈ Tb := tb_2 (List.mem_of_getElem? (i := 13) rfl)
set_option maxRecDepth 100000 in
theorem vA_40 : Cond.classLink RxA 40 RxB ∈ Tb := tb_1 (List.mem_of_getElem? (i := 60) rfl)
set_option maxRecDepth 100000 in
theorem xc_B_init : xk yB_init bB_init 2 none 0 := ⟨tb_1 (List.mem_of_getElem? (i := 64) rfl), tb_1 (List.mem_of_getElem? (i := 4) rfl), by decide +kernel, by decide⟩
set_option maxRecDepth 100000 in
theorem kcA_42 : xkIN RxA 42 yB_init bB_init 2 0 := ⟨xc_B_init, tb_1 (List.mem_of_getElem? (i := 62) rfl), tb_1 (List.mem_of_getElem? (i := 63) rfl), rfl⟩
set_option maxRecDepth 100000 in
theorem vA_43 : Cond.fieldLink RxA 43 (TxA 6).1 (TxA 6).2.1 (TxA 6).2.2.1 ∈ Tb := tb_2 (List.mem_of_getElem? (i := 14) rfl)
set_option maxRecDepth 100000 in
theorem vA_53 : Cond.fieldLink RxA 53 (TxA 8).1 (TxA 8).2.1 (TxA 8).2.2.1 ∈ Tb := tb_2 (List.mem_of_getElem? (i := 16) rfl)
set_option maxRecDepth 100000 in
theorem vA_56 : Cond.classLink RxA 56 RxF ∈ Tb := tb_1 (List.mem_of_getElem? (i := 131) rfl)
set_option maxRecDepth 100000 in
theorem xc_F_init : xk yF_init bF_init 1 none 0 := ⟨tb_1 (List.mem_of_getElem? (i := 135) rfl), tb_1 (List.mem_of_getElem? (i := 6) rfl), by decide +kernel, by decide⟩
set_option maxRecDepth 100000 in
theorem kcA_58 : xkIN RxA 58 yF_init bF_init 1 0 := ⟨xc_F_init, tb_1 (List.mem_of_getElem? (i := 133) rfl), tb_1 (List.mem_of_getElem? (i := 134) rfl), rfl⟩
set_option maxRecDepth 100000 in
theorem vA_59 : Cond.fieldLink RxA 59 (TxA 9).1 (TxA 9).2.1 (TxA 9).2.2.1 ∈ Tb := tb_2 (List.mem_of_getElem? (i := 17) rfl)
set_option maxRecDepth 100000 in
theorem vA_63 : Cond.classLink RxA 63 RxC ∈ Tb := tb_1 (List.mem_of_getElem? (i := 158) rfl)
set_option maxRecDepth 100000 in
theorem xc_C_init : xk yC_init bC_init 1 none 0 := ⟨tb_1 (List.mem_of_getElem? (i := 162) rfl), tb_1 (List.mem_of_getElem? (i := 7) rfl), by decide +kernel, by decide⟩
set_option maxRecDepth 100000 in
theorem kcA_65 : xkIN RxA 65 yC_init bC_init 1 0 := ⟨xc_C_init, tb_1 (List.mem_of_getElem? (i := 160) rfl), tb_1 (List.mem_of_getElem? (i := 161) rfl), rfl⟩
set_option maxRecDepth 100000 in
theorem vA_66 : Cond.fieldLink RxA 66 (TxA 10).1 (TxA 10).2.1 (TxA 10).2.2.1 ∈ Tb := tb_2 (List.mem_of_getElem? (i := 18) rfl)
set_option maxRecDepth 100000 in
theorem vA_70 : Cond.classLink RxA 70 RxP ∈ Tb := tb_1 (List.mem_of_getElem? (i := 179) rfl)
set_option maxRecDepth 100000 in
theorem kcA_72 : xkIN RxA 72 yP_init bP_init 1 0 := ⟨xc_P_init, tb_1 (List.mem_of_getElem? (i := 181) rfl), tb_1 (List.mem_of_getElem? (i := 182) rfl), rfl⟩
set_option maxRecDepth 100000 in
theorem vA_73 : Cond.fieldLink RxA 73 (TxA 11).1 (TxA 11).2.1 (TxA 11).2.2.1 ∈ Tb := tb_2 (List.mem_of_getElem? (i := 19) rfl)
set_option maxRecDepth 100000 in
theorem vA_77 : Cond.fieldLink RxA 77 (TxA 12).1 (TxA 12).2.1 (TxA 12).2.2.1 ∈ Tb := tb_2 (List.mem_of_getElem? (i := 20) rfl)
set_option maxRecDepth 100000 in
theorem vA_80 : Cond.fieldLink RxA 80 (TxA 13).1 (TxA 13).2.1 (TxA 13).2.2.1 ∈ Tb := tb_2 (List.mem_of_getElem? (i := 21) rfl)
set_option maxRecDepth 100000 in
theorem vA_83 : Cond.fieldLink RxA 83 (TxA 14).1 (TxA 14).2.1 (TxA 14).2.2.1 ∈ Tb := tb_2 (List.mem_of_getElem? (i := 22) rfl)
set_option maxRecDepth 100000 in
theorem vA_86 : Cond.fieldLink RxA 86 (TxA 15).1 (TxA 15).2.1 (TxA 15).2.2.1 ∈ Tb := tb_2 (List.mem_of_getElem? (i := 23) rfl)
set_option maxRecDepth 100000 in
theorem vA_89 : Cond.fieldLink RxA 89 (TxA 16).1 (TxA 16).2.1 (TxA 16).2.2.1 ∈ Tb := tb_2 (List.mem_of_getElem? (i := 24) rfl)
set_option maxRecDepth 100000 in
theorem vA_92 : Cond.fieldLink RxA 92 (TxA 17).1 (TxA 17).2.1 (TxA 17).2.2.1 ∈ Tb := tb_2 (List.mem_of_getElem? (i := 25) rfl)
set_option maxRecDepth 100000 in
theorem vM_13 : Cond.fieldLink RxM 13 (TxM 1).1 (TxM 1).2.1 (TxM 1).2.2.1 ∈ Tb := tb_3 (List.mem_of_getElem? (i := 105) rfl)
set_option maxRecDepth 100000 in
theorem vM_1 : Cond.methodLink RxM 1 Lib.objectInit ∈ Tb := tb_3 (List.mem_of_getElem? (i := 103) rfl)
set_option maxRecDepth 100000 in
theorem vM_7 : Cond.fieldLink RxM 7 (TxM 0).1 (TxM 0).2.1 (TxM 0).2.2.1 ∈ Tb := tb_3 (List.mem_of_getElem? (i := 104) rfl)
set_option maxRecDepth 100000 in
theorem vM_17 : Cond.fieldLink RxM 17 (TxM 2).1 (TxM 2).2.1 (TxM 2).2.2.1 ∈ Tb := tb_3 (List.mem_of_getElem? (i := 106) rfl)
set_option maxRecDepth 100000 in
theorem vM_20 : Cond.fieldLink RxM 20 (TxM 3).1 (TxM 3).2.1 (TxM 3).2.2.1 ∈ Tb := tb_3 (List.mem_of_getElem? (i := 107) rfl)
set_option maxRecDepth 100000 in
theorem vM_23 : Cond.fieldLink RxM 23 (TxM 5).1 (TxM 5).2.1 (TxM 5).2.2.1 ∈ Tb := tb_3 (List.mem_of_getElem? (i := 109) rfl)
set_option maxRecDepth 100000 in
theorem vM_26 : Cond.fieldLink RxM 26 (TxM 6).1 (TxM 6).2.1 (TxM 6).2.2.1 ∈ Tb := tb_3 (List.mem_of_getElem? (i := 110) rfl)
set_option maxRecDepth 100000 in
theorem vM_29 : Cond.fieldLink RxM 29 (TxM 7).1 (TxM 7).2.1 (TxM 7).2.2.1 ∈ Tb := tb_3 (List.mem_of_getElem? (i := 111) rfl)
set_option maxRecDepth 100000 in
theorem vM_32 : Cond.fieldLink RxM 32 (TxM 13).1 (TxM 13).2.1 (TxM 13).2.2.1 ∈ Tb := tb_3 (List.mem_of_getElem? (i := 117) rfl)
set_option maxRecDepth 100000 in
theorem vM_35 : Cond.fieldLink RxM 35 (TxM 14).1 (TxM 14).2.1 (TxM 14).2.2.1 ∈ Tb := tb_3 (List.mem_of_getElem? (i := 118) rfl)
set_option maxRecDepth 100000 in
theorem vM_38 : Cond.fieldLink RxM 38 (TxM 15).1 (TxM 15).2.1 (TxM 15).2.2.1 ∈ Tb := tb_3 (List.mem_of_getElem? (i := 119) rfl)
set_option maxRecDepth 100000 in
theorem vM_41 : Cond.fieldLink RxM 41 (TxM 16).1 (TxM 16).2.1 (TxM 16).2.2.1 ∈ Tb := tb_3 (List.mem_of_getElem? (i := 120) rfl)
set_option maxRecDepth 100000 in
theorem vM_44 : Cond.fieldLink RxM 44 (TxM 17).1 (TxM 17).2.1 (TxM 17).2.2.1 ∈ Tb := tb_3 (List.mem_of_getElem? (i := 121) rfl)
set_option maxRecDepth 100000 in
theorem vM_47 : Cond.fieldLink RxM 47 (TxM 18).1 (TxM 18).2.1 (TxM 18).2.2.1 ∈ Tb := tb_3 (List.mem_of_getElem? (i := 122) rfl)
set_option maxRecDepth 100000 in
theorem vM_50 : Cond.fieldLink RxM 50 (TxM 19).1 (TxM 19).2.1 (TxM 19).2.2.1 ∈ Tb := tb_3 (List.mem_of_getElem? (i := 123) rfl)
set_option maxRecDepth 100000 in
theorem vM_53 : Cond.fieldLink RxM 53 (TxM 22).1 (TxM 22).2.1 (TxM 22).2.2.1 ∈ Tb := tb_3 (List.mem_of_getElem? (i := 126) rfl)
set_option maxRecDepth 100000 in
theorem vM_56 : Cond.fieldLink RxM 56 (TxM 23).1 (TxM 23).2.1 (TxM 23).2.2.1 ∈ Tb := tb_3 (List.mem_of_getElem? (i := 127) rfl)
set_option maxRecDepth 100000 in
theorem vM_59 : Cond.fieldLink RxM 59 (TxM 24).1 (TxM 24).2.1 (TxM 24).2.2.1 ∈ Tb := tb_3 (List.mem_of_getElem? (i := 128) rfl)
set_option maxRecDepth 100000 in
theorem vM_62 : Cond.fieldLink RxM 62 (TxM 25).1 (TxM 25).2.1 (TxM 25).2.2.1 ∈ Tb := tb_3 (List.mem_of_getElem? (i := 129) rfl)
set_option maxRecDepth 100000 in
theorem vM_65 : Cond.fieldLink RxM 65 (TxM 26).1 (TxM 26).2.1 (TxM 26).2.2.1 ∈ Tb := tb_3 (List.mem_of_getElem? (i := 130) rfl)
set_option maxRecDepth 100000 in
theorem vM_68 : Cond.fieldLink RxM 68 (TxM 27).1 (TxM 27).2.1 (TxM 27).2.2.1 ∈ Tb := tb_3 (List.mem_of_getElem? (i := 131) rfl)
set_option maxRecDepth 100000 in
theorem vM_71 : Cond.fieldLink RxM 71 (TxM 28).1 (TxM 28).2.1 (TxM 28).2.2.1 ∈ Tb := tb_3 (List.mem_of_getElem? (i := 132) rfl)
set_option maxRecDepth 100000 in
theorem vM_74 : Cond.fieldLink RxM 74 (TxM 31).1 (TxM 31).2.1 (TxM 31).2.2.1 ∈ Tb := tb_3 (List.mem_of_getElem? (i := 135) rfl)
set_option maxRecDepth 100000 in
theorem vM_78 : Cond.fieldLink RxM 78 (TxM 32).1 (TxM 32).2.1 (TxM 32).2.2.1 ∈ Tb := tb_3 (List.mem_of_getElem? (i := 136) rfl)
set_option maxRecDepth 100000 in
theorem vM_81 : Cond.fieldLink RxM 81 (TxM 33).1 (TxM 33).2.1 (TxM 33).2.2.1 ∈ Tb := tb_3 (List.mem_of_getElem? (i := 137) rfl)
set_option maxRecDepth 100000 in
theorem vM_84 : Cond.fieldLink RxM 84 (TxM 34).1 (TxM 34).2.1 (TxM 34).2.2.1 ∈ Tb := tb_3 (List.mem_of_getElem? (i := 138) rfl)
theorem pc_0 : parseFieldDescriptor "I" = some .int := by decide +kernel
theorem pc_1 : parseFieldDescriptor "LStandIns$Answers;" = some (.object "StandIns$Answers") := by decide +kernel
theorem pc_2 : parseFieldDescriptor "LStandIns$Catches;" = some (.object "StandIns$Catches") := by decide +kernel
theorem pc_3 : parseFieldDescriptor "LStandIns$Finding;" = some (.object "StandIns$Finding") := by decide +kernel
theorem pc_4 : parseFieldDescriptor "LStandIns$Matcher;" = some (.object "StandIns$Matcher") := by decide +kernel
theorem pc_5 : parseFieldDescriptor "LStandIns$Notebook;" = some (.object "StandIns$Notebook") := by decide +kernel
theorem pc_6 : parseFieldDescriptor "LStandIns$Pattern;" = some (.object "StandIns$Pattern") := by decide +kernel
theorem pc_7 : parseFieldDescriptor "LStandIns$Stack;" = some (.object "StandIns$Stack") := by decide +kernel
theorem pc_8 : parseFieldDescriptor "Z" = some .boolean := by decide +kernel
theorem pc_9 : parseFieldDescriptor "[I" = some (.array .int) := by decide +kernel
theorem pc_10 : parseFieldDescriptor "[LStandIns$Matcher;" = some (.array (.object "StandIns$Matcher")) := by decide +kernel
theorem pc_11 : parseFieldDescriptor "[LStandIns$Method;" = some (.array (.object "StandIns$Method")) := by decide +kernel
theorem pc_12 : parseFieldDescriptor "[LStandIns$Note;" = some (.array (.object "StandIns$Note")) := by decide +kernel
theorem pc_13 : parseFieldDescriptor "[LStandIns$Telling;" = some (.array (.object "StandIns$Telling")) := by decide +kernel
theorem pc_14 : parseFieldDescriptor "[Z" = some (.array .boolean) := by decide +kernel
set_option maxRecDepth 100000 in
theorem born_A (h : Nat) : ∀ j, j < 18 → defaultValue (tb_ty TxA j) = vp_V (([.inr none, .inr none, .inr none, .inl 0, .inr none, .inr none, .inr none, .inr none, .inl 0, .inr none, .inr none, .inr none, .inl 0, .inl 0, .inl 0, .inl 0, .inl 0, .inl 0] : List vD).map (c_v h)) j := by
  intro j hj
  match j, hj with
  | 0, _ => rw [show tb_ty TxA 0 = (.array (.object "StandIns$Method")) from by decide +kernel]; rfl
  | 1, _ => rw [show tb_ty TxA 1 = (.array .int) from by decide +kernel]; rfl
  | 2, _ => rw [show tb_ty TxA 2 = (.array .int) from by decide +kernel]; rfl
  | 3, _ => rw [show tb_ty TxA 3 = .int from by decide +kernel]; rfl
  | 4, _ => rw [show tb_ty TxA 4 = (.object "StandIns$Stack") from by decide +kernel]; rfl
  | 5, _ => rw [show tb_ty TxA 5 = (.object "StandIns$Answers") from by decide +kernel]; rfl
  | 6, _ => rw [show tb_ty TxA 6 = (.object "StandIns$Notebook") from by decide +kernel]; rfl
  | 7, _ => rw [show tb_ty TxA 7 = (.array (.object "StandIns$Telling")) from by decide +kernel]; rfl
  | 8, _ => rw [show tb_ty TxA 8 = .int from by decide +kernel]; rfl
  | 9, _ => rw [show tb_ty TxA 9 = (.object "StandIns$Finding") from by decide +kernel]; rfl
  | 10, _ => rw [show tb_ty TxA 10 = (.object "StandIns$Catches") from by decide +kernel]; rfl
  | 11, _ => rw [show tb_ty TxA 11 = (.object "StandIns$Pattern") from by decide +kernel]; rfl
  | 12, _ => rw [show tb_ty TxA 12 = .int from by decide +kernel]; rfl
  | 13, _ => rw [show tb_ty TxA 13 = .int from by decide +kernel]; rfl
  | 14, _ => rw [show tb_ty TxA 14 = .int from by decide +kernel]; rfl
  | 15, _ => rw [show tb_ty TxA 15 = .int from by decide +kernel]; rfl
  | 16, _ => rw [show tb_ty TxA 16 = .int from by decide +kernel]; rfl
  | 17, _ => rw [show tb_ty TxA 17 = .int from by decide +kernel]; rfl
  | k + 18, hj => omega
set_option maxRecDepth 100000 in
theorem in1_A : Cond.instantiable RxA 18 ∈ Tb := tb_1 (List.mem_of_getElem? (i := 15) rfl)
set_option maxRecDepth 100000 in
theorem in2_A : Cond.initialized RxA ∈ Tb := tb_1 (List.mem_of_getElem? (i := 1) rfl)
set_option maxRecDepth 100000 in
theorem born_K (h : Nat) : ∀ j, j < 2 → defaultValue (tb_ty TxK j) = vp_V (([.inr none, .inl 0] : List vD).map (c_v h)) j := by
  intro j hj
  match j, hj with
  | 0, _ => rw [show tb_ty TxK 0 = (.array (.object "StandIns$Matcher")) from by decide +kernel]; rfl
  | 1, _ => rw [show tb_ty TxK 1 = .int from by decide +kernel]; rfl
  | k + 2, hj => omega
set_option maxRecDepth 100000 in
theorem in1_K : Cond.instantiable RxK 2 ∈ Tb := tb_1 (List.mem_of_getElem? (i := 25) rfl)
set_option maxRecDepth 100000 in
theorem in2_K : Cond.initialized RxK ∈ Tb := tb_1 (List.mem_of_getElem? (i := 2) rfl)
set_option maxRecDepth 100000 in
theorem born_B (h : Nat) : ∀ j, j < 3 → defaultValue (tb_ty TxB j) = vp_V (([.inr none, .inl 0, .inl 0] : List vD).map (c_v h)) j := by
  intro j hj
  match j, hj with
  | 0, _ => rw [show tb_ty TxB 0 = (.array (.object "StandIns$Note")) from by decide +kernel]; rfl
  | 1, _ => rw [show tb_ty TxB 1 = .int from by decide +kernel]; rfl
  | 2, _ => rw [show tb_ty TxB 2 = .int from by decide +kernel]; rfl
  | k + 3, hj => omega
set_option maxRecDepth 100000 in
theorem in1_B : Cond.instantiable RxB 3 ∈ Tb := tb_1 (List.mem_of_getElem? (i := 61) rfl)
set_option maxRecDepth 100000 in
theorem in2_B : Cond.initialized RxB ∈ Tb := tb_1 (List.mem_of_getElem? (i := 4) rfl)
set_option maxRecDepth 100000 in
theorem born_F (h : Nat) : ∀ j, j < 5 → defaultValue (tb_ty TxF j) = vp_V (([.inr none, .inr none, .inl 0, .inl 0, .inl 0] : List vD).map (c_v h)) j := by
  intro j hj
  match j, hj with
  | 0, _ => rw [show tb_ty TxF 0 = (.array .int) from by decide +kernel]; rfl
  | 1, _ => rw [show tb_ty TxF 1 = (.array .int) from by decide +kernel]; rfl
  | 2, _ => rw [show tb_ty TxF 2 = .int from by decide +kernel]; rfl
  | 3, _ => rw [show tb_ty TxF 3 = .boolean from by decide +kernel]; rfl
  | 4, _ => rw [show tb_ty TxF 4 = .boolean from by decide +kernel]; rfl
  | k + 5, hj => omega
set_option maxRecDepth 100000 in
theorem in1_F : Cond.instantiable RxF 5 ∈ Tb := tb_1 (List.mem_of_getElem? (i := 132) rfl)
set_option maxRecDepth 100000 in
theorem in2_F : Cond.initialized RxF ∈ Tb := tb_1 (List.mem_of_getElem? (i := 6) rfl)
set_option maxRecDepth 100000 in
theorem born_C (h : Nat) : ∀ j, j < 4 → defaultValue (tb_ty TxC j) = vp_V (([.inr none, .inl 0, .inl 0, .inl 0] : List vD).map (c_v h)) j := by
  intro j hj
  match j, hj with
  | 0, _ => rw [show tb_ty TxC 0 = (.array .int) from by decide +kernel]; rfl
  | 1, _ => rw [show tb_ty TxC 1 = .int from by decide +kernel]; rfl
  | 2, _ => rw [show tb_ty TxC 2 = .int from by decide +kernel]; rfl
  | 3, _ => rw [show tb_ty TxC 3 = .int from by decide +kernel]; rfl
  | k + 4, hj => omega
set_option maxRecDepth 100000 in
theorem in1_C : Cond.instantiable RxC 4 ∈ Tb := tb_1 (List.mem_of_getElem? (i := 159) rfl)
set_option maxRecDepth 100000 in
theorem in2_C : Cond.initialized RxC ∈ Tb := tb_1 (List.mem_of_getElem? (i := 7) rfl)
set_option maxRecDepth 100000 in
theorem born_D (h : Nat) : ∀ j, j < 2 → defaultValue (tb_ty TxD j) = vp_V (([.inl 0, .inl 0] : List vD).map (c_v h)) j := by
  intro j hj
  match j, hj with
  | 0, _ => rw [show tb_ty TxD 0 = .int from by decide +kernel]; rfl
  | 1, _ => rw [show tb_ty TxD 1 = .boolean from by decide +kernel]; rfl
  | k + 2, hj => omega
set_option maxRecDepth 100000 in
theorem in1_D : Cond.instantiable RxD 2 ∈ Tb := tb_1 (List.mem_of_getElem? (i := 204) rfl)
set_option maxRecDepth 100000 in
theorem in2_D : Cond.initialized RxD ∈ Tb := tb_1 (List.mem_of_getElem? (i := 9) rfl)
set_option maxRecDepth 100000 in
theorem born_N (h : Nat) : ∀ j, j < 7 → defaultValue (tb_ty TxN j) = vp_V (([.inl 0, .inl 0, .inl 0, .inl 0, .inl 0, .inl 0, .inl 0] : List vD).map (c_v h)) j := by
  intro j hj
  match j, hj with
  | 0, _ => rw [show tb_ty TxN 0 = .int from by decide +kernel]; rfl
  | 1, _ => rw [show tb_ty TxN 1 = .int from by decide +kernel]; rfl
  | 2, _ => rw [show tb_ty TxN 2 = .int from by decide +kernel]; rfl
  | 3, _ => rw [show tb_ty TxN 3 = .int from by decide +kernel]; rfl
  | 4, _ => rw [show tb_ty TxN 4 = .int from by decide +kernel]; rfl
  | 5, _ => rw [show tb_ty TxN 5 = .boolean from by decide +kernel]; rfl
  | 6, _ => rw [show tb_ty TxN 6 = .int from by decide +kernel]; rfl
  | k + 7, hj => omega
set_option maxRecDepth 100000 in
theorem in1_N : Cond.instantiable RxN 7 ∈ Tb := tb_1 (List.mem_of_getElem? (i := 68) rfl)
set_option maxRecDepth 100000 in
theorem in2_N : Cond.initialized RxN ∈ Tb := tb_1 (List.mem_of_getElem? (i := 5) rfl)
set_option maxRecDepth 100000 in
theorem born_T (h : Nat) : ∀ j, j < 5 → defaultValue (tb_ty TxT j) = vp_V (([.inr none, .inr none, .inl 0, .inl 0, .inl 0] : List vD).map (c_v h)) j := by
  intro j hj
  match j, hj with
  | 0, _ => rw [show tb_ty TxT 0 = (.object "StandIns$Pattern") from by decide +kernel]; rfl
  | 1, _ => rw [show tb_ty TxT 1 = (.object "StandIns$Answers") from by decide +kernel]; rfl
  | 2, _ => rw [show tb_ty TxT 2 = .int from by decide +kernel]; rfl
  | 3, _ => rw [show tb_ty TxT 3 = .int from by decide +kernel]; rfl
  | 4, _ => rw [show tb_ty TxT 4 = .boolean from by decide +kernel]; rfl
  | k + 5, hj => omega
set_option maxRecDepth 100000 in
theorem in1_T : Cond.instantiable RxT 5 ∈ Tb := tb_1 (List.mem_of_getElem? (i := 219) rfl)
set_option maxRecDepth 100000 in
theorem in2_T : Cond.initialized RxT ∈ Tb := tb_1 (List.mem_of_getElem? (i := 10) rfl)
set_option maxRecDepth 100000 in
theorem born_P (h : Nat) : ∀ j, j < 4 → defaultValue (tb_ty TxP j) = vp_V (([.inl 0, .inl 0, .inr none, .inr none] : List vD).map (c_v h)) j := by
  intro j hj
  match j, hj with
  | 0, _ => rw [show tb_ty TxP 0 = .int from by decide +kernel]; rfl
  | 1, _ => rw [show tb_ty TxP 1 = .int from by decide +kernel]; rfl
  | 2, _ => rw [show tb_ty TxP 2 = (.object "StandIns$Matcher") from by decide +kernel]; rfl
  | 3, _ => rw [show tb_ty TxP 3 = (.object "StandIns$Matcher") from by decide +kernel]; rfl
  | k + 4, hj => omega
set_option maxRecDepth 100000 in
theorem in1_P : Cond.instantiable RxP 4 ∈ Tb := tb_1 (List.mem_of_getElem? (i := 180) rfl)
set_option maxRecDepth 100000 in
theorem in2_P : Cond.initialized RxP ∈ Tb := tb_1 (List.mem_of_getElem? (i := 8) rfl)
set_option maxRecDepth 100000 in
theorem born_Q (h : Nat) : ∀ j, j < 3 → defaultValue (tb_ty TxQ j) = vp_V (([.inr none, .inr none, .inl 0] : List vD).map (c_v h)) j := by
  intro j hj
  match j, hj with
  | 0, _ => rw [show tb_ty TxQ 0 = (.array .int) from by decide +kernel]; rfl
  | 1, _ => rw [show tb_ty TxQ 1 = (.array .int) from by decide +kernel]; rfl
  | 2, _ => rw [show tb_ty TxQ 2 = .int from by decide +kernel]; rfl
  | k + 3, hj => omega
set_option maxRecDepth 100000 in
theorem in1_Q : Cond.instantiable RxQ 3 ∈ Tb := tb_1 (List.mem_of_getElem? (i := 43) rfl)
set_option maxRecDepth 100000 in
theorem in2_Q : Cond.initialized RxQ ∈ Tb := tb_1 (List.mem_of_getElem? (i := 3) rfl)
set_option maxRecDepth 100000 in
theorem born_M (h : Nat) : ∀ j, j < 39 → defaultValue (tb_ty TxM j) = vp_V (([.inr none, .inr none, .inr none, .inr none, .inl 0, .inr none, .inr none, .inr none, .inl 0, .inl 0, .inl 0, .inl 0, .inl 0, .inr none, .inr none, .inr none, .inr none, .inr none, .inr none, .inr none, .inl 0, .inl 0, .inr none, .inr none, .inr none, .inr none, .inr none, .inr none, .inr none, .inl 0, .inl 0, .inl 0, .inr none, .inr none, .inr none, .inl 0, .inl 0, .inl 0, .inl 0] : List vD).map (c_v h)) j := by
  intro j hj
  match j, hj with
  | 0, _ => rw [show tb_ty TxM 0 = (.array .int) from by decide +kernel]; rfl
  | 1, _ => rw [show tb_ty TxM 1 = (.array .boolean) from by decide +kernel]; rfl
  | 2, _ => rw [show tb_ty TxM 2 = (.array .int) from by decide +kernel]; rfl
  | 3, _ => rw [show tb_ty TxM 3 = (.array .int) from by decide +kernel]; rfl
  | 4, _ => rw [show tb_ty TxM 4 = .int from by decide +kernel]; rfl
  | 5, _ => rw [show tb_ty TxM 5 = (.array .int) from by decide +kernel]; rfl
  | 6, _ => rw [show tb_ty TxM 6 = (.array .int) from by decide +kernel]; rfl
  | 7, _ => rw [show tb_ty TxM 7 = (.array .int) from by decide +kernel]; rfl
  | 8, _ => rw [show tb_ty TxM 8 = .int from by decide +kernel]; rfl
  | 9, _ => rw [show tb_ty TxM 9 = .int from by decide +kernel]; rfl
  | 10, _ => rw [show tb_ty TxM 10 = .int from by decide +kernel]; rfl
  | 11, _ => rw [show tb_ty TxM 11 = .int from by decide +kernel]; rfl
  | 12, _ => rw [show tb_ty TxM 12 = .int from by decide +kernel]; rfl
  | 13, _ => rw [show tb_ty TxM 13 = (.array .int) from by decide +kernel]; rfl
  | 14, _ => rw [show tb_ty TxM 14 = (.array .int) from by decide +kernel]; rfl
  | 15, _ => rw [show tb_ty TxM 15 = (.array .int) from by decide +kernel]; rfl
  | 16, _ => rw [show tb_ty TxM 16 = (.array .int) from by decide +kernel]; rfl
  | 17, _ => rw [show tb_ty TxM 17 = (.array .int) from by decide +kernel]; rfl
  | 18, _ => rw [show tb_ty TxM 18 = (.array .int) from by decide +kernel]; rfl
  | 19, _ => rw [show tb_ty TxM 19 = (.array .boolean) from by decide +kernel]; rfl
  | 20, _ => rw [show tb_ty TxM 20 = .int from by decide +kernel]; rfl
  | 21, _ => rw [show tb_ty TxM 21 = .int from by decide +kernel]; rfl
  | 22, _ => rw [show tb_ty TxM 22 = (.array .int) from by decide +kernel]; rfl
  | 23, _ => rw [show tb_ty TxM 23 = (.array .int) from by decide +kernel]; rfl
  | 24, _ => rw [show tb_ty TxM 24 = (.array .int) from by decide +kernel]; rfl
  | 25, _ => rw [show tb_ty TxM 25 = (.array .int) from by decide +kernel]; rfl
  | 26, _ => rw [show tb_ty TxM 26 = (.array .int) from by decide +kernel]; rfl
  | 27, _ => rw [show tb_ty TxM 27 = (.array .int) from by decide +kernel]; rfl
  | 28, _ => rw [show tb_ty TxM 28 = (.array .boolean) from by decide +kernel]; rfl
  | 29, _ => rw [show tb_ty TxM 29 = .int from by decide +kernel]; rfl
  | 30, _ => rw [show tb_ty TxM 30 = .int from by decide +kernel]; rfl
  | 31, _ => rw [show tb_ty TxM 31 = .int from by decide +kernel]; rfl
  | 32, _ => rw [show tb_ty TxM 32 = (.array .int) from by decide +kernel]; rfl
  | 33, _ => rw [show tb_ty TxM 33 = (.array .int) from by decide +kernel]; rfl
  | 34, _ => rw [show tb_ty TxM 34 = (.array .int) from by decide +kernel]; rfl
  | 35, _ => rw [show tb_ty TxM 35 = .int from by decide +kernel]; rfl
  | 36, _ => rw [show tb_ty TxM 36 = .int from by decide +kernel]; rfl
  | 37, _ => rw [show tb_ty TxM 37 = .boolean from by decide +kernel]; rfl
  | 38, _ => rw [show tb_ty TxM 38 = .boolean from by decide +kernel]; rfl
  | k + 39, hj => omega
set_option maxRecDepth 100000 in
theorem in1_M : Cond.instantiable RxM 39 ∈ Tb := tb_3 (List.mem_of_getElem? (i := 99) rfl)
set_option maxRecDepth 100000 in
theorem in2_M : Cond.initialized RxM ∈ Tb := tb_1 (List.mem_of_getElem? (i := 11) rfl)
set_option maxRecDepth 100000 in
theorem ao_2 : Cond.arrayOver (.object RxD) ∈ Tb := tb_1 (List.mem_of_getElem? (i := 23) rfl)
set_option maxRecDepth 100000 in
theorem ao_3 : Cond.arrayOver (.object RxN) ∈ Tb := tb_1 (List.mem_of_getElem? (i := 67) rfl)
set_option maxRecDepth 100000 in
theorem ao_4 : Cond.arrayOver (.object RxT) ∈ Tb := tb_1 (List.mem_of_getElem? (i := 130) rfl)
set_option maxRecDepth 100000 in
theorem ao_5 : Cond.arrayOver (.object RxH) ∈ Tb := tb_1 (List.mem_of_getElem? (i := 31) rfl)
set_option maxRecDepth 100000 in
theorem ac_0 : Cond.arrayClass .int ∈ Tb := tb_1 (List.mem_of_getElem? (i := 41) rfl)
set_option maxRecDepth 100000 in
theorem ac_1 : Cond.arrayClass .boolean ∈ Tb := tb_3 (List.mem_of_getElem? (i := 222) rfl)
def c_getp (w : cS) (a k j : Nat) : Option Nat := match c_get w a k j with
  | some (.inr (some b)) => some b
  | _ => none
theorem c_getpE {w : cS} {a k j b : Nat} (h : c_getp w a k j = some b) : c_get w a k j = some (.inr (some b)) := by
  unfold c_getp at h
  split at h
  · rename_i b' e
    rw [e, Option.some.inj h]
  · cases h
def c_ob (w : cS) (b ci : Nat) : Option (List vD) := match w[b]? with
  | none => none
  | some c => if c.1 = ci then some c.2 else none
theorem c_obE {w : cS} {b ci : Nat} {vs : List vD} (h : c_ob w b ci = some vs) : w[b]? = some (ci, vs) := by
  unfold c_ob at h
  cases hc : w[b]? with
  | none => rw [hc] at h; cases h
  | some c =>
    rw [hc] at h
    dsimp only at h
    by_cases hk : c.1 = ci
    · rw [if_pos hk] at h; subst hk; cases h; rfl
    · rw [if_neg hk] at h; cases h
theorem ra_int (U : State) (cA : ClassId) (h : va_RA U cA .int) : U.vm.findClass ("[" ++ FieldType.int.toString) = some cA := h
theorem ra_bool (U : State) (cA : ClassId) (h : va_RA U cA .boolean) : U.vm.findClass ("[" ++ FieldType.boolean.toString) = some cA := h
set_option maxRecDepth 100000 in
theorem dD_init_0 : decode bD_init 0 = .ok (.aload_n 0, 1) := by decide +kernel
set_option maxRecDepth 100000 in
theorem dD_init_1 : decode bD_init 1 = .ok (.invokespecial 3, 3) := by decide +kernel
set_option maxRecDepth 100000 in
theorem dD_init_4 : decode bD_init 4 = .ok (.aload_n 0, 1) := by decide +kernel
set_option maxRecDepth 100000 in
theorem dD_init_5 : decode bD_init 5 = .ok (.iconst 0, 1) := by decide +kernel
set_option maxRecDepth 100000 in
theorem dD_init_6 : decode bD_init 6 = .ok (.putfield 9, 3) := by decide +kernel
set_option maxRecDepth 100000 in
theorem dD_init_9 : decode bD_init 9 = .ok (.aload_n 0, 1) := by decide +kernel
set_option maxRecDepth 100000 in
theorem dD_init_10 : decode bD_init 10 = .ok (.iconst 1, 1) := by decide +kernel
set_option maxRecDepth 100000 in
theorem dD_init_11 : decode bD_init 11 = .ok (.putfield 15, 3) := by decide +kernel
set_option maxRecDepth 100000 in
theorem dD_init_14 : decode bD_init 14 = .ok (.return_, 1) := by decide +kernel
def gD_init (w : cS) (a : Nat) : Option cS :=
  xp (c_put w a 5 0 (.inl 0)) fun w1 =>
  xp (c_put w1 a 5 1 (.inl 1)) fun w2 =>
  some w2
set_option maxHeartbeats 4000000 in
set_option maxRecDepth 100000 in
theorem uD_init (l : Launch) (E : xE) (h : Nat) (w : cS) (a : Nat) (res : cS) (hf : gD_init w a = some res) : cM l E yD_init bD_init 1 1 0 0 h a w res := by
  refine c_met (by decide) (by decide) (fun p e R s m args below meth c ls H locs C hw hl => ?_)
  have hx := C.1
  have hb := C.2.1
  unfold gD_init at hf
  refine lv_aload_n hx hb dD_init_0 rfl (lv_at hl 0 rfl) ?_
  refine x_objinit C hl vD_3 dD_init_1 ?_
  refine lv_aload_n hx hb dD_init_4 rfl (lv_at hl 0 rfl) ?_
  refine lv_iconst (v := 0) hx hb dD_init_5 (by decide) ?_
  obtain ⟨w1, ew1, hf⟩ := x_p hf
  refine c_rput (v := .inl 0) C hw ew1 rfl ⟨rfl, Or.inl rfl⟩ pc_0 ⟨rfl, rfl⟩ ⟨by decide, by decide⟩ vD_9 dD_init_6 (fun H locs hw => ?_)
  refine lv_aload_n hx hb dD_init_9 rfl (lv_at hl 0 rfl) ?_
  refine lv_iconst (v := 1) hx hb dD_init_10 (by decide) ?_
  obtain ⟨w2, ew2, hf⟩ := x_p hf
  refine c_rput (v := .inl 1) C hw ew2 rfl ⟨rfl, Or.inl rfl⟩ pc_8 ⟨rfl, rfl⟩ ⟨by decide, by decide⟩ vD_15 dD_init_11 (fun H locs hw => ?_)
  obtain rfl := Option.some.inj hf
  refine W.widen (k := 0) (n := 0) (by omega) (by omega) ?_
  exact c_vret C hw dD_init_14
set_option maxRecDepth 100000 in
theorem dN_init_0 : decode bN_init 0 = .ok (.aload_n 0, 1) := by decide +kernel
set_option maxRecDepth 100000 in
theorem dN_init_1 : decode bN_init 1 = .ok (.invokespecial 3, 3) := by decide +kernel
set_option maxRecDepth 100000 in
theorem dN_init_4 : decode bN_init 4 = .ok (.aload_n 0, 1) := by decide +kernel
set_option maxRecDepth 100000 in
theorem dN_init_5 : decode bN_init 5 = .ok (.iconst (-1), 1) := by decide +kernel
set_option maxRecDepth 100000 in
theorem dN_init_6 : decode bN_init 6 = .ok (.putfield 9, 3) := by decide +kernel
set_option maxRecDepth 100000 in
theorem dN_init_9 : decode bN_init 9 = .ok (.aload_n 0, 1) := by decide +kernel
set_option maxRecDepth 100000 in
theorem dN_init_10 : decode bN_init 10 = .ok (.iconst (-1), 1) := by decide +kernel
set_option maxRecDepth 100000 in
theorem dN_init_11 : decode bN_init 11 = .ok (.putfield 15, 3) := by decide +kernel
set_option maxRecDepth 100000 in
theorem dN_init_14 : decode bN_init 14 = .ok (.aload_n 0, 1) := by decide +kernel
set_option maxRecDepth 100000 in
theorem dN_init_15 : decode bN_init 15 = .ok (.iconst (-1), 1) := by decide +kernel
set_option maxRecDepth 100000 in
theorem dN_init_16 : decode bN_init 16 = .ok (.putfield 18, 3) := by decide +kernel
set_option maxRecDepth 100000 in
theorem dN_init_19 : decode bN_init 19 = .ok (.aload_n 0, 1) := by decide +kernel
set_option maxRecDepth 100000 in
theorem dN_init_20 : decode bN_init 20 = .ok (.iconst 0, 1) := by decide +kernel
set_option maxRecDepth 100000 in
theorem dN_init_21 : decode bN_init 21 = .ok (.putfield 21, 3) := by decide +kernel
set_option maxRecDepth 100000 in
theorem dN_init_24 : decode bN_init 24 = .ok (.aload_n 0, 1) := by decide +kernel
set_option maxRecDepth 100000 in
theorem dN_init_25 : decode bN_init 25 = .ok (.iconst 0, 1) := by decide +kernel
set_option maxRecDepth 100000 in
theorem dN_init_26 : decode bN_init 26 = .ok (.putfield 24, 3) := by decide +kernel
set_option maxRecDepth 100000 in
theorem dN_init_29 : decode bN_init 29 = .ok (.aload_n 0, 1) := by decide +kernel
set_option maxRecDepth 100000 in
theorem dN_init_30 : decode bN_init 30 = .ok (.iconst 0, 1) := by decide +kernel
set_option maxRecDepth 100000 in
theorem dN_init_31 : decode bN_init 31 = .ok (.putfield 27, 3) := by decide +kernel
set_option maxRecDepth 100000 in
theorem dN_init_34 : decode bN_init 34 = .ok (.aload_n 0, 1) := by decide +kernel
set_option maxRecDepth 100000 in
theorem dN_init_35 : decode bN_init 35 = .ok (.iconst (-1), 1) := by decide +kernel
set_option maxRecDepth 100000 in
theorem dN_init_36 : decode bN_init 36 = .ok (.putfield 31, 3) := by decide +kernel
set_option maxRecDepth 100000 in
theorem dN_init_39 : decode bN_init 39 = .ok (.return_, 1) := by decide +kernel
def gN_init (w : cS) (a : Nat) : Option cS :=
  xp (c_put w a 6 0 (.inl (-1))) fun w1 =>
  xp (c_put w1 a 6 1 (.inl (-1))) fun w2 =>
  xp (c_put w2 a 6 2 (.inl (-1))) fun w3 =>
  xp (c_put w3 a 6 3 (.inl 0)) fun w4 =>
  xp (c_put w4 a 6 4 (.inl 0)) fun w5 =>
  xp (c_put w5 a 6 5 (.inl 0)) fun w6 =>
  xp (c_put w6 a 6 6 (.inl (-1))) fun w7 =>
  some w7
set_option maxHeartbeats 4000000 in
set_option maxRecDepth 100000 in
theorem uN_init (l : Launch) (E : xE) (h : Nat) (w : cS) (a : Nat) (res : cS) (hf : gN_init w a = some res) : cM l E yN_init bN_init 1 1 0 0 h a w res := by
  refine c_met (by decide) (by decide) (fun p e R s m args below meth c ls H locs C hw hl => ?_)
  have hx := C.1
  have hb := C.2.1
  unfold gN_init at hf
  refine lv_aload_n hx hb dN_init_0 rfl (lv_at hl 0 rfl) ?_
  refine x_objinit C hl vN_3 dN_init_1 ?_
  refine lv_aload_n hx hb dN_init_4 rfl (lv_at hl 0 rfl) ?_
  refine lv_iconst (v := (-1)) hx hb dN_init_5 (by decide) ?_
  obtain ⟨w1, ew1, hf⟩ := x_p hf
  refine c_rput (v := .inl (-1)) C hw ew1 rfl ⟨rfl, Or.inl rfl⟩ pc_0 ⟨rfl, rfl⟩ ⟨by decide, by decide⟩ vN_9 dN_init_6 (fun H locs hw => ?_)
  refine lv_aload_n hx hb dN_init_9 rfl (lv_at hl 0 rfl) ?_
  refine lv_iconst (v := (-1)) hx hb dN_init_10 (by decide) ?_
  obtain ⟨w2, ew2, hf⟩ := x_p hf
  refine c_rput (v := .inl (-1)) C hw ew2 rfl ⟨rfl, Or.inl rfl⟩ pc_0 ⟨rfl, rfl⟩ ⟨by decide, by decide⟩ vN_15 dN_init_11 (fun H locs hw => ?_)
  refine lv_aload_n hx hb dN_init_14 rfl (lv_at hl 0 rfl) ?_
  refine lv_iconst (v := (-1)) hx hb dN_init_15 (by decide) ?_
  obtain ⟨w3, ew3, hf⟩ := x_p hf
  refine c_rput (v := .inl (-1)) C hw ew3 rfl ⟨rfl, Or.inl rfl⟩ pc_0 ⟨rfl, rfl⟩ ⟨by decide, by decide⟩ vN_18 dN_init_16 (fun H locs hw => ?_)
  refine lv_aload_n hx hb dN_init_19 rfl (lv_at hl 0 rfl) ?_
  refine lv_iconst (v := 0) hx hb dN_init_20 (by decide) ?_
  obtain ⟨w4, ew4, hf⟩ := x_p hf
  refine c_rput (v := .inl 0) C hw ew4 rfl ⟨rfl, Or.inl rfl⟩ pc_0 ⟨rfl, rfl⟩ ⟨by decide, by decide⟩ vN_21 dN_init_21 (fun H locs hw => ?_)
  refine lv_aload_n hx hb dN_init_24 rfl (lv_at hl 0 rfl) ?_
  refine lv_iconst (v := 0) hx hb dN_init_25 (by decide) ?_
  obtain ⟨w5, ew5, hf⟩ := x_p hf
  refine c_rput (v := .inl 0) C hw ew5 rfl ⟨rfl, Or.inl rfl⟩ pc_0 ⟨rfl, rfl⟩ ⟨by decide, by decide⟩ vN_24 dN_init_26 (fun H locs hw => ?_)
  refine lv_aload_n hx hb dN_init_29 rfl (lv_at hl 0 rfl) ?_
  refine lv_iconst (v := 0) hx hb dN_init_30 (by decide) ?_
  obtain ⟨w6, ew6, hf⟩ := x_p hf
  refine c_rput (v := .inl 0) C hw ew6 rfl ⟨rfl, Or.inl rfl⟩ pc_8 ⟨rfl, rfl⟩ ⟨by decide, by decide⟩ vN_27 dN_init_31 (fun H locs hw => ?_)
  refine lv_aload_n hx hb dN_init_34 rfl (lv_at hl 0 rfl) ?_
  refine lv_iconst (v := (-1)) hx hb dN_init_35 (by decide) ?_
  obtain ⟨w7, ew7, hf⟩ := x_p hf
  refine c_rput (v := .inl (-1)) C hw ew7 rfl ⟨rfl, Or.inl rfl⟩ pc_0 ⟨rfl, rfl⟩ ⟨by decide, by decide⟩ vN_31 dN_init_36 (fun H locs hw => ?_)
  obtain rfl := Option.some.inj hf
  refine W.widen (k := 0) (n := 0) (by omega) (by omega) ?_
  exact c_vret C hw dN_init_39
set_option maxRecDepth 100000 in
theorem dP_init_0 : decode bP_init 0 = .ok (.aload_n 0, 1) := by decide +kernel
set_option maxRecDepth 100000 in
theorem dP_init_1 : decode bP_init 1 = .ok (.invokespecial 3, 3) := by decide +kernel
set_option maxRecDepth 100000 in
theorem dP_init_4 : decode bP_init 4 = .ok (.aload_n 0, 1) := by decide +kernel
set_option maxRecDepth 100000 in
theorem dP_init_5 : decode bP_init 5 = .ok (.iconst (-1), 1) := by decide +kernel
set_option maxRecDepth 100000 in
theorem dP_init_6 : decode bP_init 6 = .ok (.putfield 9, 3) := by decide +kernel
set_option maxRecDepth 100000 in
theorem dP_init_9 : decode bP_init 9 = .ok (.aload_n 0, 1) := by decide +kernel
set_option maxRecDepth 100000 in
theorem dP_init_10 : decode bP_init 10 = .ok (.iconst (-1), 1) := by decide +kernel
set_option maxRecDepth 100000 in
theorem dP_init_11 : decode bP_init 11 = .ok (.putfield 15, 3) := by decide +kernel
set_option maxRecDepth 100000 in
theorem dP_init_14 : decode bP_init 14 = .ok (.aload_n 0, 1) := by decide +kernel
set_option maxRecDepth 100000 in
theorem dP_init_15 : decode bP_init 15 = .ok (.aconst_null, 1) := by decide +kernel
set_option maxRecDepth 100000 in
theorem dP_init_16 : decode bP_init 16 = .ok (.putfield 18, 3) := by decide +kernel
set_option maxRecDepth 100000 in
theorem dP_init_19 : decode bP_init 19 = .ok (.aload_n 0, 1) := by decide +kernel
set_option maxRecDepth 100000 in
theorem dP_init_20 : decode bP_init 20 = .ok (.aconst_null, 1) := by decide +kernel
set_option maxRecDepth 100000 in
theorem dP_init_21 : decode bP_init 21 = .ok (.putfield 22, 3) := by decide +kernel
set_option maxRecDepth 100000 in
theorem dP_init_24 : decode bP_init 24 = .ok (.return_, 1) := by decide +kernel
def gP_init (w : cS) (a : Nat) : Option cS :=
  xp (c_put w a 8 0 (.inl (-1))) fun w1 =>
  xp (c_put w1 a 8 1 (.inl (-1))) fun w2 =>
  xp (c_put w2 a 8 2 (.inr none)) fun w3 =>
  xp (c_put w3 a 8 3 (.inr none)) fun w4 =>
  some w4
set_option maxHeartbeats 4000000 in
set_option maxRecDepth 100000 in
theorem uP_init (l : Launch) (E : xE) (h : Nat) (w : cS) (a : Nat) (res : cS) (hf : gP_init w a = some res) : cM l E yP_init bP_init 1 1 0 0 h a w res := by
  refine c_met (by decide) (by decide) (fun p e R s m args below meth c ls H locs C hw hl => ?_)
  have hx := C.1
  have hb := C.2.1
  unfold gP_init at hf
  refine lv_aload_n hx hb dP_init_0 rfl (lv_at hl 0 rfl) ?_
  refine x_objinit C hl vP_3 dP_init_1 ?_
  refine lv_aload_n hx hb dP_init_4 rfl (lv_at hl 0 rfl) ?_
  refine lv_iconst (v := (-1)) hx hb dP_init_5 (by decide) ?_
  obtain ⟨w1, ew1, hf⟩ := x_p hf
  refine c_rput (v := .inl (-1)) C hw ew1 rfl ⟨rfl, Or.inl rfl⟩ pc_0 ⟨rfl, rfl⟩ ⟨by decide, by decide⟩ vP_9 dP_init_6 (fun H locs hw => ?_)
  refine lv_aload_n hx hb dP_init_9 rfl (lv_at hl 0 rfl) ?_
  refine lv_iconst (v := (-1)) hx hb dP_init_10 (by decide) ?_
  obtain ⟨w2, ew2, hf⟩ := x_p hf
  refine c_rput (v := .inl (-1)) C hw ew2 rfl ⟨rfl, Or.inl rfl⟩ pc_0 ⟨rfl, rfl⟩ ⟨by decide, by decide⟩ vP_15 dP_init_11 (fun H locs hw => ?_)
  refine lv_aload_n hx hb dP_init_14 rfl (lv_at hl 0 rfl) ?_
  refine x_null hx hb dP_init_15 ?_
  obtain ⟨w3, ew3, hf⟩ := x_p hf
  refine c_rput (v := .inr none) C hw ew3 rfl ⟨rfl, Or.inl rfl⟩ pc_4 ⟨rfl, rfl⟩ ⟨by decide, by decide⟩ vP_18 dP_init_16 (fun H locs hw => ?_)
  refine lv_aload_n hx hb dP_init_19 rfl (lv_at hl 0 rfl) ?_
  refine x_null hx hb dP_init_20 ?_
  obtain ⟨w4, ew4, hf⟩ := x_p hf
  refine c_rput (v := .inr none) C hw ew4 rfl ⟨rfl, Or.inl rfl⟩ pc_4 ⟨rfl, rfl⟩ ⟨by decide, by decide⟩ vP_22 dP_init_21 (fun H locs hw => ?_)
  obtain rfl := Option.some.inj hf
  refine W.widen (k := 0) (n := 0) (by omega) (by omega) ?_
  exact c_vret C hw dP_init_24
set_option maxRecDepth 100000 in
theorem dQ_init_0 : decode bQ_init 0 = .ok (.aload_n 0, 1) := by decide +kernel
set_option maxRecDepth 100000 in
theorem dQ_init_1 : decode bQ_init 1 = .ok (.invokespecial 3, 3) := by decide +kernel
set_option maxRecDepth 100000 in
theorem dQ_init_4 : decode bQ_init 4 = .ok (.aload_n 0, 1) := by decide +kernel
set_option maxRecDepth 100000 in
theorem dQ_init_5 : decode bQ_init 5 = .ok (.iconst 4, 1) := by decide +kernel
set_option maxRecDepth 100000 in
theorem dQ_init_6 : decode bQ_init 6 = .ok (.newarray .int, 2) := by decide +kernel
set_option maxRecDepth 100000 in
theorem dQ_init_8 : decode bQ_init 8 = .ok (.putfield 9, 3) := by decide +kernel
set_option maxRecDepth 100000 in
theorem dQ_init_11 : decode bQ_init 11 = .ok (.aload_n 0, 1) := by decide +kernel
set_option maxRecDepth 100000 in
theorem dQ_init_12 : decode bQ_init 12 = .ok (.iconst 4, 1) := by decide +kernel
set_option maxRecDepth 100000 in
theorem dQ_init_13 : decode bQ_init 13 = .ok (.newarray .int, 2) := by decide +kernel
set_option maxRecDepth 100000 in
theorem dQ_init_15 : decode bQ_init 15 = .ok (.putfield 15, 3) := by decide +kernel
set_option maxRecDepth 100000 in
theorem dQ_init_18 : decode bQ_init 18 = .ok (.aload_n 0, 1) := by decide +kernel
set_option maxRecDepth 100000 in
theorem dQ_init_19 : decode bQ_init 19 = .ok (.iconst 0, 1) := by decide +kernel
set_option maxRecDepth 100000 in
theorem dQ_init_20 : decode bQ_init 20 = .ok (.putfield 18, 3) := by decide +kernel
set_option maxRecDepth 100000 in
theorem dQ_init_23 : decode bQ_init 23 = .ok (.return_, 1) := by decide +kernel
def gQ_init (w : cS) (a : Nat) : Option cS :=
  xl (w ++ [(20 + 0, List.replicate 4 (.inl 0))]) fun w1 =>
  xp (c_put w1 a 9 0 (.inr (some w.length))) fun w2 =>
  xl (w2 ++ [(20 + 0, List.replicate 4 (.inl 0))]) fun w3 =>
  xp (c_put w3 a 9 1 (.inr (some w2.length))) fun w4 =>
  xp (c_put w4 a 9 2 (.inl 0)) fun w5 =>
  some w5
set_option maxHeartbeats 4000000 in
set_option maxRecDepth 100000 in
theorem uQ_init (l : Launch) (E : xE) (h : Nat) (w : cS) (a : Nat) (res : cS) (hf : gQ_init w a = some res) : cM l E yQ_init bQ_init 1 1 2 8 h a w res := by
  refine c_met (by decide) (by decide) (fun p e R s m args below meth c ls H locs C hw hl => ?_)
  have hx := C.1
  have hb := C.2.1
  unfold gQ_init at hf
  refine lv_aload_n hx hb dQ_init_0 rfl (lv_at hl 0 rfl) ?_
  refine x_objinit C hl vQ_3 dQ_init_1 ?_
  refine lv_aload_n hx hb dQ_init_4 rfl (lv_at hl 0 rfl) ?_
  refine lv_iconst (v := 4) hx hb dQ_init_5 (by decide) ?_
  refine c_rnewa (N := 4) C hw 0 ⟨rfl, by decide⟩ ⟨rfl, rfl, ra_int⟩ ac_0 ⟨by decide, rfl, by decide⟩ ⟨by omega, by omega⟩ dQ_init_6 (fun H hw => ?_)
  obtain ⟨w1, ew1, hf⟩ := x_l hf
  rw [← ew1] at hw
  obtain ⟨w2, ew2, hf⟩ := x_p hf
  refine c_rput (v := .inr (some w.length)) C hw ew2 rfl ⟨rfl, Or.inr ⟨rfl, rfl, rfl⟩⟩ pc_9 ⟨rfl, rfl⟩ ⟨by decide, by decide⟩ vQ_9 dQ_init_8 (fun H locs hw => ?_)
  refine lv_aload_n hx hb dQ_init_11 rfl (lv_at hl 0 rfl) ?_
  refine lv_iconst (v := 4) hx hb dQ_init_12 (by decide) ?_
  refine c_rnewa (N := 4) C hw 0 ⟨rfl, by decide⟩ ⟨rfl, rfl, ra_int⟩ ac_0 ⟨by decide, rfl, by decide⟩ ⟨by omega, by omega⟩ dQ_init_13 (fun H hw => ?_)
  obtain ⟨w3, ew3, hf⟩ := x_l hf
  rw [← ew3] at hw
  obtain ⟨w4, ew4, hf⟩ := x_p hf
  refine c_rput (v := .inr (some w2.length)) C hw ew4 rfl ⟨rfl, Or.inr ⟨rfl, rfl, rfl⟩⟩ pc_9 ⟨rfl, rfl⟩ ⟨by decide, by decide⟩ vQ_15 dQ_init_15 (fun H locs hw => ?_)
  refine lv_aload_n hx hb dQ_init_18 rfl (lv_at hl 0 rfl) ?_
  refine lv_iconst (v := 0) hx hb dQ_init_19 (by decide) ?_
  obtain ⟨w5, ew5, hf⟩ := x_p hf
  refine c_rput (v := .inl 0) C hw ew5 rfl ⟨rfl, Or.inl rfl⟩ pc_0 ⟨rfl, rfl⟩ ⟨by decide, by decide⟩ vQ_18 dQ_init_20 (fun H locs hw => ?_)
  obtain rfl := Option.some.inj hf
  refine W.widen (k := 2) (n := 8) (by omega) (by omega) ?_
  exact c_vret C hw dQ_init_23
set_option maxRecDepth 100000 in
theorem dT_init_0 : decode bT_init 0 = .ok (.aload_n 0, 1) := by decide +kernel
set_option maxRecDepth 100000 in
theorem dT_init_1 : decode bT_init 1 = .ok (.invokespecial 1, 3) := by decide +kernel
set_option maxRecDepth 100000 in
theorem dT_init_4 : decode bT_init 4 = .ok (.aload_n 0, 1) := by decide +kernel
set_option maxRecDepth 100000 in
theorem dT_init_5 : decode bT_init 5 = .ok (.new 7, 3) := by decide +kernel
set_option maxRecDepth 100000 in
theorem dT_init_8 : decode bT_init 8 = .ok (.dup, 1) := by decide +kernel
set_option maxRecDepth 100000 in
theorem dT_init_9 : decode bT_init 9 = .ok (.invokespecial 9, 3) := by decide +kernel
set_option maxRecDepth 100000 in
theorem dT_init_12 : decode bT_init 12 = .ok (.putfield 10, 3) := by decide +kernel
set_option maxRecDepth 100000 in
theorem dT_init_15 : decode bT_init 15 = .ok (.aload_n 0, 1) := by decide +kernel
set_option maxRecDepth 100000 in
theorem dT_init_16 : decode bT_init 16 = .ok (.new 16, 3) := by decide +kernel
set_option maxRecDepth 100000 in
theorem dT_init_19 : decode bT_init 19 = .ok (.dup, 1) := by decide +kernel
set_option maxRecDepth 100000 in
theorem dT_init_20 : decode bT_init 20 = .ok (.invokespecial 18, 3) := by decide +kernel
set_option maxRecDepth 100000 in
theorem dT_init_23 : decode bT_init 23 = .ok (.putfield 19, 3) := by decide +kernel
set_option maxRecDepth 100000 in
theorem dT_init_26 : decode bT_init 26 = .ok (.aload_n 0, 1) := by decide +kernel
set_option maxRecDepth 100000 in
theorem dT_init_27 : decode bT_init 27 = .ok (.iconst 0, 1) := by decide +kernel
set_option maxRecDepth 100000 in
theorem dT_init_28 : decode bT_init 28 = .ok (.putfield 23, 3) := by decide +kernel
set_option maxRecDepth 100000 in
theorem dT_init_31 : decode bT_init 31 = .ok (.aload_n 0, 1) := by decide +kernel
set_option maxRecDepth 100000 in
theorem dT_init_32 : decode bT_init 32 = .ok (.iconst 0, 1) := by decide +kernel
set_option maxRecDepth 100000 in
theorem dT_init_33 : decode bT_init 33 = .ok (.putfield 27, 3) := by decide +kernel
set_option maxRecDepth 100000 in
theorem dT_init_36 : decode bT_init 36 = .ok (.aload_n 0, 1) := by decide +kernel
set_option maxRecDepth 100000 in
theorem dT_init_37 : decode bT_init 37 = .ok (.iconst 0, 1) := by decide +kernel
set_option maxRecDepth 100000 in
theorem dT_init_38 : decode bT_init 38 = .ok (.putfield 30, 3) := by decide +kernel
set_option maxRecDepth 100000 in
theorem dT_init_41 : decode bT_init 41 = .ok (.return_, 1) := by decide +kernel
def gT_init (w : cS) (a : Nat) : Option cS :=
  xl (w ++ [(8, [.inl 0, .inl 0, .inr none, .inr none])]) fun w1 =>
  xp (gP_init w1 w.length) fun w2 =>
  xp (c_put w2 a 7 0 (.inr (some w.length))) fun w3 =>
  xl (w3 ++ [(9, [.inr none, .inr none, .inl 0])]) fun w4 =>
  xp (gQ_init w4 w3.length) fun w5 =>
  xp (c_put w5 a 7 1 (.inr (some w3.length))) fun w6 =>
  xp (c_put w6 a 7 2 (.inl 0)) fun w7 =>
  xp (c_put w7 a 7 3 (.inl 0)) fun w8 =>
  xp (c_put w8 a 7 4 (.inl 0)) fun w9 =>
  some w9
set_option maxHeartbeats 4000000 in
set_option maxRecDepth 100000 in
theorem uT_init (l : Launch) (E : xE) (h : Nat) (w : cS) (a : Nat) (res : cS) (hf : gT_init w a = some res) : cM l E yT_init bT_init 1 2 4 15 h a w res := by
  refine c_met (by decide) (by decide) (fun p e R s m args below meth c ls H locs C hw hl => ?_)
  have hx := C.1
  have hb := C.2.1
  unfold gT_init at hf
  refine lv_aload_n hx hb dT_init_0 rfl (lv_at hl 0 rfl) ?_
  refine x_objinit C hl vT_1 dT_init_1 ?_
  refine lv_aload_n hx hb dT_init_4 rfl (lv_at hl 0 rfl) ?_
  refine c_rnew (ci := 8) (vs := [.inl 0, .inl 0, .inr none, .inr none]) C hw rfl vT_7 in1_P in2_P ⟨by decide, born_P h⟩ ⟨by omega, by omega⟩ dT_init_5 (fun H hw => ?_)
  obtain ⟨w1, ew1, hf⟩ := x_l hf
  rw [← ew1] at hw
  refine lv_dup hx hb dT_init_8 rfl ?_
  obtain ⟨w2, ew2, hf⟩ := x_p hf
  refine c_callIN (rest := [.ref (h + w.length), .ref (h + a)]) C hw (uP_init l E h w1 w.length w2 ew2) kcT_9 (by decide) rfl hl.1 (lv_room (Nat.le_of_ble_eq_true rfl)) dT_init_9 ⟨by omega, by omega⟩ (fun H locs hw => ?_)
  obtain ⟨w3, ew3, hf⟩ := x_p hf
  refine c_rput (v := .inr (some w.length)) C hw ew3 rfl ⟨rfl, Or.inr ⟨rfl, rfl, rfl⟩⟩ pc_6 ⟨rfl, rfl⟩ ⟨by decide, by decide⟩ vT_10 dT_init_12 (fun H locs hw => ?_)
  refine lv_aload_n hx hb dT_init_15 rfl (lv_at hl 0 rfl) ?_
  refine c_rnew (ci := 9) (vs := [.inr none, .inr none, .inl 0]) C hw rfl vT_16 in1_Q in2_Q ⟨by decide, born_Q h⟩ ⟨by omega, by omega⟩ dT_init_16 (fun H hw => ?_)
  obtain ⟨w4, ew4, hf⟩ := x_l hf
  rw [← ew4] at hw
  refine lv_dup hx hb dT_init_19 rfl ?_
  obtain ⟨w5, ew5, hf⟩ := x_p hf
  refine c_callIN (rest := [.ref (h + w3.length), .ref (h + a)]) C hw (uQ_init l E h w4 w3.length w5 ew5) kcT_18 (by decide) rfl hl.1 (lv_room (Nat.le_of_ble_eq_true rfl)) dT_init_20 ⟨by omega, by omega⟩ (fun H locs hw => ?_)
  obtain ⟨w6, ew6, hf⟩ := x_p hf
  refine c_rput (v := .inr (some w3.length)) C hw ew6 rfl ⟨rfl, Or.inr ⟨rfl, rfl, rfl⟩⟩ pc_1 ⟨rfl, rfl⟩ ⟨by decide, by decide⟩ vT_19 dT_init_23 (fun H locs hw => ?_)
  refine lv_aload_n hx hb dT_init_26 rfl (lv_at hl 0 rfl) ?_
  refine lv_iconst (v := 0) hx hb dT_init_27 (by decide) ?_
  obtain ⟨w7, ew7, hf⟩ := x_p hf
  refine c_rput (v := .inl 0) C hw ew7 rfl ⟨rfl, Or.inl rfl⟩ pc_0 ⟨rfl, rfl⟩ ⟨by decide, by decide⟩ vT_23 dT_init_28 (fun H locs hw => ?_)
  refine lv_aload_n hx hb dT_init_31 rfl (lv_at hl 0 rfl) ?_
  refine lv_iconst (v := 0) hx hb dT_init_32 (by decide) ?_
  obtain ⟨w8, ew8, hf⟩ := x_p hf
  refine c_rput (v := .inl 0) C hw ew8 rfl ⟨rfl, Or.inl rfl⟩ pc_0 ⟨rfl, rfl⟩ ⟨by decide, by decide⟩ vT_27 dT_init_33 (fun H locs hw => ?_)
  refine lv_aload_n hx hb dT_init_36 rfl (lv_at hl 0 rfl) ?_
  refine lv_iconst (v := 0) hx hb dT_init_37 (by decide) ?_
  obtain ⟨w9, ew9, hf⟩ := x_p hf
  refine c_rput (v := .inl 0) C hw ew9 rfl ⟨rfl, Or.inl rfl⟩ pc_8 ⟨rfl, rfl⟩ ⟨by decide, by decide⟩ vT_30 dT_init_38 (fun H locs hw => ?_)
  obtain rfl := Option.some.inj hf
  refine W.widen (k := 4) (n := 15) (by omega) (by omega) ?_
  exact c_vret C hw dT_init_41
set_option maxRecDepth 100000 in
theorem dK_init_0 : decode bK_init 0 = .ok (.aload_n 0, 1) := by decide +kernel
set_option maxRecDepth 100000 in
theorem dK_init_1 : decode bK_init 1 = .ok (.invokespecial 3, 3) := by decide +kernel
set_option maxRecDepth 100000 in
theorem dK_init_4 : decode bK_init 4 = .ok (.aload_n 0, 1) := by decide +kernel
set_option maxRecDepth 100000 in
theorem dK_init_5 : decode bK_init 5 = .ok (.bipush 6, 2) := by decide +kernel
set_option maxRecDepth 100000 in
theorem dK_init_7 : decode bK_init 7 = .ok (.anewarray 9, 3) := by decide +kernel
set_option maxRecDepth 100000 in
theorem dK_init_10 : decode bK_init 10 = .ok (.putfield 11, 3) := by decide +kernel
set_option maxRecDepth 100000 in
theorem dK_init_13 : decode bK_init 13 = .ok (.aload_n 0, 1) := by decide +kernel
set_option maxRecDepth 100000 in
theorem dK_init_14 : decode bK_init 14 = .ok (.iconst 0, 1) := by decide +kernel
set_option maxRecDepth 100000 in
theorem dK_init_15 : decode bK_init 15 = .ok (.putfield 17, 3) := by decide +kernel
set_option maxRecDepth 100000 in
theorem dK_init_18 : decode bK_init 18 = .ok (.return_, 1) := by decide +kernel
def gK_init (w : cS) (a : Nat) : Option cS :=
  xl (w ++ [(20 + 5, List.replicate 6 (.inr none))]) fun w1 =>
  xp (c_put w1 a 1 0 (.inr (some w.length))) fun w2 =>
  xp (c_put w2 a 1 1 (.inl 0)) fun w3 =>
  some w3
set_option maxHeartbeats 4000000 in
set_option maxRecDepth 100000 in
theorem uK_init (l : Launch) (E : xE) (h : Nat) (w : cS) (a : Nat) (res : cS) (hf : gK_init w a = some res) : cM l E yK_init bK_init 1 1 1 6 h a w res := by
  refine c_met (by decide) (by decide) (fun p e R s m args below meth c ls H locs C hw hl => ?_)
  have hx := C.1
  have hb := C.2.1
  unfold gK_init at hf
  refine lv_aload_n hx hb dK_init_0 rfl (lv_at hl 0 rfl) ?_
  refine x_objinit C hl vK_3 dK_init_1 ?_
  refine lv_aload_n hx hb dK_init_4 rfl (lv_at hl 0 rfl) ?_
  refine lv_bipush (v := 6) hx hb dK_init_5 (by decide) ?_
  refine c_ranew (Cn := RxH) (N := 6) C hw 5 ⟨rfl, by decide⟩ vK_9 ao_5 ⟨by decide, rfl, by decide⟩ ⟨by omega, by omega⟩ dK_init_7 (fun H hw => ?_)
  obtain ⟨w1, ew1, hf⟩ := x_l hf
  rw [← ew1] at hw
  obtain ⟨w2, ew2, hf⟩ := x_p hf
  refine c_rput (v := .inr (some w.length)) C hw ew2 rfl ⟨rfl, Or.inr ⟨rfl, rfl, rfl⟩⟩ pc_10 ⟨rfl, rfl⟩ ⟨by decide, by decide⟩ vK_11 dK_init_10 (fun H locs hw => ?_)
  refine lv_aload_n hx hb dK_init_13 rfl (lv_at hl 0 rfl) ?_
  refine lv_iconst (v := 0) hx hb dK_init_14 (by decide) ?_
  obtain ⟨w3, ew3, hf⟩ := x_p hf
  refine c_rput (v := .inl 0) C hw ew3 rfl ⟨rfl, Or.inl rfl⟩ pc_0 ⟨rfl, rfl⟩ ⟨by decide, by decide⟩ vK_17 dK_init_15 (fun H locs hw => ?_)
  obtain rfl := Option.some.inj hf
  refine W.widen (k := 1) (n := 6) (by omega) (by omega) ?_
  exact c_vret C hw dK_init_18
set_option maxRecDepth 100000 in
theorem dF_init_0 : decode bF_init 0 = .ok (.aload_n 0, 1) := by decide +kernel
set_option maxRecDepth 100000 in
theorem dF_init_1 : decode bF_init 1 = .ok (.invokespecial 3, 3) := by decide +kernel
set_option maxRecDepth 100000 in
theorem dF_init_4 : decode bF_init 4 = .ok (.aload_n 0, 1) := by decide +kernel
set_option maxRecDepth 100000 in
theorem dF_init_5 : decode bF_init 5 = .ok (.bipush 40, 2) := by decide +kernel
set_option maxRecDepth 100000 in
theorem dF_init_7 : decode bF_init 7 = .ok (.newarray .int, 2) := by decide +kernel
set_option maxRecDepth 100000 in
theorem dF_init_9 : decode bF_init 9 = .ok (.putfield 9, 3) := by decide +kernel
set_option maxRecDepth 100000 in
theorem dF_init_12 : decode bF_init 12 = .ok (.aload_n 0, 1) := by decide +kernel
set_option maxRecDepth 100000 in
theorem dF_init_13 : decode bF_init 13 = .ok (.bipush 40, 2) := by decide +kernel
set_option maxRecDepth 100000 in
theorem dF_init_15 : decode bF_init 15 = .ok (.newarray .int, 2) := by decide +kernel
set_option maxRecDepth 100000 in
theorem dF_init_17 : decode bF_init 17 = .ok (.putfield 15, 3) := by decide +kernel
set_option maxRecDepth 100000 in
theorem dF_init_20 : decode bF_init 20 = .ok (.aload_n 0, 1) := by decide +kernel
set_option maxRecDepth 100000 in
theorem dF_init_21 : decode bF_init 21 = .ok (.iconst 0, 1) := by decide +kernel
set_option maxRecDepth 100000 in
theorem dF_init_22 : decode bF_init 22 = .ok (.putfield 18, 3) := by decide +kernel
set_option maxRecDepth 100000 in
theorem dF_init_25 : decode bF_init 25 = .ok (.aload_n 0, 1) := by decide +kernel
set_option maxRecDepth 100000 in
theorem dF_init_26 : decode bF_init 26 = .ok (.iconst 0, 1) := by decide +kernel
set_option maxRecDepth 100000 in
theorem dF_init_27 : decode bF_init 27 = .ok (.putfield 22, 3) := by decide +kernel
set_option maxRecDepth 100000 in
theorem dF_init_30 : decode bF_init 30 = .ok (.aload_n 0, 1) := by decide +kernel
set_option maxRecDepth 100000 in
theorem dF_init_31 : decode bF_init 31 = .ok (.iconst 0, 1) := by decide +kernel
set_option maxRecDepth 100000 in
theorem dF_init_32 : decode bF_init 32 = .ok (.putfield 26, 3) := by decide +kernel
set_option maxRecDepth 100000 in
theorem dF_init_35 : decode bF_init 35 = .ok (.return_, 1) := by decide +kernel
def gF_init (w : cS) (a : Nat) : Option cS :=
  xl (w ++ [(20 + 0, List.replicate 40 (.inl 0))]) fun w1 =>
  xp (c_put w1 a 3 0 (.inr (some w.length))) fun w2 =>
  xl (w2 ++ [(20 + 0, List.replicate 40 (.inl 0))]) fun w3 =>
  xp (c_put w3 a 3 1 (.inr (some w2.length))) fun w4 =>
  xp (c_put w4 a 3 2 (.inl 0)) fun w5 =>
  xp (c_put w5 a 3 3 (.inl 0)) fun w6 =>
  xp (c_put w6 a 3 4 (.inl 0)) fun w7 =>
  some w7
set_option maxHeartbeats 4000000 in
set_option maxRecDepth 100000 in
theorem uF_init (l : Launch) (E : xE) (h : Nat) (w : cS) (a : Nat) (res : cS) (hf : gF_init w a = some res) : cM l E yF_init bF_init 1 1 2 80 h a w res := by
  refine c_met (by decide) (by decide) (fun p e R s m args below meth c ls H locs C hw hl => ?_)
  have hx := C.1
  have hb := C.2.1
  unfold gF_init at hf
  refine lv_aload_n hx hb dF_init_0 rfl (lv_at hl 0 rfl) ?_
  refine x_objinit C hl vF_3 dF_init_1 ?_
  refine lv_aload_n hx hb dF_init_4 rfl (lv_at hl 0 rfl) ?_
  refine lv_bipush (v := 40) hx hb dF_init_5 (by decide) ?_
  refine c_rnewa (N := 40) C hw 0 ⟨rfl, by decide⟩ ⟨rfl, rfl, ra_int⟩ ac_0 ⟨by decide, rfl, by decide⟩ ⟨by omega, by omega⟩ dF_init_7 (fun H hw => ?_)
  obtain ⟨w1, ew1, hf⟩ := x_l hf
  rw [← ew1] at hw
  obtain ⟨w2, ew2, hf⟩ := x_p hf
  refine c_rput (v := .inr (some w.length)) C hw ew2 rfl ⟨rfl, Or.inr ⟨rfl, rfl, rfl⟩⟩ pc_9 ⟨rfl, rfl⟩ ⟨by decide, by decide⟩ vF_9 dF_init_9 (fun H locs hw => ?_)
  refine lv_aload_n hx hb dF_init_12 rfl (lv_at hl 0 rfl) ?_
  refine lv_bipush (v := 40) hx hb dF_init_13 (by decide) ?_
  refine c_rnewa (N := 40) C hw 0 ⟨rfl, by decide⟩ ⟨rfl, rfl, ra_int⟩ ac_0 ⟨by decide, rfl, by decide⟩ ⟨by omega, by omega⟩ dF_init_15 (fun H hw => ?_)
  obtain ⟨w3, ew3, hf⟩ := x_l hf
  rw [← ew3] at hw
  obtain ⟨w4, ew4, hf⟩ := x_p hf
  refine c_rput (v := .inr (some w2.length)) C hw ew4 rfl ⟨rfl, Or.inr ⟨rfl, rfl, rfl⟩⟩ pc_9 ⟨rfl, rfl⟩ ⟨by decide, by decide⟩ vF_15 dF_init_17 (fun H locs hw => ?_)
  refine lv_aload_n hx hb dF_init_20 rfl (lv_at hl 0 rfl) ?_
  refine lv_iconst (v := 0) hx hb dF_init_21 (by decide) ?_
  obtain ⟨w5, ew5, hf⟩ := x_p hf
  refine c_rput (v := .inl 0) C hw ew5 rfl ⟨rfl, Or.inl rfl⟩ pc_0 ⟨rfl, rfl⟩ ⟨by decide, by decide⟩ vF_18 dF_init_22 (fun H locs hw => ?_)
  refine lv_aload_n hx hb dF_init_25 rfl (lv_at hl 0 rfl) ?_
  refine lv_iconst (v := 0) hx hb dF_init_26 (by decide) ?_
  obtain ⟨w6, ew6, hf⟩ := x_p hf
  refine c_rput (v := .inl 0) C hw ew6 rfl ⟨rfl, Or.inl rfl⟩ pc_8 ⟨rfl, rfl⟩ ⟨by decide, by decide⟩ vF_22 dF_init_27 (fun H locs hw => ?_)
  refine lv_aload_n hx hb dF_init_30 rfl (lv_at hl 0 rfl) ?_
  refine lv_iconst (v := 0) hx hb dF_init_31 (by decide) ?_
  obtain ⟨w7, ew7, hf⟩ := x_p hf
  refine c_rput (v := .inl 0) C hw ew7 rfl ⟨rfl, Or.inl rfl⟩ pc_8 ⟨rfl, rfl⟩ ⟨by decide, by decide⟩ vF_26 dF_init_32 (fun H locs hw => ?_)
  obtain rfl := Option.some.inj hf
  refine W.widen (k := 2) (n := 80) (by omega) (by omega) ?_
  exact c_vret C hw dF_init_35
set_option maxRecDepth 100000 in
theorem dC_init_0 : decode bC_init 0 = .ok (.aload_n 0, 1) := by decide +kernel
set_option maxRecDepth 100000 in
theorem dC_init_1 : decode bC_init 1 = .ok (.invokespecial 3, 3) := by decide +kernel
set_option maxRecDepth 100000 in
theorem dC_init_4 : decode bC_init 4 = .ok (.aload_n 0, 1) := by decide +kernel
set_option maxRecDepth 100000 in
theorem dC_init_5 : decode bC_init 5 = .ok (.bipush 12, 2) := by decide +kernel
set_option maxRecDepth 100000 in
theorem dC_init_7 : decode bC_init 7 = .ok (.newarray .int, 2) := by decide +kernel
set_option maxRecDepth 100000 in
theorem dC_init_9 : decode bC_init 9 = .ok (.putfield 9, 3) := by decide +kernel
set_option maxRecDepth 100000 in
theorem dC_init_12 : decode bC_init 12 = .ok (.aload_n 0, 1) := by decide +kernel
set_option maxRecDepth 100000 in
theorem dC_init_13 : decode bC_init 13 = .ok (.iconst 0, 1) := by decide +kernel
set_option maxRecDepth 100000 in
theorem dC_init_14 : decode bC_init 14 = .ok (.putfield 15, 3) := by decide +kernel
set_option maxRecDepth 100000 in
theorem dC_init_17 : decode bC_init 17 = .ok (.aload_n 0, 1) := by decide +kernel
set_option maxRecDepth 100000 in
theorem dC_init_18 : decode bC_init 18 = .ok (.iconst 0, 1) := by decide +kernel
set_option maxRecDepth 100000 in
theorem dC_init_19 : decode bC_init 19 = .ok (.putfield 19, 3) := by decide +kernel
set_option maxRecDepth 100000 in
theorem dC_init_22 : decode bC_init 22 = .ok (.aload_n 0, 1) := by decide +kernel
set_option maxRecDepth 100000 in
theorem dC_init_23 : decode bC_init 23 = .ok (.iconst 0, 1) := by decide +kernel
set_option maxRecDepth 100000 in
theorem dC_init_24 : decode bC_init 24 = .ok (.putfield 22, 3) := by decide +kernel
set_option maxRecDepth 100000 in
theorem dC_init_27 : decode bC_init 27 = .ok (.return_, 1) := by decide +kernel
def gC_init (w : cS) (a : Nat) : Option cS :=
  xl (w ++ [(20 + 0, List.replicate 12 (.inl 0))]) fun w1 =>
  xp (c_put w1 a 4 0 (.inr (some w.length))) fun w2 =>
  xp (c_put w2 a 4 1 (.inl 0)) fun w3 =>
  xp (c_put w3 a 4 2 (.inl 0)) fun w4 =>
  xp (c_put w4 a 4 3 (.inl 0)) fun w5 =>
  some w5
set_option maxHeartbeats 4000000 in
set_option maxRecDepth 100000 in
theorem uC_init (l : Launch) (E : xE) (h : Nat) (w : cS) (a : Nat) (res : cS) (hf : gC_init w a = some res) : cM l E yC_init bC_init 1 1 1 12 h a w res := by
  refine c_met (by decide) (by decide) (fun p e R s m args below meth c ls H locs C hw hl => ?_)
  have hx := C.1
  have hb := C.2.1
  unfold gC_init at hf
  refine lv_aload_n hx hb dC_init_0 rfl (lv_at hl 0 rfl) ?_
  refine x_objinit C hl vC_3 dC_init_1 ?_
  refine lv_aload_n hx hb dC_init_4 rfl (lv_at hl 0 rfl) ?_
  refine lv_bipush (v := 12) hx hb dC_init_5 (by decide) ?_
  refine c_rnewa (N := 12) C hw 0 ⟨rfl, by decide⟩ ⟨rfl, rfl, ra_int⟩ ac_0 ⟨by decide, rfl, by decide⟩ ⟨by omega, by omega⟩ dC_init_7 (fun H hw => ?_)
  obtain ⟨w1, ew1, hf⟩ := x_l hf
  rw [← ew1] at hw
  obtain ⟨w2, ew2, hf⟩ := x_p hf
  refine c_rput (v := .inr (some w.length)) C hw ew2 rfl ⟨rfl, Or.inr ⟨rfl, rfl, rfl⟩⟩ pc_9 ⟨rfl, rfl⟩ ⟨by decide, by decide⟩ vC_9 dC_init_9 (fun H locs hw => ?_)
  refine lv_aload_n hx hb dC_init_12 rfl (lv_at hl 0 rfl) ?_
  refine lv_iconst (v := 0) hx hb dC_init_13 (by decide) ?_
  obtain ⟨w3, ew3, hf⟩ := x_p hf
  refine c_rput (v := .inl 0) C hw ew3 rfl ⟨rfl, Or.inl rfl⟩ pc_0 ⟨rfl, rfl⟩ ⟨by decide, by decide⟩ vC_15 dC_init_14 (fun H locs hw => ?_)
  refine lv_aload_n hx hb dC_init_17 rfl (lv_at hl 0 rfl) ?_
  refine lv_iconst (v := 0) hx hb dC_init_18 (by decide) ?_
  obtain ⟨w4, ew4, hf⟩ := x_p hf
  refine c_rput (v := .inl 0) C hw ew4 rfl ⟨rfl, Or.inl rfl⟩ pc_0 ⟨rfl, rfl⟩ ⟨by decide, by decide⟩ vC_19 dC_init_19 (fun H locs hw => ?_)
  refine lv_aload_n hx hb dC_init_22 rfl (lv_at hl 0 rfl) ?_
  refine lv_iconst (v := 0) hx hb dC_init_23 (by decide) ?_
  obtain ⟨w5, ew5, hf⟩ := x_p hf
  refine c_rput (v := .inl 0) C hw ew5 rfl ⟨rfl, Or.inl rfl⟩ pc_0 ⟨rfl, rfl⟩ ⟨by decide, by decide⟩ vC_22 dC_init_24 (fun H locs hw => ?_)
  obtain rfl := Option.some.inj hf
  refine W.widen (k := 1) (n := 12) (by omega) (by omega) ?_
  exact c_vret C hw dC_init_27
set_option maxRecDepth 100000 in
theorem dB_init_0 : decode bB_init 0 = .ok (.aload_n 0, 1) := by decide +kernel
set_option maxRecDepth 100000 in
theorem dB_init_1 : decode bB_init 1 = .ok (.invokespecial 3, 3) := by decide +kernel
set_option maxRecDepth 100000 in
theorem dB_init_4 : decode bB_init 4 = .ok (.aload_n 0, 1) := by decide +kernel
set_option maxRecDepth 100000 in
theorem dB_init_5 : decode bB_init 5 = .ok (.bipush 40, 2) := by decide +kernel
set_option maxRecDepth 100000 in
theorem dB_init_7 : decode bB_init 7 = .ok (.anewarray 9, 3) := by decide +kernel
set_option maxRecDepth 100000 in
theorem dB_init_10 : decode bB_init 10 = .ok (.putfield 11, 3) := by decide +kernel
set_option maxRecDepth 100000 in
theorem dB_init_13 : decode bB_init 13 = .ok (.aload_n 0, 1) := by decide +kernel
set_option maxRecDepth 100000 in
theorem dB_init_14 : decode bB_init 14 = .ok (.iconst 0, 1) := by decide +kernel
set_option maxRecDepth 100000 in
theorem dB_init_15 : decode bB_init 15 = .ok (.putfield 17, 3) := by decide +kernel
set_option maxRecDepth 100000 in
theorem dB_init_18 : decode bB_init 18 = .ok (.aload_n 0, 1) := by decide +kernel
set_option maxRecDepth 100000 in
theorem dB_init_19 : decode bB_init 19 = .ok (.iconst 0, 1) := by decide +kernel
set_option maxRecDepth 100000 in
theorem dB_init_20 : decode bB_init 20 = .ok (.putfield 21, 3) := by decide +kernel
set_option maxRecDepth 100000 in
theorem dB_init_23 : decode bB_init 23 = .ok (.iconst 0, 1) := by decide +kernel
set_option maxRecDepth 100000 in
theorem dB_init_24 : decode bB_init 24 = .ok (.istore_n 1, 1) := by decide +kernel
set_option maxRecDepth 100000 in
theorem dB_init_25 : decode bB_init 25 = .ok (.iload_n 1, 1) := by decide +kernel
set_option maxRecDepth 100000 in
theorem dB_init_26 : decode bB_init 26 = .ok (.aload_n 0, 1) := by decide +kernel
set_option maxRecDepth 100000 in
theorem dB_init_27 : decode bB_init 27 = .ok (.getfield 11, 3) := by decide +kernel
set_option maxRecDepth 100000 in
theorem dB_init_30 : decode bB_init 30 = .ok (.arraylength, 1) := by decide +kernel
set_option maxRecDepth 100000 in
theorem dB_init_31 : decode bB_init 31 = .ok (.if_icmp .ge 22, 3) := by decide +kernel
set_option maxRecDepth 100000 in
theorem dB_init_34 : decode bB_init 34 = .ok (.aload_n 0, 1) := by decide +kernel
set_option maxRecDepth 100000 in
theorem dB_init_35 : decode bB_init 35 = .ok (.getfield 11, 3) := by decide +kernel
set_option maxRecDepth 100000 in
theorem dB_init_38 : decode bB_init 38 = .ok (.iload_n 1, 1) := by decide +kernel
set_option maxRecDepth 100000 in
theorem dB_init_39 : decode bB_init 39 = .ok (.new 9, 3) := by decide +kernel
set_option maxRecDepth 100000 in
theorem dB_init_42 : decode bB_init 42 = .ok (.dup, 1) := by decide +kernel
set_option maxRecDepth 100000 in
theorem dB_init_43 : decode bB_init 43 = .ok (.invokespecial 24, 3) := by decide +kernel
set_option maxRecDepth 100000 in
theorem dB_init_46 : decode bB_init 46 = .ok (.aastore, 1) := by decide +kernel
set_option maxRecDepth 100000 in
theorem dB_init_47 : decode bB_init 47 = .ok (.iinc 1 1, 3) := by decide +kernel
set_option maxRecDepth 100000 in
theorem dB_init_50 : decode bB_init 50 = .ok (.goto (-25), 3) := by decide +kernel
set_option maxRecDepth 100000 in
theorem dB_init_53 : decode bB_init 53 = .ok (.return_, 1) := by decide +kernel
def gB_init_25b (a : Nat) (rec : cS → Int32 → Option cS) (w : cS) (i : Int32) : Option cS :=
  xp (c_getp w a 2 0) fun q1 =>
  xp (c_arr w q1 (20 + 3)) fun n2 =>
  if (nI n2) ≤ i then
  (some w)
  else
  (xp (c_getp w a 2 0) fun q4 =>
  xl (w ++ [(6, [.inl 0, .inl 0, .inl 0, .inl 0, .inl 0, .inl 0, .inl 0])]) fun w5 =>
  xp (gN_init w5 w.length) fun w6 =>
  xp (c_arr w6 q4 (20 + 3)) fun n7 =>
  if ¬ (i < 0 ∨ n7 ≤ i.toNatClampNeg) then
  xp (c_ob w6 w.length 6) fun o10 =>
  xp (c_put w6 q4 (20 + 3) i.toNatClampNeg (.inr (some w.length))) fun w9 =>
  rec w9 (i + 1)
  else none)
def gB_init_25 (a : Nat) : Nat → cS → Int32 → Option cS
  | 0, _, _ => none
  | n + 1, w, i => gB_init_25b a (gB_init_25 a n) w i
set_option maxHeartbeats 4000000 in
set_option maxRecDepth 100000 in
theorem uB_init_25 {p : Program} {l : Launch} {e : Env} {R : Room} {s : State} {m : MethodId} {args : Array Value} {below : List Frame} {meth : Method} {c : Code} {E : xE} {h : Nat} (C : xC p s m args meth c R E (fun q : Nat => h ≤ q) bB_init 2 yB_init none 2 51 390) (a n : Nat) : ∀ (w : cS) (i : Int32) (res : cS), gB_init_25 a n w i = some res → ∀ (cl sl : Nat), cl + n * 1 + 0 ≤ 51 → sl + n * 7 + 0 ≤ 390 → ∀ (H : Heap) (locs : List Loc) (ls : Array Slot), cW E h s w H locs → lv_has ls 2 [(0, .ref (h + a)), (1, .int i)] → W p l e R s m args below meth c H locs cl sl (MQ below (cQ E h res) args s 51 390 (fun q : Nat => h ≤ q)) (F0 m 25 ls []) := by
  induction n with
  | zero => intro w i res hf; cases hf
  | succ n hrec =>
  intro w i res hf cl sl hcl hsl H locs ls hw hl
  have hx := C.1
  have hb := C.2.1
  obtain ⟨rec, erec⟩ : ∃ z, z = gB_init_25 a n := ⟨_, rfl⟩
  rw [← erec] at hrec
  have hf : gB_init_25b a rec w i = some res := by rw [erec]; exact hf
  unfold gB_init_25b at hf
  refine lv_iload_n hx hb dB_init_25 rfl (lv_at hl 1 rfl) ?_
  refine lv_aload_n hx hb dB_init_26 rfl (lv_at hl 0 rfl) ?_
  obtain ⟨q1, eq1, hf⟩ := x_p hf
  refine c_rget C hw (c_getpE eq1) rfl ⟨by decide, by decide⟩ vB_11 dB_init_27 ?_
  obtain ⟨n2, en2, hf⟩ := x_p hf
  refine c_rlen C hw 3 en2 ⟨rfl, by decide⟩ dB_init_30 ?_
  refine lv_icmp_ge (tgt := 53) hx hb dB_init_31 (by decide) (fun c3 => ?_) (fun c3 => ?_)
  · replace hf := x_ip c3 hf
    obtain rfl := Option.some.inj hf
    refine W.widen (k := 51) (n := 390) (by omega) (by omega) ?_
    exact c_vret C hw dB_init_53
  · replace hf := x_in c3 hf
    refine lv_aload_n hx hb dB_init_34 rfl (lv_at hl 0 rfl) ?_
    obtain ⟨q4, eq4, hf⟩ := x_p hf
    refine c_rget C hw (c_getpE eq4) rfl ⟨by decide, by decide⟩ vB_11 dB_init_35 ?_
    refine lv_iload_n hx hb dB_init_38 rfl (lv_at hl 1 rfl) ?_
    refine c_rnew (ci := 6) (vs := [.inl 0, .inl 0, .inl 0, .inl 0, .inl 0, .inl 0, .inl 0]) C hw rfl vB_9 in1_N in2_N ⟨by decide, born_N h⟩ ⟨by omega, by omega⟩ dB_init_39 (fun H hw => ?_)
    obtain ⟨w5, ew5, hf⟩ := x_l hf
    rw [← ew5] at hw
    refine lv_dup hx hb dB_init_42 rfl ?_
    obtain ⟨w6, ew6, hf⟩ := x_p hf
    refine c_callIN (rest := [.ref (h + w.length), .int i, .ref (h + q4)]) C hw (uN_init l E h w5 w.length w6 ew6) kcB_24 (by decide) rfl hl.1 (lv_room (Nat.le_of_ble_eq_true rfl)) dB_init_43 ⟨by omega, by omega⟩ (fun H locs hw => ?_)
    obtain ⟨n7, en7, hf⟩ := x_p hf
    obtain ⟨g8, hf⟩ := x_g hf
    obtain ⟨o10, eo10, hf⟩ := x_p hf
    obtain ⟨w9, ew9, hf⟩ := x_p hf
    refine c_raast C hw 3 6 en7 g8 ew9 (c_obE eo10) rfl ⟨rfl, by decide, by decide⟩ dB_init_46 (fun H locs hw => ?_)
    refine lv_iinc (v := i + 1) (lv' := [(1, .int (i + 1)), (0, .ref (h + a))]) hx hb dB_init_47 hl (k := 1) rfl rfl (by decide) rfl (fun ls hl => ?_)
    refine lv_goto (tgt := 25) hx hb dB_init_50 (by decide) ?_
    exact hrec w9 (i + 1) res hf _ _ (by omega) (by omega) H locs ls hw (lv_sub hl [1, 0] rfl)
def gB_init (w : cS) (a : Nat) : Option cS :=
  xl (w ++ [(20 + 3, List.replicate 40 (.inr none))]) fun w11 =>
  xp (c_put w11 a 2 0 (.inr (some w.length))) fun w12 =>
  xp (c_put w12 a 2 1 (.inl 0)) fun w13 =>
  xp (c_put w13 a 2 2 (.inl 0)) fun w14 =>
  gB_init_25 a 50 w14 0
set_option maxHeartbeats 4000000 in
set_option maxRecDepth 100000 in
theorem uB_init (l : Launch) (E : xE) (h : Nat) (w : cS) (a : Nat) (res : cS) (hf : gB_init w a = some res) : cM l E yB_init bB_init 2 2 51 390 h a w res := by
  refine c_met (by decide) (by decide) (fun p e R s m args below meth c ls H locs C hw hl => ?_)
  have hx := C.1
  have hb := C.2.1
  unfold gB_init at hf
  refine lv_aload_n hx hb dB_init_0 rfl (lv_at hl 0 rfl) ?_
  refine x_objinit C hl vB_3 dB_init_1 ?_
  refine lv_aload_n hx hb dB_init_4 rfl (lv_at hl 0 rfl) ?_
  refine lv_bipush (v := 40) hx hb dB_init_5 (by decide) ?_
  refine c_ranew (Cn := RxN) (N := 40) C hw 3 ⟨rfl, by decide⟩ vB_9 ao_3 ⟨by decide, rfl, by decide⟩ ⟨by omega, by omega⟩ dB_init_7 (fun H hw => ?_)
  obtain ⟨w11, ew11, hf⟩ := x_l hf
  rw [← ew11] at hw
  obtain ⟨w12, ew12, hf⟩ := x_p hf
  refine c_rput (v := .inr (some w.length)) C hw ew12 rfl ⟨rfl, Or.inr ⟨rfl, rfl, rfl⟩⟩ pc_12 ⟨rfl, rfl⟩ ⟨by decide, by decide⟩ vB_11 dB_init_10 (fun H locs hw => ?_)
  refine lv_aload_n hx hb dB_init_13 rfl (lv_at hl 0 rfl) ?_
  refine lv_iconst (v := 0) hx hb dB_init_14 (by decide) ?_
  obtain ⟨w13, ew13, hf⟩ := x_p hf
  refine c_rput (v := .inl 0) C hw ew13 rfl ⟨rfl, Or.inl rfl⟩ pc_0 ⟨rfl, rfl⟩ ⟨by decide, by decide⟩ vB_17 dB_init_15 (fun H locs hw => ?_)
  refine lv_aload_n hx hb dB_init_18 rfl (lv_at hl 0 rfl) ?_
  refine lv_iconst (v := 0) hx hb dB_init_19 (by decide) ?_
  obtain ⟨w14, ew14, hf⟩ := x_p hf
  refine c_rput (v := .inl 0) C hw ew14 rfl ⟨rfl, Or.inl rfl⟩ pc_0 ⟨rfl, rfl⟩ ⟨by decide, by decide⟩ vB_21 dB_init_20 (fun H locs hw => ?_)
  refine lv_iconst (v := 0) hx hb dB_init_23 (by decide) ?_
  refine lv_istore_n (lv' := [(1, .int 0), (0, .ref (h + a))]) hx hb dB_init_24 rfl hl (by decide) rfl (fun ls hl => ?_)
  exact uB_init_25 C a 50 w14 0 res hf _ _ (by omega) (by omega) H locs ls hw (lv_sub hl [1, 0] rfl)
set_option maxRecDepth 100000 in
theorem dA_init_0 : decode bA_init 0 = .ok (.aload_n 0, 1) := by decide +kernel
set_option maxRecDepth 100000 in
theorem dA_init_1 : decode bA_init 1 = .ok (.invokespecial 1, 3) := by decide +kernel
set_option maxRecDepth 100000 in
theorem dA_init_4 : decode bA_init 4 = .ok (.aload_n 0, 1) := by decide +kernel
set_option maxRecDepth 100000 in
theorem dA_init_5 : decode bA_init 5 = .ok (.bipush 12, 2) := by decide +kernel
set_option maxRecDepth 100000 in
theorem dA_init_7 : decode bA_init 7 = .ok (.anewarray 9, 3) := by decide +kernel
set_option maxRecDepth 100000 in
theorem dA_init_10 : decode bA_init 10 = .ok (.putfield 11, 3) := by decide +kernel
set_option maxRecDepth 100000 in
theorem dA_init_13 : decode bA_init 13 = .ok (.aload_n 0, 1) := by decide +kernel
set_option maxRecDepth 100000 in
theorem dA_init_14 : decode bA_init 14 = .ok (.bipush 6, 2) := by decide +kernel
set_option maxRecDepth 100000 in
theorem dA_init_16 : decode bA_init 16 = .ok (.newarray .int, 2) := by decide +kernel
set_option maxRecDepth 100000 in
theorem dA_init_18 : decode bA_init 18 = .ok (.putfield 15, 3) := by decide +kernel
set_option maxRecDepth 100000 in
theorem dA_init_21 : decode bA_init 21 = .ok (.aload_n 0, 1) := by decide +kernel
set_option maxRecDepth 100000 in
theorem dA_init_22 : decode bA_init 22 = .ok (.bipush 6, 2) := by decide +kernel
set_option maxRecDepth 100000 in
theorem dA_init_24 : decode bA_init 24 = .ok (.newarray .int, 2) := by decide +kernel
set_option maxRecDepth 100000 in
theorem dA_init_26 : decode bA_init 26 = .ok (.putfield 19, 3) := by decide +kernel
set_option maxRecDepth 100000 in
theorem dA_init_29 : decode bA_init 29 = .ok (.aload_n 0, 1) := by decide +kernel
set_option maxRecDepth 100000 in
theorem dA_init_30 : decode bA_init 30 = .ok (.iconst 0, 1) := by decide +kernel
set_option maxRecDepth 100000 in
theorem dA_init_31 : decode bA_init 31 = .ok (.putfield 22, 3) := by decide +kernel
set_option maxRecDepth 100000 in
theorem dA_init_34 : decode bA_init 34 = .ok (.aload_n 0, 1) := by decide +kernel
set_option maxRecDepth 100000 in
theorem dA_init_35 : decode bA_init 35 = .ok (.new 26, 3) := by decide +kernel
set_option maxRecDepth 100000 in
theorem dA_init_38 : decode bA_init 38 = .ok (.dup, 1) := by decide +kernel
set_option maxRecDepth 100000 in
theorem dA_init_39 : decode bA_init 39 = .ok (.invokespecial 28, 3) := by decide +kernel
set_option maxRecDepth 100000 in
theorem dA_init_42 : decode bA_init 42 = .ok (.putfield 29, 3) := by decide +kernel
set_option maxRecDepth 100000 in
theorem dA_init_45 : decode bA_init 45 = .ok (.aload_n 0, 1) := by decide +kernel
set_option maxRecDepth 100000 in
theorem dA_init_46 : decode bA_init 46 = .ok (.new 33, 3) := by decide +kernel
set_option maxRecDepth 100000 in
theorem dA_init_49 : decode bA_init 49 = .ok (.dup, 1) := by decide +kernel
set_option maxRecDepth 100000 in
theorem dA_init_50 : decode bA_init 50 = .ok (.invokespecial 35, 3) := by decide +kernel
set_option maxRecDepth 100000 in
theorem dA_init_53 : decode bA_init 53 = .ok (.putfield 36, 3) := by decide +kernel
set_option maxRecDepth 100000 in
theorem dA_init_56 : decode bA_init 56 = .ok (.aload_n 0, 1) := by decide +kernel
set_option maxRecDepth 100000 in
theorem dA_init_57 : decode bA_init 57 = .ok (.new 40, 3) := by decide +kernel
set_option maxRecDepth 100000 in
theorem dA_init_60 : decode bA_init 60 = .ok (.dup, 1) := by decide +kernel
set_option maxRecDepth 100000 in
theorem dA_init_61 : decode bA_init 61 = .ok (.invokespecial 42, 3) := by decide +kernel
set_option maxRecDepth 100000 in
theorem dA_init_64 : decode bA_init 64 = .ok (.putfield 43, 3) := by decide +kernel
set_option maxRecDepth 100000 in
theorem dA_init_67 : decode bA_init 67 = .ok (.aload_n 0, 1) := by decide +kernel
set_option maxRecDepth 100000 in
theorem dA_init_68 : decode bA_init 68 = .ok (.bipush 16, 2) := by decide +kernel
set_option maxRecDepth 100000 in
theorem dA_init_70 : decode bA_init 70 = .ok (.anewarray 47, 3) := by decide +kernel
set_option maxRecDepth 100000 in
theorem dA_init_73 : decode bA_init 73 = .ok (.putfield 49, 3) := by decide +kernel
set_option maxRecDepth 100000 in
theorem dA_init_76 : decode bA_init 76 = .ok (.aload_n 0, 1) := by decide +kernel
set_option maxRecDepth 100000 in
theorem dA_init_77 : decode bA_init 77 = .ok (.iconst 0, 1) := by decide +kernel
set_option maxRecDepth 100000 in
theorem dA_init_78 : decode bA_init 78 = .ok (.putfield 53, 3) := by decide +kernel
set_option maxRecDepth 100000 in
theorem dA_init_81 : decode bA_init 81 = .ok (.aload_n 0, 1) := by decide +kernel
set_option maxRecDepth 100000 in
theorem dA_init_82 : decode bA_init 82 = .ok (.new 56, 3) := by decide +kernel
set_option maxRecDepth 100000 in
theorem dA_init_85 : decode bA_init 85 = .ok (.dup, 1) := by decide +kernel
set_option maxRecDepth 100000 in
theorem dA_init_86 : decode bA_init 86 = .ok (.invokespecial 58, 3) := by decide +kernel
set_option maxRecDepth 100000 in
theorem dA_init_89 : decode bA_init 89 = .ok (.putfield 59, 3) := by decide +kernel
set_option maxRecDepth 100000 in
theorem dA_init_92 : decode bA_init 92 = .ok (.aload_n 0, 1) := by decide +kernel
set_option maxRecDepth 100000 in
theorem dA_init_93 : decode bA_init 93 = .ok (.new 63, 3) := by decide +kernel
set_option maxRecDepth 100000 in
theorem dA_init_96 : decode bA_init 96 = .ok (.dup, 1) := by decide +kernel
set_option maxRecDepth 100000 in
theorem dA_init_97 : decode bA_init 97 = .ok (.invokespecial 65, 3) := by decide +kernel
set_option maxRecDepth 100000 in
theorem dA_init_100 : decode bA_init 100 = .ok (.putfield 66, 3) := by decide +kernel
set_option maxRecDepth 100000 in
theorem dA_init_103 : decode bA_init 103 = .ok (.aload_n 0, 1) := by decide +kernel
set_option maxRecDepth 100000 in
theorem dA_init_104 : decode bA_init 104 = .ok (.new 70, 3) := by decide +kernel
set_option maxRecDepth 100000 in
theorem dA_init_107 : decode bA_init 107 = .ok (.dup, 1) := by decide +kernel
set_option maxRecDepth 100000 in
theorem dA_init_108 : decode bA_init 108 = .ok (.invokespecial 72, 3) := by decide +kernel
set_option maxRecDepth 100000 in
theorem dA_init_111 : decode bA_init 111 = .ok (.putfield 73, 3) := by decide +kernel
set_option maxRecDepth 100000 in
theorem dA_init_114 : decode bA_init 114 = .ok (.aload_n 0, 1) := by decide +kernel
set_option maxRecDepth 100000 in
theorem dA_init_115 : decode bA_init 115 = .ok (.iconst 0, 1) := by decide +kernel
set_option maxRecDepth 100000 in
theorem dA_init_116 : decode bA_init 116 = .ok (.putfield 77, 3) := by decide +kernel
set_option maxRecDepth 100000 in
theorem dA_init_119 : decode bA_init 119 = .ok (.aload_n 0, 1) := by decide +kernel
set_option maxRecDepth 100000 in
theorem dA_init_120 : decode bA_init 120 = .ok (.iconst (-1), 1) := by decide +kernel
set_option maxRecDepth 100000 in
theorem dA_init_121 : decode bA_init 121 = .ok (.putfield 80, 3) := by decide +kernel
set_option maxRecDepth 100000 in
theorem dA_init_124 : decode bA_init 124 = .ok (.aload_n 0, 1) := by decide +kernel
set_option maxRecDepth 100000 in
theorem dA_init_125 : decode bA_init 125 = .ok (.iconst 0, 1) := by decide +kernel
set_option maxRecDepth 100000 in
theorem dA_init_126 : decode bA_init 126 = .ok (.putfield 83, 3) := by decide +kernel
set_option maxRecDepth 100000 in
theorem dA_init_129 : decode bA_init 129 = .ok (.aload_n 0, 1) := by decide +kernel
set_option maxRecDepth 100000 in
theorem dA_init_130 : decode bA_init 130 = .ok (.iconst 0, 1) := by decide +kernel
set_option maxRecDepth 100000 in
theorem dA_init_131 : decode bA_init 131 = .ok (.putfield 86, 3) := by decide +kernel
set_option maxRecDepth 100000 in
theorem dA_init_134 : decode bA_init 134 = .ok (.aload_n 0, 1) := by decide +kernel
set_option maxRecDepth 100000 in
theorem dA_init_135 : decode bA_init 135 = .ok (.iconst (-1), 1) := by decide +kernel
set_option maxRecDepth 100000 in
theorem dA_init_136 : decode bA_init 136 = .ok (.putfield 89, 3) := by decide +kernel
set_option maxRecDepth 100000 in
theorem dA_init_139 : decode bA_init 139 = .ok (.aload_n 0, 1) := by decide +kernel
set_option maxRecDepth 100000 in
theorem dA_init_140 : decode bA_init 140 = .ok (.iconst 0, 1) := by decide +kernel
set_option maxRecDepth 100000 in
theorem dA_init_141 : decode bA_init 141 = .ok (.putfield 92, 3) := by decide +kernel
set_option maxRecDepth 100000 in
theorem dA_init_144 : decode bA_init 144 = .ok (.iconst 0, 1) := by decide +kernel
set_option maxRecDepth 100000 in
theorem dA_init_145 : decode bA_init 145 = .ok (.istore_n 1, 1) := by decide +kernel
set_option maxRecDepth 100000 in
theorem dA_init_146 : decode bA_init 146 = .ok (.iload_n 1, 1) := by decide +kernel
set_option maxRecDepth 100000 in
theorem dA_init_147 : decode bA_init 147 = .ok (.aload_n 0, 1) := by decide +kernel
set_option maxRecDepth 100000 in
theorem dA_init_148 : decode bA_init 148 = .ok (.getfield 11, 3) := by decide +kernel
set_option maxRecDepth 100000 in
theorem dA_init_151 : decode bA_init 151 = .ok (.arraylength, 1) := by decide +kernel
set_option maxRecDepth 100000 in
theorem dA_init_152 : decode bA_init 152 = .ok (.if_icmp .ge 22, 3) := by decide +kernel
set_option maxRecDepth 100000 in
theorem dA_init_155 : decode bA_init 155 = .ok (.aload_n 0, 1) := by decide +kernel
set_option maxRecDepth 100000 in
theorem dA_init_156 : decode bA_init 156 = .ok (.getfield 11, 3) := by decide +kernel
set_option maxRecDepth 100000 in
theorem dA_init_159 : decode bA_init 159 = .ok (.iload_n 1, 1) := by decide +kernel
set_option maxRecDepth 100000 in
theorem dA_init_160 : decode bA_init 160 = .ok (.new 9, 3) := by decide +kernel
set_option maxRecDepth 100000 in
theorem dA_init_163 : decode bA_init 163 = .ok (.dup, 1) := by decide +kernel
set_option maxRecDepth 100000 in
theorem dA_init_164 : decode bA_init 164 = .ok (.invokespecial 95, 3) := by decide +kernel
set_option maxRecDepth 100000 in
theorem dA_init_167 : decode bA_init 167 = .ok (.aastore, 1) := by decide +kernel
set_option maxRecDepth 100000 in
theorem dA_init_168 : decode bA_init 168 = .ok (.iinc 1 1, 3) := by decide +kernel
set_option maxRecDepth 100000 in
theorem dA_init_171 : decode bA_init 171 = .ok (.goto (-25), 3) := by decide +kernel
set_option maxRecDepth 100000 in
theorem dA_init_174 : decode bA_init 174 = .ok (.iconst 0, 1) := by decide +kernel
set_option maxRecDepth 100000 in
theorem dA_init_175 : decode bA_init 175 = .ok (.istore_n 1, 1) := by decide +kernel
set_option maxRecDepth 100000 in
theorem dA_init_176 : decode bA_init 176 = .ok (.iload_n 1, 1) := by decide +kernel
set_option maxRecDepth 100000 in
theorem dA_init_177 : decode bA_init 177 = .ok (.aload_n 0, 1) := by decide +kernel
set_option maxRecDepth 100000 in
theorem dA_init_178 : decode bA_init 178 = .ok (.getfield 49, 3) := by decide +kernel
set_option maxRecDepth 100000 in
theorem dA_init_181 : decode bA_init 181 = .ok (.arraylength, 1) := by decide +kernel
set_option maxRecDepth 100000 in
theorem dA_init_182 : decode bA_init 182 = .ok (.if_icmp .ge 22, 3) := by decide +kernel
set_option maxRecDepth 100000 in
theorem dA_init_185 : decode bA_init 185 = .ok (.aload_n 0, 1) := by decide +kernel
set_option maxRecDepth 100000 in
theorem dA_init_186 : decode bA_init 186 = .ok (.getfield 49, 3) := by decide +kernel
set_option maxRecDepth 100000 in
theorem dA_init_189 : decode bA_init 189 = .ok (.iload_n 1, 1) := by decide +kernel
set_option maxRecDepth 100000 in
theorem dA_init_190 : decode bA_init 190 = .ok (.new 47, 3) := by decide +kernel
set_option maxRecDepth 100000 in
theorem dA_init_193 : decode bA_init 193 = .ok (.dup, 1) := by decide +kernel
set_option maxRecDepth 100000 in
theorem dA_init_194 : decode bA_init 194 = .ok (.invokespecial 96, 3) := by decide +kernel
set_option maxRecDepth 100000 in
theorem dA_init_197 : decode bA_init 197 = .ok (.aastore, 1) := by decide +kernel
set_option maxRecDepth 100000 in
theorem dA_init_198 : decode bA_init 198 = .ok (.iinc 1 1, 3) := by decide +kernel
set_option maxRecDepth 100000 in
theorem dA_init_201 : decode bA_init 201 = .ok (.goto (-25), 3) := by decide +kernel
set_option maxRecDepth 100000 in
theorem dA_init_204 : decode bA_init 204 = .ok (.return_, 1) := by decide +kernel
def gA_init_176b (a : Nat) (rec : cS → Int32 → Option cS) (w : cS) (i : Int32) : Option cS :=
  xp (c_getp w a 0 7) fun q1 =>
  xp (c_arr w q1 (20 + 4)) fun n2 =>
  if (nI n2) ≤ i then
  (some w)
  else
  (xp (c_getp w a 0 7) fun q4 =>
  xl (w ++ [(7, [.inr none, .inr none, .inl 0, .inl 0, .inl 0])]) fun w5 =>
  xp (gT_init w5 w.length) fun w6 =>
  xp (c_arr w6 q4 (20 + 4)) fun n7 =>
  if ¬ (i < 0 ∨ n7 ≤ i.toNatClampNeg) then
  xp (c_ob w6 w.length 7) fun o10 =>
  xp (c_put w6 q4 (20 + 4) i.toNatClampNeg (.inr (some w.length))) fun w9 =>
  rec w9 (i + 1)
  else none)
def gA_init_176 (a : Nat) : Nat → cS → Int32 → Option cS
  | 0, _, _ => none
  | n + 1, w, i => gA_init_176b a (gA_init_176 a n) w i
set_option maxHeartbeats 4000000 in
set_option maxRecDepth 100000 in
theorem uA_init_176 {p : Program} {l : Launch} {e : Env} {R : Room} {s : State} {m : MethodId} {args : Array Value} {below : List Frame} {meth : Method} {c : Code} {E : xE} {h : Nat} (C : xC p s m args meth c R E (fun q : Nat => h ≤ q) bA_init 2 yA_init none 3 367 1657) (a n : Nat) : ∀ (w : cS) (i : Int32) (res : cS), gA_init_176 a n w i = some res → ∀ (cl sl : Nat), cl + n * 5 + 0 ≤ 367 → sl + n * 20 + 0 ≤ 1657 → ∀ (H : Heap) (locs : List Loc) (ls : Array Slot), cW E h s w H locs → lv_has ls 2 [(0, .ref (h + a)), (1, .int i)] → W p l e R s m args below meth c H locs cl sl (MQ below (cQ E h res) args s 367 1657 (fun q : Nat => h ≤ q)) (F0 m 176 ls []) := by
  induction n with
  | zero => intro w i res hf; cases hf
  | succ n hrec =>
  intro w i res hf cl sl hcl hsl H locs ls hw hl
  have hx := C.1
  have hb := C.2.1
  obtain ⟨rec, erec⟩ : ∃ z, z = gA_init_176 a n := ⟨_, rfl⟩
  rw [← erec] at hrec
  have hf : gA_init_176b a rec w i = some res := by rw [erec]; exact hf
  unfold gA_init_176b at hf
  refine lv_iload_n hx hb dA_init_176 rfl (lv_at hl 1 rfl) ?_
  refine lv_aload_n hx hb dA_init_177 rfl (lv_at hl 0 rfl) ?_
  obtain ⟨q1, eq1, hf⟩ := x_p hf
  refine c_rget C hw (c_getpE eq1) rfl ⟨by decide, by decide⟩ vA_49 dA_init_178 ?_
  obtain ⟨n2, en2, hf⟩ := x_p hf
  refine c_rlen C hw 4 en2 ⟨rfl, by decide⟩ dA_init_181 ?_
  refine lv_icmp_ge (tgt := 204) hx hb dA_init_182 (by decide) (fun c3 => ?_) (fun c3 => ?_)
  · replace hf := x_ip c3 hf
    obtain rfl := Option.some.inj hf
    refine W.widen (k := 367) (n := 1657) (by omega) (by omega) ?_
    exact c_vret C hw dA_init_204
  · replace hf := x_in c3 hf
    refine lv_aload_n hx hb dA_init_185 rfl (lv_at hl 0 rfl) ?_
    obtain ⟨q4, eq4, hf⟩ := x_p hf
    refine c_rget C hw (c_getpE eq4) rfl ⟨by decide, by decide⟩ vA_49 dA_init_186 ?_
    refine lv_iload_n hx hb dA_init_189 rfl (lv_at hl 1 rfl) ?_
    refine c_rnew (ci := 7) (vs := [.inr none, .inr none, .inl 0, .inl 0, .inl 0]) C hw rfl vA_47 in1_T in2_T ⟨by decide, born_T h⟩ ⟨by omega, by omega⟩ dA_init_190 (fun H hw => ?_)
    obtain ⟨w5, ew5, hf⟩ := x_l hf
    rw [← ew5] at hw
    refine lv_dup hx hb dA_init_193 rfl ?_
    obtain ⟨w6, ew6, hf⟩ := x_p hf
    refine c_callIN (rest := [.ref (h + w.length), .int i, .ref (h + q4)]) C hw (uT_init l E h w5 w.length w6 ew6) kcA_96 (by decide) rfl hl.1 (lv_room (Nat.le_of_ble_eq_true rfl)) dA_init_194 ⟨by omega, by omega⟩ (fun H locs hw => ?_)
    obtain ⟨n7, en7, hf⟩ := x_p hf
    obtain ⟨g8, hf⟩ := x_g hf
    obtain ⟨o10, eo10, hf⟩ := x_p hf
    obtain ⟨w9, ew9, hf⟩ := x_p hf
    refine c_raast C hw 4 7 en7 g8 ew9 (c_obE eo10) rfl ⟨rfl, by decide, by decide⟩ dA_init_197 (fun H locs hw => ?_)
    refine lv_iinc (v := i + 1) (lv' := [(1, .int (i + 1)), (0, .ref (h + a))]) hx hb dA_init_198 hl (k := 1) rfl rfl (by decide) rfl (fun ls hl => ?_)
    refine lv_goto (tgt := 176) hx hb dA_init_201 (by decide) ?_
    exact hrec w9 (i + 1) res hf _ _ (by omega) (by omega) H locs ls hw (lv_sub hl [1, 0] rfl)
def gA_init_146b (a : Nat) (rec : cS → Int32 → Option cS) (w : cS) (i : Int32) : Option cS :=
  xp (c_getp w a 0 0) fun q11 =>
  xp (c_arr w q11 (20 + 2)) fun n12 =>
  if (nI n12) ≤ i then
  (gA_init_176 a 50 w 0)
  else
  (xp (c_getp w a 0 0) fun q14 =>
  xl (w ++ [(5, [.inl 0, .inl 0])]) fun w15 =>
  xp (gD_init w15 w.length) fun w16 =>
  xp (c_arr w16 q14 (20 + 2)) fun n17 =>
  if ¬ (i < 0 ∨ n17 ≤ i.toNatClampNeg) then
  xp (c_ob w16 w.length 5) fun o20 =>
  xp (c_put w16 q14 (20 + 2) i.toNatClampNeg (.inr (some w.length))) fun w19 =>
  rec w19 (i + 1)
  else none)
def gA_init_146 (a : Nat) : Nat → cS → Int32 → Option cS
  | 0, _, _ => none
  | n + 1, w, i => gA_init_146b a (gA_init_146 a n) w i
set_option maxHeartbeats 4000000 in
set_option maxRecDepth 100000 in
theorem uA_init_146 {p : Program} {l : Launch} {e : Env} {R : Room} {s : State} {m : MethodId} {args : Array Value} {below : List Frame} {meth : Method} {c : Code} {E : xE} {h : Nat} (C : xC p s m args meth c R E (fun q : Nat => h ≤ q) bA_init 2 yA_init none 3 367 1657) (a n : Nat) : ∀ (w : cS) (i : Int32) (res : cS), gA_init_146 a n w i = some res → ∀ (cl sl : Nat), cl + n * 1 + 250 ≤ 367 → sl + n * 2 + 1000 ≤ 1657 → ∀ (H : Heap) (locs : List Loc) (ls : Array Slot), cW E h s w H locs → lv_has ls 2 [(0, .ref (h + a)), (1, .int i)] → W p l e R s m args below meth c H locs cl sl (MQ below (cQ E h res) args s 367 1657 (fun q : Nat => h ≤ q)) (F0 m 146 ls []) := by
  induction n with
  | zero => intro w i res hf; cases hf
  | succ n hrec =>
  intro w i res hf cl sl hcl hsl H locs ls hw hl
  have hx := C.1
  have hb := C.2.1
  obtain ⟨rec, erec⟩ : ∃ z, z = gA_init_146 a n := ⟨_, rfl⟩
  rw [← erec] at hrec
  have hf : gA_init_146b a rec w i = some res := by rw [erec]; exact hf
  unfold gA_init_146b at hf
  refine lv_iload_n hx hb dA_init_146 rfl (lv_at hl 1 rfl) ?_
  refine lv_aload_n hx hb dA_init_147 rfl (lv_at hl 0 rfl) ?_
  obtain ⟨q11, eq11, hf⟩ := x_p hf
  refine c_rget C hw (c_getpE eq11) rfl ⟨by decide, by decide⟩ vA_11 dA_init_148 ?_
  obtain ⟨n12, en12, hf⟩ := x_p hf
  refine c_rlen C hw 2 en12 ⟨rfl, by decide⟩ dA_init_151 ?_
  refine lv_icmp_ge (tgt := 174) hx hb dA_init_152 (by decide) (fun c13 => ?_) (fun c13 => ?_)
  · replace hf := x_ip c13 hf
    refine lv_iconst (v := 0) hx hb dA_init_174 (by decide) ?_
    refine lv_istore_n (lv' := [(1, .int 0), (0, .ref (h + a))]) hx hb dA_init_175 rfl hl (by decide) rfl (fun ls hl => ?_)
    exact uA_init_176 C a 50 w 0 res hf _ _ (by omega) (by omega) H locs ls hw (lv_sub hl [1, 0] rfl)
  · replace hf := x_in c13 hf
    refine lv_aload_n hx hb dA_init_155 rfl (lv_at hl 0 rfl) ?_
    obtain ⟨q14, eq14, hf⟩ := x_p hf
    refine c_rget C hw (c_getpE eq14) rfl ⟨by decide, by decide⟩ vA_11 dA_init_156 ?_
    refine lv_iload_n hx hb dA_init_159 rfl (lv_at hl 1 rfl) ?_
    refine c_rnew (ci := 5) (vs := [.inl 0, .inl 0]) C hw rfl vA_9 in1_D in2_D ⟨by decide, born_D h⟩ ⟨by omega, by omega⟩ dA_init_160 (fun H hw => ?_)
    obtain ⟨w15, ew15, hf⟩ := x_l hf
    rw [← ew15] at hw
    refine lv_dup hx hb dA_init_163 rfl ?_
    obtain ⟨w16, ew16, hf⟩ := x_p hf
    refine c_callIN (rest := [.ref (h + w.length), .int i, .ref (h + q14)]) C hw (uD_init l E h w15 w.length w16 ew16) kcA_95 (by decide) rfl hl.1 (lv_room (Nat.le_of_ble_eq_true rfl)) dA_init_164 ⟨by omega, by omega⟩ (fun H locs hw => ?_)
    obtain ⟨n17, en17, hf⟩ := x_p hf
    obtain ⟨g18, hf⟩ := x_g hf
    obtain ⟨o20, eo20, hf⟩ := x_p hf
    obtain ⟨w19, ew19, hf⟩ := x_p hf
    refine c_raast C hw 2 5 en17 g18 ew19 (c_obE eo20) rfl ⟨rfl, by decide, by decide⟩ dA_init_167 (fun H locs hw => ?_)
    refine lv_iinc (v := i + 1) (lv' := [(1, .int (i + 1)), (0, .ref (h + a))]) hx hb dA_init_168 hl (k := 1) rfl rfl (by decide) rfl (fun ls hl => ?_)
    refine lv_goto (tgt := 146) hx hb dA_init_171 (by decide) ?_
    exact hrec w19 (i + 1) res hf _ _ (by omega) (by omega) H locs ls hw (lv_sub hl [1, 0] rfl)
def gA_init (w : cS) (a : Nat) : Option cS :=
  xl (w ++ [(20 + 2, List.replicate 12 (.inr none))]) fun w21 =>
  xp (c_put w21 a 0 0 (.inr (some w.length))) fun w22 =>
  xl (w22 ++ [(20 + 0, List.replicate 6 (.inl 0))]) fun w23 =>
  xp (c_put w23 a 0 1 (.inr (some w22.length))) fun w24 =>
  xl (w24 ++ [(20 + 0, List.replicate 6 (.inl 0))]) fun w25 =>
  xp (c_put w25 a 0 2 (.inr (some w24.length))) fun w26 =>
  xp (c_put w26 a 0 3 (.inl 0)) fun w27 =>
  xl (w27 ++ [(1, [.inr none, .inl 0])]) fun w28 =>
  xp (gK_init w28 w27.length) fun w29 =>
  xp (c_put w29 a 0 4 (.inr (some w27.length))) fun w30 =>
  xl (w30 ++ [(9, [.inr none, .inr none, .inl 0])]) fun w31 =>
  xp (gQ_init w31 w30.length) fun w32 =>
  xp (c_put w32 a 0 5 (.inr (some w30.length))) fun w33 =>
  xl (w33 ++ [(2, [.inr none, .inl 0, .inl 0])]) fun w34 =>
  xp (gB_init w34 w33.length) fun w35 =>
  xp (c_put w35 a 0 6 (.inr (some w33.length))) fun w36 =>
  xl (w36 ++ [(20 + 4, List.replicate 16 (.inr none))]) fun w37 =>
  xp (c_put w37 a 0 7 (.inr (some w36.length))) fun w38 =>
  xp (c_put w38 a 0 8 (.inl 0)) fun w39 =>
  xl (w39 ++ [(3, [.inr none, .inr none, .inl 0, .inl 0, .inl 0])]) fun w40 =>
  xp (gF_init w40 w39.length) fun w41 =>
  xp (c_put w41 a 0 9 (.inr (some w39.length))) fun w42 =>
  xl (w42 ++ [(4, [.inr none, .inl 0, .inl 0, .inl 0])]) fun w43 =>
  xp (gC_init w43 w42.length) fun w44 =>
  xp (c_put w44 a 0 10 (.inr (some w42.length))) fun w45 =>
  xl (w45 ++ [(8, [.inl 0, .inl 0, .inr none, .inr none])]) fun w46 =>
  xp (gP_init w46 w45.length) fun w47 =>
  xp (c_put w47 a 0 11 (.inr (some w45.length))) fun w48 =>
  xp (c_put w48 a 0 12 (.inl 0)) fun w49 =>
  xp (c_put w49 a 0 13 (.inl (-1))) fun w50 =>
  xp (c_put w50 a 0 14 (.inl 0)) fun w51 =>
  xp (c_put w51 a 0 15 (.inl 0)) fun w52 =>
  xp (c_put w52 a 0 16 (.inl (-1))) fun w53 =>
  xp (c_put w53 a 0 17 (.inl 0)) fun w54 =>
  gA_init_146 a 50 w54 0
set_option maxHeartbeats 4000000 in
set_option maxRecDepth 100000 in
theorem uA_init (l : Launch) (E : xE) (h : Nat) (w : cS) (a : Nat) (res : cS) (hf : gA_init w a = some res) : cM l E yA_init bA_init 2 3 367 1657 h a w res := by
  refine c_met (by decide) (by decide) (fun p e R s m args below meth c ls H locs C hw hl => ?_)
  have hx := C.1
  have hb := C.2.1
  unfold gA_init at hf
  refine lv_aload_n hx hb dA_init_0 rfl (lv_at hl 0 rfl) ?_
  refine x_objinit C hl vA_1 dA_init_1 ?_
  refine lv_aload_n hx hb dA_init_4 rfl (lv_at hl 0 rfl) ?_
  refine lv_bipush (v := 12) hx hb dA_init_5 (by decide) ?_
  refine c_ranew (Cn := RxD) (N := 12) C hw 2 ⟨rfl, by decide⟩ vA_9 ao_2 ⟨by decide, rfl, by decide⟩ ⟨by omega, by omega⟩ dA_init_7 (fun H hw => ?_)
  obtain ⟨w21, ew21, hf⟩ := x_l hf
  rw [← ew21] at hw
  obtain ⟨w22, ew22, hf⟩ := x_p hf
  refine c_rput (v := .inr (some w.length)) C hw ew22 rfl ⟨rfl, Or.inr ⟨rfl, rfl, rfl⟩⟩ pc_11 ⟨rfl, rfl⟩ ⟨by decide, by decide⟩ vA_11 dA_init_10 (fun H locs hw => ?_)
  refine lv_aload_n hx hb dA_init_13 rfl (lv_at hl 0 rfl) ?_
  refine lv_bipush (v := 6) hx hb dA_init_14 (by decide) ?_
  refine c_rnewa (N := 6) C hw 0 ⟨rfl, by decide⟩ ⟨rfl, rfl, ra_int⟩ ac_0 ⟨by decide, rfl, by decide⟩ ⟨by omega, by omega⟩ dA_init_16 (fun H hw => ?_)
  obtain ⟨w23, ew23, hf⟩ := x_l hf
  rw [← ew23] at hw
  obtain ⟨w24, ew24, hf⟩ := x_p hf
  refine c_rput (v := .inr (some w22.length)) C hw ew24 rfl ⟨rfl, Or.inr ⟨rfl, rfl, rfl⟩⟩ pc_9 ⟨rfl, rfl⟩ ⟨by decide, by decide⟩ vA_15 dA_init_18 (fun H locs hw => ?_)
  refine lv_aload_n hx hb dA_init_21 rfl (lv_at hl 0 rfl) ?_
  refine lv_bipush (v := 6) hx hb dA_init_22 (by decide) ?_
  refine c_rnewa (N := 6) C hw 0 ⟨rfl, by decide⟩ ⟨rfl, rfl, ra_int⟩ ac_0 ⟨by decide, rfl, by decide⟩ ⟨by omega, by omega⟩ dA_init_24 (fun H hw => ?_)
  obtain ⟨w25, ew25, hf⟩ := x_l hf
  rw [← ew25] at hw
  obtain ⟨w26, ew26, hf⟩ := x_p hf
  refine c_rput (v := .inr (some w24.length)) C hw ew26 rfl ⟨rfl, Or.inr ⟨rfl, rfl, rfl⟩⟩ pc_9 ⟨rfl, rfl⟩ ⟨by decide, by decide⟩ vA_19 dA_init_26 (fun H locs hw => ?_)
  refine lv_aload_n hx hb dA_init_29 rfl (lv_at hl 0 rfl) ?_
  refine lv_iconst (v := 0) hx hb dA_init_30 (by decide) ?_
  obtain ⟨w27, ew27, hf⟩ := x_p hf
  refine c_rput (v := .inl 0) C hw ew27 rfl ⟨rfl, Or.inl rfl⟩ pc_0 ⟨rfl, rfl⟩ ⟨by decide, by decide⟩ vA_22 dA_init_31 (fun H locs hw => ?_)
  refine lv_aload_n hx hb dA_init_34 rfl (lv_at hl 0 rfl) ?_
  refine c_rnew (ci := 1) (vs := [.inr none, .inl 0]) C hw rfl vA_26 in1_K in2_K ⟨by decide, born_K h⟩ ⟨by omega, by omega⟩ dA_init_35 (fun H hw => ?_)
  obtain ⟨w28, ew28, hf⟩ := x_l hf
  rw [← ew28] at hw
  refine lv_dup hx hb dA_init_38 rfl ?_
  obtain ⟨w29, ew29, hf⟩ := x_p hf
  refine c_callIN (rest := [.ref (h + w27.length), .ref (h + a)]) C hw (uK_init l E h w28 w27.length w29 ew29) kcA_28 (by decide) rfl hl.1 (lv_room (Nat.le_of_ble_eq_true rfl)) dA_init_39 ⟨by omega, by omega⟩ (fun H locs hw => ?_)
  obtain ⟨w30, ew30, hf⟩ := x_p hf
  refine c_rput (v := .inr (some w27.length)) C hw ew30 rfl ⟨rfl, Or.inr ⟨rfl, rfl, rfl⟩⟩ pc_7 ⟨rfl, rfl⟩ ⟨by decide, by decide⟩ vA_29 dA_init_42 (fun H locs hw => ?_)
  refine lv_aload_n hx hb dA_init_45 rfl (lv_at hl 0 rfl) ?_
  refine c_rnew (ci := 9) (vs := [.inr none, .inr none, .inl 0]) C hw rfl vA_33 in1_Q in2_Q ⟨by decide, born_Q h⟩ ⟨by omega, by omega⟩ dA_init_46 (fun H hw => ?_)
  obtain ⟨w31, ew31, hf⟩ := x_l hf
  rw [← ew31] at hw
  refine lv_dup hx hb dA_init_49 rfl ?_
  obtain ⟨w32, ew32, hf⟩ := x_p hf
  refine c_callIN (rest := [.ref (h + w30.length), .ref (h + a)]) C hw (uQ_init l E h w31 w30.length w32 ew32) kcA_35 (by decide) rfl hl.1 (lv_room (Nat.le_of_ble_eq_true rfl)) dA_init_50 ⟨by omega, by omega⟩ (fun H locs hw => ?_)
  obtain ⟨w33, ew33, hf⟩ := x_p hf
  refine c_rput (v := .inr (some w30.length)) C hw ew33 rfl ⟨rfl, Or.inr ⟨rfl, rfl, rfl⟩⟩ pc_1 ⟨rfl, rfl⟩ ⟨by decide, by decide⟩ vA_36 dA_init_53 (fun H locs hw => ?_)
  refine lv_aload_n hx hb dA_init_56 rfl (lv_at hl 0 rfl) ?_
  refine c_rnew (ci := 2) (vs := [.inr none, .inl 0, .inl 0]) C hw rfl vA_40 in1_B in2_B ⟨by decide, born_B h⟩ ⟨by omega, by omega⟩ dA_init_57 (fun H hw => ?_)
  obtain ⟨w34, ew34, hf⟩ := x_l hf
  rw [← ew34] at hw
  refine lv_dup hx hb dA_init_60 rfl ?_
  obtain ⟨w35, ew35, hf⟩ := x_p hf
  refine c_callIN (rest := [.ref (h + w33.length), .ref (h + a)]) C hw (uB_init l E h w34 w33.length w35 ew35) kcA_42 (by decide) rfl hl.1 (lv_room (Nat.le_of_ble_eq_true rfl)) dA_init_61 ⟨by omega, by omega⟩ (fun H locs hw => ?_)
  obtain ⟨w36, ew36, hf⟩ := x_p hf
  refine c_rput (v := .inr (some w33.length)) C hw ew36 rfl ⟨rfl, Or.inr ⟨rfl, rfl, rfl⟩⟩ pc_5 ⟨rfl, rfl⟩ ⟨by decide, by decide⟩ vA_43 dA_init_64 (fun H locs hw => ?_)
  refine lv_aload_n hx hb dA_init_67 rfl (lv_at hl 0 rfl) ?_
  refine lv_bipush (v := 16) hx hb dA_init_68 (by decide) ?_
  refine c_ranew (Cn := RxT) (N := 16) C hw 4 ⟨rfl, by decide⟩ vA_47 ao_4 ⟨by decide, rfl, by decide⟩ ⟨by omega, by omega⟩ dA_init_70 (fun H hw => ?_)
  obtain ⟨w37, ew37, hf⟩ := x_l hf
  rw [← ew37] at hw
  obtain ⟨w38, ew38, hf⟩ := x_p hf
  refine c_rput (v := .inr (some w36.length)) C hw ew38 rfl ⟨rfl, Or.inr ⟨rfl, rfl, rfl⟩⟩ pc_13 ⟨rfl, rfl⟩ ⟨by decide, by decide⟩ vA_49 dA_init_73 (fun H locs hw => ?_)
  refine lv_aload_n hx hb dA_init_76 rfl (lv_at hl 0 rfl) ?_
  refine lv_iconst (v := 0) hx hb dA_init_77 (by decide) ?_
  obtain ⟨w39, ew39, hf⟩ := x_p hf
  refine c_rput (v := .inl 0) C hw ew39 rfl ⟨rfl, Or.inl rfl⟩ pc_0 ⟨rfl, rfl⟩ ⟨by decide, by decide⟩ vA_53 dA_init_78 (fun H locs hw => ?_)
  refine lv_aload_n hx hb dA_init_81 rfl (lv_at hl 0 rfl) ?_
  refine c_rnew (ci := 3) (vs := [.inr none, .inr none, .inl 0, .inl 0, .inl 0]) C hw rfl vA_56 in1_F in2_F ⟨by decide, born_F h⟩ ⟨by omega, by omega⟩ dA_init_82 (fun H hw => ?_)
  obtain ⟨w40, ew40, hf⟩ := x_l hf
  rw [← ew40] at hw
  refine lv_dup hx hb dA_init_85 rfl ?_
  obtain ⟨w41, ew41, hf⟩ := x_p hf
  refine c_callIN (rest := [.ref (h + w39.length), .ref (h + a)]) C hw (uF_init l E h w40 w39.length w41 ew41) kcA_58 (by decide) rfl hl.1 (lv_room (Nat.le_of_ble_eq_true rfl)) dA_init_86 ⟨by omega, by omega⟩ (fun H locs hw => ?_)
  obtain ⟨w42, ew42, hf⟩ := x_p hf
  refine c_rput (v := .inr (some w39.length)) C hw ew42 rfl ⟨rfl, Or.inr ⟨rfl, rfl, rfl⟩⟩ pc_3 ⟨rfl, rfl⟩ ⟨by decide, by decide⟩ vA_59 dA_init_89 (fun H locs hw => ?_)
  refine lv_aload_n hx hb dA_init_92 rfl (lv_at hl 0 rfl) ?_
  refine c_rnew (ci := 4) (vs := [.inr none, .inl 0, .inl 0, .inl 0]) C hw rfl vA_63 in1_C in2_C ⟨by decide, born_C h⟩ ⟨by omega, by omega⟩ dA_init_93 (fun H hw => ?_)
  obtain ⟨w43, ew43, hf⟩ := x_l hf
  rw [← ew43] at hw
  refine lv_dup hx hb dA_init_96 rfl ?_
  obtain ⟨w44, ew44, hf⟩ := x_p hf
  refine c_callIN (rest := [.ref (h + w42.length), .ref (h + a)]) C hw (uC_init l E h w43 w42.length w44 ew44) kcA_65 (by decide) rfl hl.1 (lv_room (Nat.le_of_ble_eq_true rfl)) dA_init_97 ⟨by omega, by omega⟩ (fun H locs hw => ?_)
  obtain ⟨w45, ew45, hf⟩ := x_p hf
  refine c_rput (v := .inr (some w42.length)) C hw ew45 rfl ⟨rfl, Or.inr ⟨rfl, rfl, rfl⟩⟩ pc_2 ⟨rfl, rfl⟩ ⟨by decide, by decide⟩ vA_66 dA_init_100 (fun H locs hw => ?_)
  refine lv_aload_n hx hb dA_init_103 rfl (lv_at hl 0 rfl) ?_
  refine c_rnew (ci := 8) (vs := [.inl 0, .inl 0, .inr none, .inr none]) C hw rfl vA_70 in1_P in2_P ⟨by decide, born_P h⟩ ⟨by omega, by omega⟩ dA_init_104 (fun H hw => ?_)
  obtain ⟨w46, ew46, hf⟩ := x_l hf
  rw [← ew46] at hw
  refine lv_dup hx hb dA_init_107 rfl ?_
  obtain ⟨w47, ew47, hf⟩ := x_p hf
  refine c_callIN (rest := [.ref (h + w45.length), .ref (h + a)]) C hw (uP_init l E h w46 w45.length w47 ew47) kcA_72 (by decide) rfl hl.1 (lv_room (Nat.le_of_ble_eq_true rfl)) dA_init_108 ⟨by omega, by omega⟩ (fun H locs hw => ?_)
  obtain ⟨w48, ew48, hf⟩ := x_p hf
  refine c_rput (v := .inr (some w45.length)) C hw ew48 rfl ⟨rfl, Or.inr ⟨rfl, rfl, rfl⟩⟩ pc_6 ⟨rfl, rfl⟩ ⟨by decide, by decide⟩ vA_73 dA_init_111 (fun H locs hw => ?_)
  refine lv_aload_n hx hb dA_init_114 rfl (lv_at hl 0 rfl) ?_
  refine lv_iconst (v := 0) hx hb dA_init_115 (by decide) ?_
  obtain ⟨w49, ew49, hf⟩ := x_p hf
  refine c_rput (v := .inl 0) C hw ew49 rfl ⟨rfl, Or.inl rfl⟩ pc_0 ⟨rfl, rfl⟩ ⟨by decide, by decide⟩ vA_77 dA_init_116 (fun H locs hw => ?_)
  refine lv_aload_n hx hb dA_init_119 rfl (lv_at hl 0 rfl) ?_
  refine lv_iconst (v := (-1)) hx hb dA_init_120 (by decide) ?_
  obtain ⟨w50, ew50, hf⟩ := x_p hf
  refine c_rput (v := .inl (-1)) C hw ew50 rfl ⟨rfl, Or.inl rfl⟩ pc_0 ⟨rfl, rfl⟩ ⟨by decide, by decide⟩ vA_80 dA_init_121 (fun H locs hw => ?_)
  refine lv_aload_n hx hb dA_init_124 rfl (lv_at hl 0 rfl) ?_
  refine lv_iconst (v := 0) hx hb dA_init_125 (by decide) ?_
  obtain ⟨w51, ew51, hf⟩ := x_p hf
  refine c_rput (v := .inl 0) C hw ew51 rfl ⟨rfl, Or.inl rfl⟩ pc_0 ⟨rfl, rfl⟩ ⟨by decide, by decide⟩ vA_83 dA_init_126 (fun H locs hw => ?_)
  refine lv_aload_n hx hb dA_init_129 rfl (lv_at hl 0 rfl) ?_
  refine lv_iconst (v := 0) hx hb dA_init_130 (by decide) ?_
  obtain ⟨w52, ew52, hf⟩ := x_p hf
  refine c_rput (v := .inl 0) C hw ew52 rfl ⟨rfl, Or.inl rfl⟩ pc_0 ⟨rfl, rfl⟩ ⟨by decide, by decide⟩ vA_86 dA_init_131 (fun H locs hw => ?_)
  refine lv_aload_n hx hb dA_init_134 rfl (lv_at hl 0 rfl) ?_
  refine lv_iconst (v := (-1)) hx hb dA_init_135 (by decide) ?_
  obtain ⟨w53, ew53, hf⟩ := x_p hf
  refine c_rput (v := .inl (-1)) C hw ew53 rfl ⟨rfl, Or.inl rfl⟩ pc_0 ⟨rfl, rfl⟩ ⟨by decide, by decide⟩ vA_89 dA_init_136 (fun H locs hw => ?_)
  refine lv_aload_n hx hb dA_init_139 rfl (lv_at hl 0 rfl) ?_
  refine lv_iconst (v := 0) hx hb dA_init_140 (by decide) ?_
  obtain ⟨w54, ew54, hf⟩ := x_p hf
  refine c_rput (v := .inl 0) C hw ew54 rfl ⟨rfl, Or.inl rfl⟩ pc_0 ⟨rfl, rfl⟩ ⟨by decide, by decide⟩ vA_92 dA_init_141 (fun H locs hw => ?_)
  refine lv_iconst (v := 0) hx hb dA_init_144 (by decide) ?_
  refine lv_istore_n (lv' := [(1, .int 0), (0, .ref (h + a))]) hx hb dA_init_145 rfl hl (by decide) rfl (fun ls hl => ?_)
  exact uA_init_146 C a 50 w54 0 res hf _ _ (by omega) (by omega) H locs ls hw (lv_sub hl [1, 0] rfl)
set_option maxRecDepth 100000 in
theorem dM_init_0 : decode bM_init 0 = .ok (.aload_n 0, 1) := by decide +kernel
set_option maxRecDepth 100000 in
theorem dM_init_1 : decode bM_init 1 = .ok (.invokespecial 1, 3) := by decide +kernel
set_option maxRecDepth 100000 in
theorem dM_init_4 : decode bM_init 4 = .ok (.aload_n 0, 1) := by decide +kernel
set_option maxRecDepth 100000 in
theorem dM_init_5 : decode bM_init 5 = .ok (.bipush 12, 2) := by decide +kernel
set_option maxRecDepth 100000 in
theorem dM_init_7 : decode bM_init 7 = .ok (.newarray .int, 2) := by decide +kernel
set_option maxRecDepth 100000 in
theorem dM_init_9 : decode bM_init 9 = .ok (.putfield 7, 3) := by decide +kernel
set_option maxRecDepth 100000 in
theorem dM_init_12 : decode bM_init 12 = .ok (.aload_n 0, 1) := by decide +kernel
set_option maxRecDepth 100000 in
theorem dM_init_13 : decode bM_init 13 = .ok (.bipush 12, 2) := by decide +kernel
set_option maxRecDepth 100000 in
theorem dM_init_15 : decode bM_init 15 = .ok (.newarray .boolean, 2) := by decide +kernel
set_option maxRecDepth 100000 in
theorem dM_init_17 : decode bM_init 17 = .ok (.putfield 13, 3) := by decide +kernel
set_option maxRecDepth 100000 in
theorem dM_init_20 : decode bM_init 20 = .ok (.aload_n 0, 1) := by decide +kernel
set_option maxRecDepth 100000 in
theorem dM_init_21 : decode bM_init 21 = .ok (.bipush 6, 2) := by decide +kernel
set_option maxRecDepth 100000 in
theorem dM_init_23 : decode bM_init 23 = .ok (.newarray .int, 2) := by decide +kernel
set_option maxRecDepth 100000 in
theorem dM_init_25 : decode bM_init 25 = .ok (.putfield 17, 3) := by decide +kernel
set_option maxRecDepth 100000 in
theorem dM_init_28 : decode bM_init 28 = .ok (.aload_n 0, 1) := by decide +kernel
set_option maxRecDepth 100000 in
theorem dM_init_29 : decode bM_init 29 = .ok (.bipush 6, 2) := by decide +kernel
set_option maxRecDepth 100000 in
theorem dM_init_31 : decode bM_init 31 = .ok (.newarray .int, 2) := by decide +kernel
set_option maxRecDepth 100000 in
theorem dM_init_33 : decode bM_init 33 = .ok (.putfield 20, 3) := by decide +kernel
set_option maxRecDepth 100000 in
theorem dM_init_36 : decode bM_init 36 = .ok (.aload_n 0, 1) := by decide +kernel
set_option maxRecDepth 100000 in
theorem dM_init_37 : decode bM_init 37 = .ok (.bipush 120, 2) := by decide +kernel
set_option maxRecDepth 100000 in
theorem dM_init_39 : decode bM_init 39 = .ok (.newarray .int, 2) := by decide +kernel
set_option maxRecDepth 100000 in
theorem dM_init_41 : decode bM_init 41 = .ok (.putfield 23, 3) := by decide +kernel
set_option maxRecDepth 100000 in
theorem dM_init_44 : decode bM_init 44 = .ok (.aload_n 0, 1) := by decide +kernel
set_option maxRecDepth 100000 in
theorem dM_init_45 : decode bM_init 45 = .ok (.sipush 960, 3) := by decide +kernel
set_option maxRecDepth 100000 in
theorem dM_init_48 : decode bM_init 48 = .ok (.newarray .int, 2) := by decide +kernel
set_option maxRecDepth 100000 in
theorem dM_init_50 : decode bM_init 50 = .ok (.putfield 26, 3) := by decide +kernel
set_option maxRecDepth 100000 in
theorem dM_init_53 : decode bM_init 53 = .ok (.aload_n 0, 1) := by decide +kernel
set_option maxRecDepth 100000 in
theorem dM_init_54 : decode bM_init 54 = .ok (.sipush 960, 3) := by decide +kernel
set_option maxRecDepth 100000 in
theorem dM_init_57 : decode bM_init 57 = .ok (.newarray .int, 2) := by decide +kernel
set_option maxRecDepth 100000 in
theorem dM_init_59 : decode bM_init 59 = .ok (.putfield 29, 3) := by decide +kernel
set_option maxRecDepth 100000 in
theorem dM_init_62 : decode bM_init 62 = .ok (.aload_n 0, 1) := by decide +kernel
set_option maxRecDepth 100000 in
theorem dM_init_63 : decode bM_init 63 = .ok (.bipush 40, 2) := by decide +kernel
set_option maxRecDepth 100000 in
theorem dM_init_65 : decode bM_init 65 = .ok (.newarray .int, 2) := by decide +kernel
set_option maxRecDepth 100000 in
theorem dM_init_67 : decode bM_init 67 = .ok (.putfield 32, 3) := by decide +kernel
set_option maxRecDepth 100000 in
theorem dM_init_70 : decode bM_init 70 = .ok (.aload_n 0, 1) := by decide +kernel
set_option maxRecDepth 100000 in
theorem dM_init_71 : decode bM_init 71 = .ok (.bipush 40, 2) := by decide +kernel
set_option maxRecDepth 100000 in
theorem dM_init_73 : decode bM_init 73 = .ok (.newarray .int, 2) := by decide +kernel
set_option maxRecDepth 100000 in
theorem dM_init_75 : decode bM_init 75 = .ok (.putfield 35, 3) := by decide +kernel
set_option maxRecDepth 100000 in
theorem dM_init_78 : decode bM_init 78 = .ok (.aload_n 0, 1) := by decide +kernel
set_option maxRecDepth 100000 in
theorem dM_init_79 : decode bM_init 79 = .ok (.bipush 40, 2) := by decide +kernel
set_option maxRecDepth 100000 in
theorem dM_init_81 : decode bM_init 81 = .ok (.newarray .int, 2) := by decide +kernel
set_option maxRecDepth 100000 in
theorem dM_init_83 : decode bM_init 83 = .ok (.putfield 38, 3) := by decide +kernel
set_option maxRecDepth 100000 in
theorem dM_init_86 : decode bM_init 86 = .ok (.aload_n 0, 1) := by decide +kernel
set_option maxRecDepth 100000 in
theorem dM_init_87 : decode bM_init 87 = .ok (.bipush 40, 2) := by decide +kernel
set_option maxRecDepth 100000 in
theorem dM_init_89 : decode bM_init 89 = .ok (.newarray .int, 2) := by decide +kernel
set_option maxRecDepth 100000 in
theorem dM_init_91 : decode bM_init 91 = .ok (.putfield 41, 3) := by decide +kernel
set_option maxRecDepth 100000 in
theorem dM_init_94 : decode bM_init 94 = .ok (.aload_n 0, 1) := by decide +kernel
set_option maxRecDepth 100000 in
theorem dM_init_95 : decode bM_init 95 = .ok (.bipush 40, 2) := by decide +kernel
set_option maxRecDepth 100000 in
theorem dM_init_97 : decode bM_init 97 = .ok (.newarray .int, 2) := by decide +kernel
set_option maxRecDepth 100000 in
theorem dM_init_99 : decode bM_init 99 = .ok (.putfield 44, 3) := by decide +kernel
set_option maxRecDepth 100000 in
theorem dM_init_102 : decode bM_init 102 = .ok (.aload_n 0, 1) := by decide +kernel
set_option maxRecDepth 100000 in
theorem dM_init_103 : decode bM_init 103 = .ok (.bipush 40, 2) := by decide +kernel
set_option maxRecDepth 100000 in
theorem dM_init_105 : decode bM_init 105 = .ok (.newarray .int, 2) := by decide +kernel
set_option maxRecDepth 100000 in
theorem dM_init_107 : decode bM_init 107 = .ok (.putfield 47, 3) := by decide +kernel
set_option maxRecDepth 100000 in
theorem dM_init_110 : decode bM_init 110 = .ok (.aload_n 0, 1) := by decide +kernel
set_option maxRecDepth 100000 in
theorem dM_init_111 : decode bM_init 111 = .ok (.bipush 40, 2) := by decide +kernel
set_option maxRecDepth 100000 in
theorem dM_init_113 : decode bM_init 113 = .ok (.newarray .boolean, 2) := by decide +kernel
set_option maxRecDepth 100000 in
theorem dM_init_115 : decode bM_init 115 = .ok (.putfield 50, 3) := by decide +kernel
set_option maxRecDepth 100000 in
theorem dM_init_118 : decode bM_init 118 = .ok (.aload_n 0, 1) := by decide +kernel
set_option maxRecDepth 100000 in
theorem dM_init_119 : decode bM_init 119 = .ok (.bipush 16, 2) := by decide +kernel
set_option maxRecDepth 100000 in
theorem dM_init_121 : decode bM_init 121 = .ok (.newarray .int, 2) := by decide +kernel
set_option maxRecDepth 100000 in
theorem dM_init_123 : decode bM_init 123 = .ok (.putfield 53, 3) := by decide +kernel
set_option maxRecDepth 100000 in
theorem dM_init_126 : decode bM_init 126 = .ok (.aload_n 0, 1) := by decide +kernel
set_option maxRecDepth 100000 in
theorem dM_init_127 : decode bM_init 127 = .ok (.bipush 16, 2) := by decide +kernel
set_option maxRecDepth 100000 in
theorem dM_init_129 : decode bM_init 129 = .ok (.newarray .int, 2) := by decide +kernel
set_option maxRecDepth 100000 in
theorem dM_init_131 : decode bM_init 131 = .ok (.putfield 56, 3) := by decide +kernel
set_option maxRecDepth 100000 in
theorem dM_init_134 : decode bM_init 134 = .ok (.aload_n 0, 1) := by decide +kernel
set_option maxRecDepth 100000 in
theorem dM_init_135 : decode bM_init 135 = .ok (.bipush 17, 2) := by decide +kernel
set_option maxRecDepth 100000 in
theorem dM_init_137 : decode bM_init 137 = .ok (.newarray .int, 2) := by decide +kernel
set_option maxRecDepth 100000 in
theorem dM_init_139 : decode bM_init 139 = .ok (.putfield 59, 3) := by decide +kernel
set_option maxRecDepth 100000 in
theorem dM_init_142 : decode bM_init 142 = .ok (.aload_n 0, 1) := by decide +kernel
set_option maxRecDepth 100000 in
theorem dM_init_143 : decode bM_init 143 = .ok (.bipush 16, 2) := by decide +kernel
set_option maxRecDepth 100000 in
theorem dM_init_145 : decode bM_init 145 = .ok (.newarray .int, 2) := by decide +kernel
set_option maxRecDepth 100000 in
theorem dM_init_147 : decode bM_init 147 = .ok (.putfield 62, 3) := by decide +kernel
set_option maxRecDepth 100000 in
theorem dM_init_150 : decode bM_init 150 = .ok (.aload_n 0, 1) := by decide +kernel
set_option maxRecDepth 100000 in
theorem dM_init_151 : decode bM_init 151 = .ok (.bipush 68, 2) := by decide +kernel
set_option maxRecDepth 100000 in
theorem dM_init_153 : decode bM_init 153 = .ok (.newarray .int, 2) := by decide +kernel
set_option maxRecDepth 100000 in
theorem dM_init_155 : decode bM_init 155 = .ok (.putfield 65, 3) := by decide +kernel
set_option maxRecDepth 100000 in
theorem dM_init_158 : decode bM_init 158 = .ok (.aload_n 0, 1) := by decide +kernel
set_option maxRecDepth 100000 in
theorem dM_init_159 : decode bM_init 159 = .ok (.bipush 68, 2) := by decide +kernel
set_option maxRecDepth 100000 in
theorem dM_init_161 : decode bM_init 161 = .ok (.newarray .int, 2) := by decide +kernel
set_option maxRecDepth 100000 in
theorem dM_init_163 : decode bM_init 163 = .ok (.putfield 68, 3) := by decide +kernel
set_option maxRecDepth 100000 in
theorem dM_init_166 : decode bM_init 166 = .ok (.aload_n 0, 1) := by decide +kernel
set_option maxRecDepth 100000 in
theorem dM_init_167 : decode bM_init 167 = .ok (.bipush 16, 2) := by decide +kernel
set_option maxRecDepth 100000 in
theorem dM_init_169 : decode bM_init 169 = .ok (.newarray .boolean, 2) := by decide +kernel
set_option maxRecDepth 100000 in
theorem dM_init_171 : decode bM_init 171 = .ok (.putfield 71, 3) := by decide +kernel
set_option maxRecDepth 100000 in
theorem dM_init_174 : decode bM_init 174 = .ok (.aload_n 0, 1) := by decide +kernel
set_option maxRecDepth 100000 in
theorem dM_init_175 : decode bM_init 175 = .ok (.iconst (-1), 1) := by decide +kernel
set_option maxRecDepth 100000 in
theorem dM_init_176 : decode bM_init 176 = .ok (.putfield 74, 3) := by decide +kernel
set_option maxRecDepth 100000 in
theorem dM_init_179 : decode bM_init 179 = .ok (.aload_n 0, 1) := by decide +kernel
set_option maxRecDepth 100000 in
theorem dM_init_180 : decode bM_init 180 = .ok (.bipush 40, 2) := by decide +kernel
set_option maxRecDepth 100000 in
theorem dM_init_182 : decode bM_init 182 = .ok (.newarray .int, 2) := by decide +kernel
set_option maxRecDepth 100000 in
theorem dM_init_184 : decode bM_init 184 = .ok (.putfield 78, 3) := by decide +kernel
set_option maxRecDepth 100000 in
theorem dM_init_187 : decode bM_init 187 = .ok (.aload_n 0, 1) := by decide +kernel
set_option maxRecDepth 100000 in
theorem dM_init_188 : decode bM_init 188 = .ok (.bipush 40, 2) := by decide +kernel
set_option maxRecDepth 100000 in
theorem dM_init_190 : decode bM_init 190 = .ok (.newarray .int, 2) := by decide +kernel
set_option maxRecDepth 100000 in
theorem dM_init_192 : decode bM_init 192 = .ok (.putfield 81, 3) := by decide +kernel
set_option maxRecDepth 100000 in
theorem dM_init_195 : decode bM_init 195 = .ok (.aload_n 0, 1) := by decide +kernel
set_option maxRecDepth 100000 in
theorem dM_init_196 : decode bM_init 196 = .ok (.bipush 12, 2) := by decide +kernel
set_option maxRecDepth 100000 in
theorem dM_init_198 : decode bM_init 198 = .ok (.newarray .int, 2) := by decide +kernel
set_option maxRecDepth 100000 in
theorem dM_init_200 : decode bM_init 200 = .ok (.putfield 84, 3) := by decide +kernel
set_option maxRecDepth 100000 in
theorem dM_init_203 : decode bM_init 203 = .ok (.iconst 0, 1) := by decide +kernel
set_option maxRecDepth 100000 in
theorem dM_init_204 : decode bM_init 204 = .ok (.istore_n 1, 1) := by decide +kernel
set_option maxRecDepth 100000 in
theorem dM_init_205 : decode bM_init 205 = .ok (.iload_n 1, 1) := by decide +kernel
set_option maxRecDepth 100000 in
theorem dM_init_206 : decode bM_init 206 = .ok (.bipush 12, 2) := by decide +kernel
set_option maxRecDepth 100000 in
theorem dM_init_208 : decode bM_init 208 = .ok (.if_icmp .ge 16, 3) := by decide +kernel
set_option maxRecDepth 100000 in
theorem dM_init_211 : decode bM_init 211 = .ok (.aload_n 0, 1) := by decide +kernel
set_option maxRecDepth 100000 in
theorem dM_init_212 : decode bM_init 212 = .ok (.getfield 13, 3) := by decide +kernel
set_option maxRecDepth 100000 in
theorem dM_init_215 : decode bM_init 215 = .ok (.iload_n 1, 1) := by decide +kernel
set_option maxRecDepth 100000 in
theorem dM_init_216 : decode bM_init 216 = .ok (.iconst 1, 1) := by decide +kernel
set_option maxRecDepth 100000 in
theorem dM_init_217 : decode bM_init 217 = .ok (.bastore, 1) := by decide +kernel
set_option maxRecDepth 100000 in
theorem dM_init_218 : decode bM_init 218 = .ok (.iinc 1 1, 3) := by decide +kernel
set_option maxRecDepth 100000 in
theorem dM_init_221 : decode bM_init 221 = .ok (.goto (-16), 3) := by decide +kernel
set_option maxRecDepth 100000 in
theorem dM_init_224 : decode bM_init 224 = .ok (.return_, 1) := by decide +kernel
def gM_init_205b (a : Nat) (rec : cS → Int32 → Option cS) (w : cS) (i : Int32) : Option cS :=
  if 12 ≤ i then
  (some w)
  else
  (xp (c_getp w a 11 1) fun q2 =>
  xp (c_arr w q2 21) fun n3 =>
  if ¬ (i < 0 ∨ n3 ≤ i.toNatClampNeg) then
  xp (c_put w q2 21 i.toNatClampNeg (.inl 1)) fun w5 =>
  rec w5 (i + 1)
  else none)
def gM_init_205 (a : Nat) : Nat → cS → Int32 → Option cS
  | 0, _, _ => none
  | n + 1, w, i => gM_init_205b a (gM_init_205 a n) w i
set_option maxHeartbeats 4000000 in
set_option maxRecDepth 100000 in
theorem uM_init_205 {p : Program} {l : Launch} {e : Env} {R : Room} {s : State} {m : MethodId} {args : Array Value} {below : List Frame} {meth : Method} {c : Code} {E : xE} {h : Nat} (C : xC p s m args meth c R E (fun q : Nat => h ≤ q) bM_init 2 yM_init none 1 24 2665) (a n : Nat) : ∀ (w : cS) (i : Int32) (res : cS), gM_init_205 a n w i = some res → ∀ (cl sl : Nat), cl + n * 0 + 0 ≤ 24 → sl + n * 0 + 0 ≤ 2665 → ∀ (H : Heap) (locs : List Loc) (ls : Array Slot), cW E h s w H locs → lv_has ls 2 [(0, .ref (h + a)), (1, .int i)] → W p l e R s m args below meth c H locs cl sl (MQ below (cQ E h res) args s 24 2665 (fun q : Nat => h ≤ q)) (F0 m 205 ls []) := by
  induction n with
  | zero => intro w i res hf; cases hf
  | succ n hrec =>
  intro w i res hf cl sl hcl hsl H locs ls hw hl
  have hx := C.1
  have hb := C.2.1
  obtain ⟨rec, erec⟩ : ∃ z, z = gM_init_205 a n := ⟨_, rfl⟩
  rw [← erec] at hrec
  have hf : gM_init_205b a rec w i = some res := by rw [erec]; exact hf
  unfold gM_init_205b at hf
  refine lv_iload_n hx hb dM_init_205 rfl (lv_at hl 1 rfl) ?_
  refine lv_bipush (v := 12) hx hb dM_init_206 (by decide) ?_
  refine lv_icmp_ge (tgt := 224) hx hb dM_init_208 (by decide) (fun c1 => ?_) (fun c1 => ?_)
  · replace hf := x_ip c1 hf
    obtain rfl := Option.some.inj hf
    refine W.widen (k := 24) (n := 2665) (by omega) (by omega) ?_
    exact c_vret C hw dM_init_224
  · replace hf := x_in c1 hf
    refine lv_aload_n hx hb dM_init_211 rfl (lv_at hl 0 rfl) ?_
    obtain ⟨q2, eq2, hf⟩ := x_p hf
    refine c_rget C hw (c_getpE eq2) rfl ⟨by decide, by decide⟩ vM_13 dM_init_212 ?_
    refine lv_iload_n hx hb dM_init_215 rfl (lv_at hl 1 rfl) ?_
    refine lv_iconst (v := 1) hx hb dM_init_216 (by decide) ?_
    obtain ⟨n3, en3, hf⟩ := x_p hf
    obtain ⟨g4, hf⟩ := x_g hf
    obtain ⟨w5, ew5, hf⟩ := x_p hf
    refine c_rbast C hw en3 g4 (by decide) ew5 dM_init_217 (fun H locs hw => ?_)
    refine lv_iinc (v := i + 1) (lv' := [(1, .int (i + 1)), (0, .ref (h + a))]) hx hb dM_init_218 hl (k := 1) rfl rfl (by decide) rfl (fun ls hl => ?_)
    refine lv_goto (tgt := 205) hx hb dM_init_221 (by decide) ?_
    exact hrec w5 (i + 1) res hf _ _ (by omega) (by omega) H locs ls hw (lv_sub hl [1, 0] rfl)
def gM_init (w : cS) (a : Nat) : Option cS :=
  xl (w ++ [(20 + 0, List.replicate 12 (.inl 0))]) fun w6 =>
  xp (c_put w6 a 11 0 (.inr (some w.length))) fun w7 =>
  xl (w7 ++ [(20 + 1, List.replicate 12 (.inl 0))]) fun w8 =>
  xp (c_put w8 a 11 1 (.inr (some w7.length))) fun w9 =>
  xl (w9 ++ [(20 + 0, List.replicate 6 (.inl 0))]) fun w10 =>
  xp (c_put w10 a 11 2 (.inr (some w9.length))) fun w11 =>
  xl (w11 ++ [(20 + 0, List.replicate 6 (.inl 0))]) fun w12 =>
  xp (c_put w12 a 11 3 (.inr (some w11.length))) fun w13 =>
  xl (w13 ++ [(20 + 0, List.replicate 120 (.inl 0))]) fun w14 =>
  xp (c_put w14 a 11 5 (.inr (some w13.length))) fun w15 =>
  xl (w15 ++ [(20 + 0, List.replicate 960 (.inl 0))]) fun w16 =>
  xp (c_put w16 a 11 6 (.inr (some w15.length))) fun w17 =>
  xl (w17 ++ [(20 + 0, List.replicate 960 (.inl 0))]) fun w18 =>
  xp (c_put w18 a 11 7 (.inr (some w17.length))) fun w19 =>
  xl (w19 ++ [(20 + 0, List.replicate 40 (.inl 0))]) fun w20 =>
  xp (c_put w20 a 11 13 (.inr (some w19.length))) fun w21 =>
  xl (w21 ++ [(20 + 0, List.replicate 40 (.inl 0))]) fun w22 =>
  xp (c_put w22 a 11 14 (.inr (some w21.length))) fun w23 =>
  xl (w23 ++ [(20 + 0, List.replicate 40 (.inl 0))]) fun w24 =>
  xp (c_put w24 a 11 15 (.inr (some w23.length))) fun w25 =>
  xl (w25 ++ [(20 + 0, List.replicate 40 (.inl 0))]) fun w26 =>
  xp (c_put w26 a 11 16 (.inr (some w25.length))) fun w27 =>
  xl (w27 ++ [(20 + 0, List.replicate 40 (.inl 0))]) fun w28 =>
  xp (c_put w28 a 11 17 (.inr (some w27.length))) fun w29 =>
  xl (w29 ++ [(20 + 0, List.replicate 40 (.inl 0))]) fun w30 =>
  xp (c_put w30 a 11 18 (.inr (some w29.length))) fun w31 =>
  xl (w31 ++ [(20 + 1, List.replicate 40 (.inl 0))]) fun w32 =>
  xp (c_put w32 a 11 19 (.inr (some w31.length))) fun w33 =>
  xl (w33 ++ [(20 + 0, List.replicate 16 (.inl 0))]) fun w34 =>
  xp (c_put w34 a 11 22 (.inr (some w33.length))) fun w35 =>
  xl (w35 ++ [(20 + 0, List.replicate 16 (.inl 0))]) fun w36 =>
  xp (c_put w36 a 11 23 (.inr (some w35.length))) fun w37 =>
  xl (w37 ++ [(20 + 0, List.replicate 17 (.inl 0))]) fun w38 =>
  xp (c_put w38 a 11 24 (.inr (some w37.length))) fun w39 =>
  xl (w39 ++ [(20 + 0, List.replicate 16 (.inl 0))]) fun w40 =>
  xp (c_put w40 a 11 25 (.inr (some w39.length))) fun w41 =>
  xl (w41 ++ [(20 + 0, List.replicate 68 (.inl 0))]) fun w42 =>
  xp (c_put w42 a 11 26 (.inr (some w41.length))) fun w43 =>
  xl (w43 ++ [(20 + 0, List.replicate 68 (.inl 0))]) fun w44 =>
  xp (c_put w44 a 11 27 (.inr (some w43.length))) fun w45 =>
  xl (w45 ++ [(20 + 1, List.replicate 16 (.inl 0))]) fun w46 =>
  xp (c_put w46 a 11 28 (.inr (some w45.length))) fun w47 =>
  xp (c_put w47 a 11 31 (.inl (-1))) fun w48 =>
  xl (w48 ++ [(20 + 0, List.replicate 40 (.inl 0))]) fun w49 =>
  xp (c_put w49 a 11 32 (.inr (some w48.length))) fun w50 =>
  xl (w50 ++ [(20 + 0, List.replicate 40 (.inl 0))]) fun w51 =>
  xp (c_put w51 a 11 33 (.inr (some w50.length))) fun w52 =>
  xl (w52 ++ [(20 + 0, List.replicate 12 (.inl 0))]) fun w53 =>
  xp (c_put w53 a 11 34 (.inr (some w52.length))) fun w54 =>
  gM_init_205 a 50 w54 0
set_option maxHeartbeats 4000000 in
set_option maxRecDepth 100000 in
theorem uM_init (l : Launch) (E : xE) (h : Nat) (w : cS) (a : Nat) (res : cS) (hf : gM_init w a = some res) : cM l E yM_init bM_init 2 1 24 2665 h a w res := by
  refine c_met (by decide) (by decide) (fun p e R s m args below meth c ls H locs C hw hl => ?_)
  have hx := C.1
  have hb := C.2.1
  unfold gM_init at hf
  refine lv_aload_n hx hb dM_init_0 rfl (lv_at hl 0 rfl) ?_
  refine x_objinit C hl vM_1 dM_init_1 ?_
  refine lv_aload_n hx hb dM_init_4 rfl (lv_at hl 0 rfl) ?_
  refine lv_bipush (v := 12) hx hb dM_init_5 (by decide) ?_
  refine c_rnewa (N := 12) C hw 0 ⟨rfl, by decide⟩ ⟨rfl, rfl, ra_int⟩ ac_0 ⟨by decide, rfl, by decide⟩ ⟨by omega, by omega⟩ dM_init_7 (fun H hw => ?_)
  obtain ⟨w6, ew6, hf⟩ := x_l hf
  rw [← ew6] at hw
  obtain ⟨w7, ew7, hf⟩ := x_p hf
  refine c_rput (v := .inr (some w.length)) C hw ew7 rfl ⟨rfl, Or.inr ⟨rfl, rfl, rfl⟩⟩ pc_9 ⟨rfl, rfl⟩ ⟨by decide, by decide⟩ vM_7 dM_init_9 (fun H locs hw => ?_)
  refine lv_aload_n hx hb dM_init_12 rfl (lv_at hl 0 rfl) ?_
  refine lv_bipush (v := 12) hx hb dM_init_13 (by decide) ?_
  refine c_rnewa (N := 12) C hw 1 ⟨rfl, by decide⟩ ⟨rfl, rfl, ra_bool⟩ ac_1 ⟨by decide, rfl, by decide⟩ ⟨by omega, by omega⟩ dM_init_15 (fun H hw => ?_)
  obtain ⟨w8, ew8, hf⟩ := x_l hf
  rw [← ew8] at hw
  obtain ⟨w9, ew9, hf⟩ := x_p hf
  refine c_rput (v := .inr (some w7.length)) C hw ew9 rfl ⟨rfl, Or.inr ⟨rfl, rfl, rfl⟩⟩ pc_14 ⟨rfl, rfl⟩ ⟨by decide, by decide⟩ vM_13 dM_init_17 (fun H locs hw => ?_)
  refine lv_aload_n hx hb dM_init_20 rfl (lv_at hl 0 rfl) ?_
  refine lv_bipush (v := 6) hx hb dM_init_21 (by decide) ?_
  refine c_rnewa (N := 6) C hw 0 ⟨rfl, by decide⟩ ⟨rfl, rfl, ra_int⟩ ac_0 ⟨by decide, rfl, by decide⟩ ⟨by omega, by omega⟩ dM_init_23 (fun H hw => ?_)
  obtain ⟨w10, ew10, hf⟩ := x_l hf
  rw [← ew10] at hw
  obtain ⟨w11, ew11, hf⟩ := x_p hf
  refine c_rput (v := .inr (some w9.length)) C hw ew11 rfl ⟨rfl, Or.inr ⟨rfl, rfl, rfl⟩⟩ pc_9 ⟨rfl, rfl⟩ ⟨by decide, by decide⟩ vM_17 dM_init_25 (fun H locs hw => ?_)
  refine lv_aload_n hx hb dM_init_28 rfl (lv_at hl 0 rfl) ?_
  refine lv_bipush (v := 6) hx hb dM_init_29 (by decide) ?_
  refine c_rnewa (N := 6) C hw 0 ⟨rfl, by decide⟩ ⟨rfl, rfl, ra_int⟩ ac_0 ⟨by decide, rfl, by decide⟩ ⟨by omega, by omega⟩ dM_init_31 (fun H hw => ?_)
  obtain ⟨w12, ew12, hf⟩ := x_l hf
  rw [← ew12] at hw
  obtain ⟨w13, ew13, hf⟩ := x_p hf
  refine c_rput (v := .inr (some w11.length)) C hw ew13 rfl ⟨rfl, Or.inr ⟨rfl, rfl, rfl⟩⟩ pc_9 ⟨rfl, rfl⟩ ⟨by decide, by decide⟩ vM_20 dM_init_33 (fun H locs hw => ?_)
  refine lv_aload_n hx hb dM_init_36 rfl (lv_at hl 0 rfl) ?_
  refine lv_bipush (v := 120) hx hb dM_init_37 (by decide) ?_
  refine c_rnewa (N := 120) C hw 0 ⟨rfl, by decide⟩ ⟨rfl, rfl, ra_int⟩ ac_0 ⟨by decide, rfl, by decide⟩ ⟨by omega, by omega⟩ dM_init_39 (fun H hw => ?_)
  obtain ⟨w14, ew14, hf⟩ := x_l hf
  rw [← ew14] at hw
  obtain ⟨w15, ew15, hf⟩ := x_p hf
  refine c_rput (v := .inr (some w13.length)) C hw ew15 rfl ⟨rfl, Or.inr ⟨rfl, rfl, rfl⟩⟩ pc_9 ⟨rfl, rfl⟩ ⟨by decide, by decide⟩ vM_23 dM_init_41 (fun H locs hw => ?_)
  refine lv_aload_n hx hb dM_init_44 rfl (lv_at hl 0 rfl) ?_
  refine lv_sipush (v := 960) hx hb dM_init_45 (by decide) ?_
  refine c_rnewa (N := 960) C hw 0 ⟨rfl, by decide⟩ ⟨rfl, rfl, ra_int⟩ ac_0 ⟨by decide, rfl, by decide⟩ ⟨by omega, by omega⟩ dM_init_48 (fun H hw => ?_)
  obtain ⟨w16, ew16, hf⟩ := x_l hf
  rw [← ew16] at hw
  obtain ⟨w17, ew17, hf⟩ := x_p hf
  refine c_rput (v := .inr (some w15.length)) C hw ew17 rfl ⟨rfl, Or.inr ⟨rfl, rfl, rfl⟩⟩ pc_9 ⟨rfl, rfl⟩ ⟨by decide, by decide⟩ vM_26 dM_init_50 (fun H locs hw => ?_)
  refine lv_aload_n hx hb dM_init_53 rfl (lv_at hl 0 rfl) ?_
  refine lv_sipush (v := 960) hx hb dM_init_54 (by decide) ?_
  refine c_rnewa (N := 960) C hw 0 ⟨rfl, by decide⟩ ⟨rfl, rfl, ra_int⟩ ac_0 ⟨by decide, rfl, by decide⟩ ⟨by omega, by omega⟩ dM_init_57 (fun H hw => ?_)
  obtain ⟨w18, ew18, hf⟩ := x_l hf
  rw [← ew18] at hw
  obtain ⟨w19, ew19, hf⟩ := x_p hf
  refine c_rput (v := .inr (some w17.length)) C hw ew19 rfl ⟨rfl, Or.inr ⟨rfl, rfl, rfl⟩⟩ pc_9 ⟨rfl, rfl⟩ ⟨by decide, by decide⟩ vM_29 dM_init_59 (fun H locs hw => ?_)
  refine lv_aload_n hx hb dM_init_62 rfl (lv_at hl 0 rfl) ?_
  refine lv_bipush (v := 40) hx hb dM_init_63 (by decide) ?_
  refine c_rnewa (N := 40) C hw 0 ⟨rfl, by decide⟩ ⟨rfl, rfl, ra_int⟩ ac_0 ⟨by decide, rfl, by decide⟩ ⟨by omega, by omega⟩ dM_init_65 (fun H hw => ?_)
  obtain ⟨w20, ew20, hf⟩ := x_l hf
  rw [← ew20] at hw
  obtain ⟨w21, ew21, hf⟩ := x_p hf
  refine c_rput (v := .inr (some w19.length)) C hw ew21 rfl ⟨rfl, Or.inr ⟨rfl, rfl, rfl⟩⟩ pc_9 ⟨rfl, rfl⟩ ⟨by decide, by decide⟩ vM_32 dM_init_67 (fun H locs hw => ?_)
  refine lv_aload_n hx hb dM_init_70 rfl (lv_at hl 0 rfl) ?_
  refine lv_bipush (v := 40) hx hb dM_init_71 (by decide) ?_
  refine c_rnewa (N := 40) C hw 0 ⟨rfl, by decide⟩ ⟨rfl, rfl, ra_int⟩ ac_0 ⟨by decide, rfl, by decide⟩ ⟨by omega, by omega⟩ dM_init_73 (fun H hw => ?_)
  obtain ⟨w22, ew22, hf⟩ := x_l hf
  rw [← ew22] at hw
  obtain ⟨w23, ew23, hf⟩ := x_p hf
  refine c_rput (v := .inr (some w21.length)) C hw ew23 rfl ⟨rfl, Or.inr ⟨rfl, rfl, rfl⟩⟩ pc_9 ⟨rfl, rfl⟩ ⟨by decide, by decide⟩ vM_35 dM_init_75 (fun H locs hw => ?_)
  refine lv_aload_n hx hb dM_init_78 rfl (lv_at hl 0 rfl) ?_
  refine lv_bipush (v := 40) hx hb dM_init_79 (by decide) ?_
  refine c_rnewa (N := 40) C hw 0 ⟨rfl, by decide⟩ ⟨rfl, rfl, ra_int⟩ ac_0 ⟨by decide, rfl, by decide⟩ ⟨by omega, by omega⟩ dM_init_81 (fun H hw => ?_)
  obtain ⟨w24, ew24, hf⟩ := x_l hf
  rw [← ew24] at hw
  obtain ⟨w25, ew25, hf⟩ := x_p hf
  refine c_rput (v := .inr (some w23.length)) C hw ew25 rfl ⟨rfl, Or.inr ⟨rfl, rfl, rfl⟩⟩ pc_9 ⟨rfl, rfl⟩ ⟨by decide, by decide⟩ vM_38 dM_init_83 (fun H locs hw => ?_)
  refine lv_aload_n hx hb dM_init_86 rfl (lv_at hl 0 rfl) ?_
  refine lv_bipush (v := 40) hx hb dM_init_87 (by decide) ?_
  refine c_rnewa (N := 40) C hw 0 ⟨rfl, by decide⟩ ⟨rfl, rfl, ra_int⟩ ac_0 ⟨by decide, rfl, by decide⟩ ⟨by omega, by omega⟩ dM_init_89 (fun H hw => ?_)
  obtain ⟨w26, ew26, hf⟩ := x_l hf
  rw [← ew26] at hw
  obtain ⟨w27, ew27, hf⟩ := x_p hf
  refine c_rput (v := .inr (some w25.length)) C hw ew27 rfl ⟨rfl, Or.inr ⟨rfl, rfl, rfl⟩⟩ pc_9 ⟨rfl, rfl⟩ ⟨by decide, by decide⟩ vM_41 dM_init_91 (fun H locs hw => ?_)
  refine lv_aload_n hx hb dM_init_94 rfl (lv_at hl 0 rfl) ?_
  refine lv_bipush (v := 40) hx hb dM_init_95 (by decide) ?_
  refine c_rnewa (N := 40) C hw 0 ⟨rfl, by decide⟩ ⟨rfl, rfl, ra_int⟩ ac_0 ⟨by decide, rfl, by decide⟩ ⟨by omega, by omega⟩ dM_init_97 (fun H hw => ?_)
  obtain ⟨w28, ew28, hf⟩ := x_l hf
  rw [← ew28] at hw
  obtain ⟨w29, ew29, hf⟩ := x_p hf
  refine c_rput (v := .inr (some w27.length)) C hw ew29 rfl ⟨rfl, Or.inr ⟨rfl, rfl, rfl⟩⟩ pc_9 ⟨rfl, rfl⟩ ⟨by decide, by decide⟩ vM_44 dM_init_99 (fun H locs hw => ?_)
  refine lv_aload_n hx hb dM_init_102 rfl (lv_at hl 0 rfl) ?_
  refine lv_bipush (v := 40) hx hb dM_init_103 (by decide) ?_
  refine c_rnewa (N := 40) C hw 0 ⟨rfl, by decide⟩ ⟨rfl, rfl, ra_int⟩ ac_0 ⟨by decide, rfl, by decide⟩ ⟨by omega, by omega⟩ dM_init_105 (fun H hw => ?_)
  obtain ⟨w30, ew30, hf⟩ := x_l hf
  rw [← ew30] at hw
  obtain ⟨w31, ew31, hf⟩ := x_p hf
  refine c_rput (v := .inr (some w29.length)) C hw ew31 rfl ⟨rfl, Or.inr ⟨rfl, rfl, rfl⟩⟩ pc_9 ⟨rfl, rfl⟩ ⟨by decide, by decide⟩ vM_47 dM_init_107 (fun H locs hw => ?_)
  refine lv_aload_n hx hb dM_init_110 rfl (lv_at hl 0 rfl) ?_
  refine lv_bipush (v := 40) hx hb dM_init_111 (by decide) ?_
  refine c_rnewa (N := 40) C hw 1 ⟨rfl, by decide⟩ ⟨rfl, rfl, ra_bool⟩ ac_1 ⟨by decide, rfl, by decide⟩ ⟨by omega, by omega⟩ dM_init_113 (fun H hw => ?_)
  obtain ⟨w32, ew32, hf⟩ := x_l hf
  rw [← ew32] at hw
  obtain ⟨w33, ew33, hf⟩ := x_p hf
  refine c_rput (v := .inr (some w31.length)) C hw ew33 rfl ⟨rfl, Or.inr ⟨rfl, rfl, rfl⟩⟩ pc_14 ⟨rfl, rfl⟩ ⟨by decide, by decide⟩ vM_50 dM_init_115 (fun H locs hw => ?_)
  refine lv_aload_n hx hb dM_init_118 rfl (lv_at hl 0 rfl) ?_
  refine lv_bipush (v := 16) hx hb dM_init_119 (by decide) ?_
  refine c_rnewa (N := 16) C hw 0 ⟨rfl, by decide⟩ ⟨rfl, rfl, ra_int⟩ ac_0 ⟨by decide, rfl, by decide⟩ ⟨by omega, by omega⟩ dM_init_121 (fun H hw => ?_)
  obtain ⟨w34, ew34, hf⟩ := x_l hf
  rw [← ew34] at hw
  obtain ⟨w35, ew35, hf⟩ := x_p hf
  refine c_rput (v := .inr (some w33.length)) C hw ew35 rfl ⟨rfl, Or.inr ⟨rfl, rfl, rfl⟩⟩ pc_9 ⟨rfl, rfl⟩ ⟨by decide, by decide⟩ vM_53 dM_init_123 (fun H locs hw => ?_)
  refine lv_aload_n hx hb dM_init_126 rfl (lv_at hl 0 rfl) ?_
  refine lv_bipush (v := 16) hx hb dM_init_127 (by decide) ?_
  refine c_rnewa (N := 16) C hw 0 ⟨rfl, by decide⟩ ⟨rfl, rfl, ra_int⟩ ac_0 ⟨by decide, rfl, by decide⟩ ⟨by omega, by omega⟩ dM_init_129 (fun H hw => ?_)
  obtain ⟨w36, ew36, hf⟩ := x_l hf
  rw [← ew36] at hw
  obtain ⟨w37, ew37, hf⟩ := x_p hf
  refine c_rput (v := .inr (some w35.length)) C hw ew37 rfl ⟨rfl, Or.inr ⟨rfl, rfl, rfl⟩⟩ pc_9 ⟨rfl, rfl⟩ ⟨by decide, by decide⟩ vM_56 dM_init_131 (fun H locs hw => ?_)
  refine lv_aload_n hx hb dM_init_134 rfl (lv_at hl 0 rfl) ?_
  refine lv_bipush (v := 17) hx hb dM_init_135 (by decide) ?_
  refine c_rnewa (N := 17) C hw 0 ⟨rfl, by decide⟩ ⟨rfl, rfl, ra_int⟩ ac_0 ⟨by decide, rfl, by decide⟩ ⟨by omega, by omega⟩ dM_init_137 (fun H hw => ?_)
  obtain ⟨w38, ew38, hf⟩ := x_l hf
  rw [← ew38] at hw
  obtain ⟨w39, ew39, hf⟩ := x_p hf
  refine c_rput (v := .inr (some w37.length)) C hw ew39 rfl ⟨rfl, Or.inr ⟨rfl, rfl, rfl⟩⟩ pc_9 ⟨rfl, rfl⟩ ⟨by decide, by decide⟩ vM_59 dM_init_139 (fun H locs hw => ?_)
  refine lv_aload_n hx hb dM_init_142 rfl (lv_at hl 0 rfl) ?_
  refine lv_bipush (v := 16) hx hb dM_init_143 (by decide) ?_
  refine c_rnewa (N := 16) C hw 0 ⟨rfl, by decide⟩ ⟨rfl, rfl, ra_int⟩ ac_0 ⟨by decide, rfl, by decide⟩ ⟨by omega, by omega⟩ dM_init_145 (fun H hw => ?_)
  obtain ⟨w40, ew40, hf⟩ := x_l hf
  rw [← ew40] at hw
  obtain ⟨w41, ew41, hf⟩ := x_p hf
  refine c_rput (v := .inr (some w39.length)) C hw ew41 rfl ⟨rfl, Or.inr ⟨rfl, rfl, rfl⟩⟩ pc_9 ⟨rfl, rfl⟩ ⟨by decide, by decide⟩ vM_62 dM_init_147 (fun H locs hw => ?_)
  refine lv_aload_n hx hb dM_init_150 rfl (lv_at hl 0 rfl) ?_
  refine lv_bipush (v := 68) hx hb dM_init_151 (by decide) ?_
  refine c_rnewa (N := 68) C hw 0 ⟨rfl, by decide⟩ ⟨rfl, rfl, ra_int⟩ ac_0 ⟨by decide, rfl, by decide⟩ ⟨by omega, by omega⟩ dM_init_153 (fun H hw => ?_)
  obtain ⟨w42, ew42, hf⟩ := x_l hf
  rw [← ew42] at hw
  obtain ⟨w43, ew43, hf⟩ := x_p hf
  refine c_rput (v := .inr (some w41.length)) C hw ew43 rfl ⟨rfl, Or.inr ⟨rfl, rfl, rfl⟩⟩ pc_9 ⟨rfl, rfl⟩ ⟨by decide, by decide⟩ vM_65 dM_init_155 (fun H locs hw => ?_)
  refine lv_aload_n hx hb dM_init_158 rfl (lv_at hl 0 rfl) ?_
  refine lv_bipush (v := 68) hx hb dM_init_159 (by decide) ?_
  refine c_rnewa (N := 68) C hw 0 ⟨rfl, by decide⟩ ⟨rfl, rfl, ra_int⟩ ac_0 ⟨by decide, rfl, by decide⟩ ⟨by omega, by omega⟩ dM_init_161 (fun H hw => ?_)
  obtain ⟨w44, ew44, hf⟩ := x_l hf
  rw [← ew44] at hw
  obtain ⟨w45, ew45, hf⟩ := x_p hf
  refine c_rput (v := .inr (some w43.length)) C hw ew45 rfl ⟨rfl, Or.inr ⟨rfl, rfl, rfl⟩⟩ pc_9 ⟨rfl, rfl⟩ ⟨by decide, by decide⟩ vM_68 dM_init_163 (fun H locs hw => ?_)
  refine lv_aload_n hx hb dM_init_166 rfl (lv_at hl 0 rfl) ?_
  refine lv_bipush (v := 16) hx hb dM_init_167 (by decide) ?_
  refine c_rnewa (N := 16) C hw 1 ⟨rfl, by decide⟩ ⟨rfl, rfl, ra_bool⟩ ac_1 ⟨by decide, rfl, by decide⟩ ⟨by omega, by omega⟩ dM_init_169 (fun H hw => ?_)
  obtain ⟨w46, ew46, hf⟩ := x_l hf
  rw [← ew46] at hw
  obtain ⟨w47, ew47, hf⟩ := x_p hf
  refine c_rput (v := .inr (some w45.length)) C hw ew47 rfl ⟨rfl, Or.inr ⟨rfl, rfl, rfl⟩⟩ pc_14 ⟨rfl, rfl⟩ ⟨by decide, by decide⟩ vM_71 dM_init_171 (fun H locs hw => ?_)
  refine lv_aload_n hx hb dM_init_174 rfl (lv_at hl 0 rfl) ?_
  refine lv_iconst (v := (-1)) hx hb dM_init_175 (by decide) ?_
  obtain ⟨w48, ew48, hf⟩ := x_p hf
  refine c_rput (v := .inl (-1)) C hw ew48 rfl ⟨rfl, Or.inl rfl⟩ pc_0 ⟨rfl, rfl⟩ ⟨by decide, by decide⟩ vM_74 dM_init_176 (fun H locs hw => ?_)
  refine lv_aload_n hx hb dM_init_179 rfl (lv_at hl 0 rfl) ?_
  refine lv_bipush (v := 40) hx hb dM_init_180 (by decide) ?_
  refine c_rnewa (N := 40) C hw 0 ⟨rfl, by decide⟩ ⟨rfl, rfl, ra_int⟩ ac_0 ⟨by decide, rfl, by decide⟩ ⟨by omega, by omega⟩ dM_init_182 (fun H hw => ?_)
  obtain ⟨w49, ew49, hf⟩ := x_l hf
  rw [← ew49] at hw
  obtain ⟨w50, ew50, hf⟩ := x_p hf
  refine c_rput (v := .inr (some w48.length)) C hw ew50 rfl ⟨rfl, Or.inr ⟨rfl, rfl, rfl⟩⟩ pc_9 ⟨rfl, rfl⟩ ⟨by decide, by decide⟩ vM_78 dM_init_184 (fun H locs hw => ?_)
  refine lv_aload_n hx hb dM_init_187 rfl (lv_at hl 0 rfl) ?_
  refine lv_bipush (v := 40) hx hb dM_init_188 (by decide) ?_
  refine c_rnewa (N := 40) C hw 0 ⟨rfl, by decide⟩ ⟨rfl, rfl, ra_int⟩ ac_0 ⟨by decide, rfl, by decide⟩ ⟨by omega, by omega⟩ dM_init_190 (fun H hw => ?_)
  obtain ⟨w51, ew51, hf⟩ := x_l hf
  rw [← ew51] at hw
  obtain ⟨w52, ew52, hf⟩ := x_p hf
  refine c_rput (v := .inr (some w50.length)) C hw ew52 rfl ⟨rfl, Or.inr ⟨rfl, rfl, rfl⟩⟩ pc_9 ⟨rfl, rfl⟩ ⟨by decide, by decide⟩ vM_81 dM_init_192 (fun H locs hw => ?_)
  refine lv_aload_n hx hb dM_init_195 rfl (lv_at hl 0 rfl) ?_
  refine lv_bipush (v := 12) hx hb dM_init_196 (by decide) ?_
  refine c_rnewa (N := 12) C hw 0 ⟨rfl, by decide⟩ ⟨rfl, rfl, ra_int⟩ ac_0 ⟨by decide, rfl, by decide⟩ ⟨by omega, by omega⟩ dM_init_198 (fun H hw => ?_)
  obtain ⟨w53, ew53, hf⟩ := x_l hf
  rw [← ew53] at hw
  obtain ⟨w54, ew54, hf⟩ := x_p hf
  refine c_rput (v := .inr (some w52.length)) C hw ew54 rfl ⟨rfl, Or.inr ⟨rfl, rfl, rfl⟩⟩ pc_9 ⟨rfl, rfl⟩ ⟨by decide, by decide⟩ vM_84 dM_init_200 (fun H locs hw => ?_)
  refine lv_iconst (v := 0) hx hb dM_init_203 (by decide) ?_
  refine lv_istore_n (lv' := [(1, .int 0), (0, .ref (h + a))]) hx hb dM_init_204 rfl hl (by decide) rfl (fun ls hl => ?_)
  exact uM_init_205 C a 50 w54 0 res hf _ _ (by omega) (by omega) H locs ls hw (lv_sub hl [1, 0] rfl)
