set_option maxRecDepth 100000 in
theorem wA_117 : Cond.classLink RxA 117 RxH ∈ Tb := tb_2 (List.mem_of_getElem? (i := 120) rfl)
set_option maxRecDepth 100000 in
theorem wQ_36 : Cond.constantLong RxQ 36 1099511627776 ∈ Tb := tb_3 (List.mem_of_getElem? (i := 26) rfl)
set_option maxRecDepth 100000 in
theorem wA_153 : Cond.constantLong RxA 153 17592186044415 ∈ Tb := tb_2 (List.mem_of_getElem? (i := 155) rfl)
set_option maxRecDepth 100000 in
theorem wA_158 : Cond.constantLong RxA 158 17592186044414 ∈ Tb := tb_2 (List.mem_of_getElem? (i := 160) rfl)
set_option maxRecDepth 100000 in
theorem wA_168 : Cond.constantLong RxA 168 17592186044416 ∈ Tb := tb_2 (List.mem_of_getElem? (i := 177) rfl)
set_option maxRecDepth 100000 in
theorem wA_321 : Cond.constantLong RxA 321 2199023255552 ∈ Tb := tb_3 (List.mem_of_getElem? (i := 32) rfl)
set_option maxRecDepth 100000 in
theorem wA_333 : Cond.constantLong RxA 333 4398046511104 ∈ Tb := tb_3 (List.mem_of_getElem? (i := 4) rfl)
set_option maxRecDepth 100000 in
theorem wA_335 : Cond.constantLong RxA 335 8796093022208 ∈ Tb := tb_3 (List.mem_of_getElem? (i := 5) rfl)
set_option maxRecDepth 100000 in
theorem wM_128 : Cond.constantLong RxM 128 17592186044415 ∈ Tb := tb_4 (List.mem_of_getElem? (i := 18) rfl)
set_option maxRecDepth 100000 in
theorem wM_133 : Cond.constantLong RxM 133 17592186044414 ∈ Tb := tb_4 (List.mem_of_getElem? (i := 19) rfl)
set_option maxRecDepth 100000 in
theorem wM_142 : Cond.constantLong RxM 142 17592186044416 ∈ Tb := tb_4 (List.mem_of_getElem? (i := 28) rfl)
set_option maxRecDepth 100000 in
theorem wM_150 : Cond.constantLong RxM 150 4398046511104 ∈ Tb := tb_4 (List.mem_of_getElem? (i := 49) rfl)
set_option maxRecDepth 100000 in
theorem wM_152 : Cond.constantLong RxM 152 8796093022208 ∈ Tb := tb_4 (List.mem_of_getElem? (i := 50) rfl)
set_option maxRecDepth 100000 in
theorem wM_176 : Cond.constantLong RxM 176 1099511627776 ∈ Tb := tb_4 (List.mem_of_getElem? (i := 63) rfl)
set_option maxRecDepth 100000 in
theorem wM_178 : Cond.constantLong RxM 178 2199023255552 ∈ Tb := tb_4 (List.mem_of_getElem? (i := 64) rfl)
set_option maxRecDepth 100000 in
theorem wQ_15 : Cond.fieldLink RxQ 15 (TxQ 1).1 (TxQ 1).2.1 (TxQ 1).2.2.1 ∈ Tb := tb_1 (List.mem_of_getElem? (i := 49) rfl)
set_option maxRecDepth 100000 in
theorem wQ_18 : Cond.fieldLink RxQ 18 (TxQ 2).1 (TxQ 2).2.1 (TxQ 2).2.2.1 ∈ Tb := tb_1 (List.mem_of_getElem? (i := 50) rfl)
set_option maxRecDepth 100000 in
theorem wQ_32 : Cond.fieldLinkNest RxQ 32 (TxD 1).1 (TxD 1).2.1 (TxD 1).2.2.1 xHost ∈ Tb := tb_1 (List.mem_of_getElem? (i := 213) rfl)
set_option maxRecDepth 100000 in
theorem wQ_38 : Cond.fieldLinkNest RxQ 38 (TxN 3).1 (TxN 3).2.1 (TxN 3).2.2.1 xHost ∈ Tb := tb_1 (List.mem_of_getElem? (i := 89) rfl)
set_option maxRecDepth 100000 in
theorem wQ_43 : Cond.fieldLinkNest RxQ 43 (TxN 4).1 (TxN 4).2.1 (TxN 4).2.2.1 xHost ∈ Tb := tb_1 (List.mem_of_getElem? (i := 95) rfl)
set_option maxRecDepth 100000 in
theorem wQ_9 : Cond.fieldLink RxQ 9 (TxQ 0).1 (TxQ 0).2.1 (TxQ 0).2.2.1 ∈ Tb := tb_1 (List.mem_of_getElem? (i := 48) rfl)
set_option maxRecDepth 100000 in
theorem wC_15 : Cond.fieldLink RxC 15 (TxC 1).1 (TxC 1).2.1 (TxC 1).2.2.1 ∈ Tb := tb_1 (List.mem_of_getElem? (i := 165) rfl)
set_option maxRecDepth 100000 in
theorem wC_19 : Cond.fieldLink RxC 19 (TxC 2).1 (TxC 2).2.1 (TxC 2).2.2.1 ∈ Tb := tb_1 (List.mem_of_getElem? (i := 166) rfl)
set_option maxRecDepth 100000 in
theorem wC_22 : Cond.fieldLink RxC 22 (TxC 3).1 (TxC 3).2.1 (TxC 3).2.2.1 ∈ Tb := tb_1 (List.mem_of_getElem? (i := 168) rfl)
set_option maxRecDepth 100000 in
theorem wC_9 : Cond.fieldLink RxC 9 (TxC 0).1 (TxC 0).2.1 (TxC 0).2.2.1 ∈ Tb := tb_1 (List.mem_of_getElem? (i := 164) rfl)
set_option maxRecDepth 100000 in
theorem wF_15 : Cond.fieldLink RxF 15 (TxF 1).1 (TxF 1).2.1 (TxF 1).2.2.1 ∈ Tb := tb_1 (List.mem_of_getElem? (i := 139) rfl)
set_option maxRecDepth 100000 in
theorem wF_18 : Cond.fieldLink RxF 18 (TxF 2).1 (TxF 2).2.1 (TxF 2).2.2.1 ∈ Tb := tb_1 (List.mem_of_getElem? (i := 141) rfl)
set_option maxRecDepth 100000 in
theorem wF_9 : Cond.fieldLink RxF 9 (TxF 0).1 (TxF 0).2.1 (TxF 0).2.2.1 ∈ Tb := tb_1 (List.mem_of_getElem? (i := 137) rfl)
set_option maxRecDepth 100000 in
theorem wH_15 : Cond.fieldLink RxH 15 (TxH 1).1 (TxH 1).2.1 (TxH 1).2.2.1 ∈ Tb := tb_2 (List.mem_of_getElem? (i := 128) rfl)
set_option maxRecDepth 100000 in
theorem wH_18 : Cond.fieldLink RxH 18 (TxH 2).1 (TxH 2).2.1 (TxH 2).2.2.1 ∈ Tb := tb_2 (List.mem_of_getElem? (i := 129) rfl)
set_option maxRecDepth 100000 in
theorem wH_22 : Cond.fieldLink RxH 22 (TxH 3).1 (TxH 3).2.1 (TxH 3).2.2.1 ∈ Tb := tb_2 (List.mem_of_getElem? (i := 130) rfl)
set_option maxRecDepth 100000 in
theorem wH_29 : Cond.fieldLink RxH 29 (TxH 4).1 (TxH 4).2.1 (TxH 4).2.2.1 ∈ Tb := tb_2 (List.mem_of_getElem? (i := 131) rfl)
set_option maxRecDepth 100000 in
theorem wH_9 : Cond.fieldLink RxH 9 (TxH 0).1 (TxH 0).2.1 (TxH 0).2.2.1 ∈ Tb := tb_2 (List.mem_of_getElem? (i := 127) rfl)
set_option maxRecDepth 100000 in
theorem wD_15 : Cond.fieldLink RxD 15 (TxD 1).1 (TxD 1).2.1 (TxD 1).2.2.1 ∈ Tb := tb_1 (List.mem_of_getElem? (i := 211) rfl)
set_option maxRecDepth 100000 in
theorem wD_19 : Cond.fieldLinkNest RxD 19 (TxN 2).1 (TxN 2).2.1 (TxN 2).2.2.1 xHost ∈ Tb := tb_1 (List.mem_of_getElem? (i := 82) rfl)
set_option maxRecDepth 100000 in
theorem wD_24 : Cond.fieldLinkNest RxD 24 (TxN 3).1 (TxN 3).2.1 (TxN 3).2.2.1 xHost ∈ Tb := tb_1 (List.mem_of_getElem? (i := 87) rfl)
set_option maxRecDepth 100000 in
theorem wD_27 : Cond.fieldLinkNest RxD 27 (TxN 4).1 (TxN 4).2.1 (TxN 4).2.2.1 xHost ∈ Tb := tb_1 (List.mem_of_getElem? (i := 93) rfl)
set_option maxRecDepth 100000 in
theorem wD_9 : Cond.fieldLink RxD 9 (TxD 0).1 (TxD 0).2.1 (TxD 0).2.2.1 ∈ Tb := tb_1 (List.mem_of_getElem? (i := 209) rfl)
set_option maxRecDepth 100000 in
theorem wB_11 : Cond.fieldLink RxB 11 (TxB 0).1 (TxB 0).2.1 (TxB 0).2.2.1 ∈ Tb := tb_1 (List.mem_of_getElem? (i := 117) rfl)
set_option maxRecDepth 100000 in
theorem wB_17 : Cond.fieldLink RxB 17 (TxB 1).1 (TxB 1).2.1 (TxB 1).2.2.1 ∈ Tb := tb_1 (List.mem_of_getElem? (i := 119) rfl)
set_option maxRecDepth 100000 in
theorem wB_21 : Cond.fieldLink RxB 21 (TxB 2).1 (TxB 2).2.1 (TxB 2).2.2.1 ∈ Tb := tb_1 (List.mem_of_getElem? (i := 121) rfl)
set_option maxRecDepth 100000 in
theorem wB_25 : Cond.fieldLinkNest RxB 25 (TxN 0).1 (TxN 0).2.1 (TxN 0).2.2.1 xHost ∈ Tb := tb_1 (List.mem_of_getElem? (i := 74) rfl)
set_option maxRecDepth 100000 in
theorem wB_28 : Cond.fieldLinkNest RxB 28 (TxP 0).1 (TxP 0).2.1 (TxP 0).2.2.1 xHost ∈ Tb := tb_1 (List.mem_of_getElem? (i := 186) rfl)
set_option maxRecDepth 100000 in
theorem wB_33 : Cond.fieldLinkNest RxB 33 (TxN 1).1 (TxN 1).2.1 (TxN 1).2.2.1 xHost ∈ Tb := tb_1 (List.mem_of_getElem? (i := 77) rfl)
set_option maxRecDepth 100000 in
theorem wB_34 : Cond.fieldLinkNest RxB 34 (TxP 1).1 (TxP 1).2.1 (TxP 1).2.2.1 xHost ∈ Tb := tb_1 (List.mem_of_getElem? (i := 189) rfl)
set_option maxRecDepth 100000 in
theorem wB_37 : Cond.fieldLinkNest RxB 37 (TxN 2).1 (TxN 2).2.1 (TxN 2).2.2.1 xHost ∈ Tb := tb_1 (List.mem_of_getElem? (i := 81) rfl)
set_option maxRecDepth 100000 in
theorem wB_38 : Cond.fieldLinkNest RxB 38 (TxN 3).1 (TxN 3).2.1 (TxN 3).2.2.1 xHost ∈ Tb := tb_1 (List.mem_of_getElem? (i := 86) rfl)
set_option maxRecDepth 100000 in
theorem wB_41 : Cond.fieldLinkNest RxB 41 (TxN 4).1 (TxN 4).2.1 (TxN 4).2.2.1 xHost ∈ Tb := tb_1 (List.mem_of_getElem? (i := 92) rfl)
set_option maxRecDepth 100000 in
theorem wB_44 : Cond.fieldLinkNest RxB 44 (TxN 5).1 (TxN 5).2.1 (TxN 5).2.2.1 xHost ∈ Tb := tb_1 (List.mem_of_getElem? (i := 98) rfl)
set_option maxRecDepth 100000 in
theorem wP_15 : Cond.fieldLink RxP 15 (TxP 1).1 (TxP 1).2.1 (TxP 1).2.2.1 ∈ Tb := tb_1 (List.mem_of_getElem? (i := 188) rfl)
set_option maxRecDepth 100000 in
theorem wP_18 : Cond.fieldLink RxP 18 (TxP 2).1 (TxP 2).2.1 (TxP 2).2.2.1 ∈ Tb := tb_1 (List.mem_of_getElem? (i := 191) rfl)
set_option maxRecDepth 100000 in
theorem wP_22 : Cond.fieldLink RxP 22 (TxP 3).1 (TxP 3).2.1 (TxP 3).2.2.1 ∈ Tb := tb_1 (List.mem_of_getElem? (i := 193) rfl)
set_option maxRecDepth 100000 in
theorem wP_25 : Cond.fieldLinkNest RxP 25 (TxN 1).1 (TxN 1).2.1 (TxN 1).2.2.1 xHost ∈ Tb := tb_1 (List.mem_of_getElem? (i := 78) rfl)
set_option maxRecDepth 100000 in
theorem wP_28 : Cond.fieldLinkNest RxP 28 (TxN 2).1 (TxN 2).2.1 (TxN 2).2.2.1 xHost ∈ Tb := tb_1 (List.mem_of_getElem? (i := 83) rfl)
set_option maxRecDepth 100000 in
theorem wP_29 : Cond.fieldLinkNest RxP 29 (TxN 3).1 (TxN 3).2.1 (TxN 3).2.2.1 xHost ∈ Tb := tb_1 (List.mem_of_getElem? (i := 88) rfl)
set_option maxRecDepth 100000 in
theorem wP_38 : Cond.fieldLinkNest RxP 38 (TxN 4).1 (TxN 4).2.1 (TxN 4).2.2.1 xHost ∈ Tb := tb_1 (List.mem_of_getElem? (i := 94) rfl)
set_option maxRecDepth 100000 in
theorem wP_9 : Cond.fieldLink RxP 9 (TxP 0).1 (TxP 0).2.1 (TxP 0).2.2.1 ∈ Tb := tb_1 (List.mem_of_getElem? (i := 185) rfl)
set_option maxRecDepth 100000 in
theorem wK_11 : Cond.fieldLink RxK 11 (TxK 0).1 (TxK 0).2.1 (TxK 0).2.2.1 ∈ Tb := tb_1 (List.mem_of_getElem? (i := 32) rfl)
set_option maxRecDepth 100000 in
theorem wK_17 : Cond.fieldLink RxK 17 (TxK 1).1 (TxK 1).2.1 (TxK 1).2.2.1 ∈ Tb := tb_1 (List.mem_of_getElem? (i := 34) rfl)
set_option maxRecDepth 100000 in
theorem wT_19 : Cond.fieldLink RxT 19 (TxT 1).1 (TxT 1).2.1 (TxT 1).2.2.1 ∈ Tb := tb_1 (List.mem_of_getElem? (i := 230) rfl)
set_option maxRecDepth 100000 in
theorem wT_23 : Cond.fieldLink RxT 23 (TxT 2).1 (TxT 2).2.1 (TxT 2).2.2.1 ∈ Tb := tb_1 (List.mem_of_getElem? (i := 232) rfl)
set_option maxRecDepth 100000 in
theorem wT_27 : Cond.fieldLink RxT 27 (TxT 3).1 (TxT 3).2.1 (TxT 3).2.2.1 ∈ Tb := tb_1 (List.mem_of_getElem? (i := 233) rfl)
set_option maxRecDepth 100000 in
theorem wT_34 : Cond.fieldLinkNest RxT 34 (TxQ 2).1 (TxQ 2).2.1 (TxQ 2).2.2.1 xHost ∈ Tb := tb_1 (List.mem_of_getElem? (i := 51) rfl)
set_option maxRecDepth 100000 in
theorem wA_105 : Cond.fieldLinkNest RxA 105 (TxD 0).1 (TxD 0).2.1 (TxD 0).2.2.1 xHost ∈ Tb := tb_1 (List.mem_of_getElem? (i := 210) rfl)
set_option maxRecDepth 100000 in
theorem wA_108 : Cond.fieldLinkNest RxA 108 (TxD 1).1 (TxD 1).2.1 (TxD 1).2.2.1 xHost ∈ Tb := tb_1 (List.mem_of_getElem? (i := 212) rfl)
set_option maxRecDepth 100000 in
theorem wA_11 : Cond.fieldLink RxA 11 (TxA 0).1 (TxA 0).2.1 (TxA 0).2.2.1 ∈ Tb := tb_2 (List.mem_of_getElem? (i := 8) rfl)
set_option maxRecDepth 100000 in
theorem wA_121 : Cond.fieldLinkNest RxA 121 (TxK 1).1 (TxK 1).2.1 (TxK 1).2.2.1 xHost ∈ Tb := tb_1 (List.mem_of_getElem? (i := 35) rfl)
set_option maxRecDepth 100000 in
theorem wA_15 : Cond.fieldLink RxA 15 (TxA 1).1 (TxA 1).2.1 (TxA 1).2.2.1 ∈ Tb := tb_2 (List.mem_of_getElem? (i := 9) rfl)
set_option maxRecDepth 100000 in
theorem wA_170 : Cond.fieldLinkNest RxA 170 (TxP 0).1 (TxP 0).2.1 (TxP 0).2.2.1 xHost ∈ Tb := tb_1 (List.mem_of_getElem? (i := 187) rfl)
set_option maxRecDepth 100000 in
theorem wA_173 : Cond.fieldLinkNest RxA 173 (TxP 1).1 (TxP 1).2.1 (TxP 1).2.2.1 xHost ∈ Tb := tb_1 (List.mem_of_getElem? (i := 190) rfl)
set_option maxRecDepth 100000 in
theorem wA_180 : Cond.fieldLinkNest RxA 180 (TxP 2).1 (TxP 2).2.1 (TxP 2).2.2.1 xHost ∈ Tb := tb_1 (List.mem_of_getElem? (i := 192) rfl)
set_option maxRecDepth 100000 in
theorem wA_184 : Cond.fieldLinkNest RxA 184 (TxP 3).1 (TxP 3).2.1 (TxP 3).2.2.1 xHost ∈ Tb := tb_1 (List.mem_of_getElem? (i := 194) rfl)
set_option maxRecDepth 100000 in
theorem wA_19 : Cond.fieldLink RxA 19 (TxA 2).1 (TxA 2).2.1 (TxA 2).2.2.1 ∈ Tb := tb_2 (List.mem_of_getElem? (i := 10) rfl)
set_option maxRecDepth 100000 in
theorem wA_211 : Cond.fieldLinkNest RxA 211 (TxT 1).1 (TxT 1).2.1 (TxT 1).2.2.1 xHost ∈ Tb := tb_1 (List.mem_of_getElem? (i := 231) rfl)
set_option maxRecDepth 100000 in
theorem wA_214 : Cond.fieldLinkNest RxA 214 (TxQ 2).1 (TxQ 2).2.1 (TxQ 2).2.2.1 xHost ∈ Tb := tb_1 (List.mem_of_getElem? (i := 52) rfl)
set_option maxRecDepth 100000 in
theorem wA_22 : Cond.fieldLink RxA 22 (TxA 3).1 (TxA 3).2.1 (TxA 3).2.2.1 ∈ Tb := tb_2 (List.mem_of_getElem? (i := 11) rfl)
set_option maxRecDepth 100000 in
theorem wA_225 : Cond.fieldLinkNest RxA 225 (TxB 1).1 (TxB 1).2.1 (TxB 1).2.2.1 xHost ∈ Tb := tb_1 (List.mem_of_getElem? (i := 120) rfl)
set_option maxRecDepth 100000 in
theorem wA_226 : Cond.fieldLinkNest RxA 226 (TxB 0).1 (TxB 0).2.1 (TxB 0).2.2.1 xHost ∈ Tb := tb_1 (List.mem_of_getElem? (i := 118) rfl)
set_option maxRecDepth 100000 in
theorem wA_230 : Cond.fieldLinkNest RxA 230 (TxN 0).1 (TxN 0).2.1 (TxN 0).2.2.1 xHost ∈ Tb := tb_1 (List.mem_of_getElem? (i := 75) rfl)
set_option maxRecDepth 100000 in
theorem wA_235 : Cond.fieldLinkNest RxA 235 (TxN 1).1 (TxN 1).2.1 (TxN 1).2.2.1 xHost ∈ Tb := tb_1 (List.mem_of_getElem? (i := 79) rfl)
set_option maxRecDepth 100000 in
theorem wA_236 : Cond.fieldLinkNest RxA 236 (TxN 2).1 (TxN 2).2.1 (TxN 2).2.2.1 xHost ∈ Tb := tb_1 (List.mem_of_getElem? (i := 84) rfl)
set_option maxRecDepth 100000 in
theorem wA_237 : Cond.fieldLinkNest RxA 237 (TxN 3).1 (TxN 3).2.1 (TxN 3).2.2.1 xHost ∈ Tb := tb_1 (List.mem_of_getElem? (i := 90) rfl)
set_option maxRecDepth 100000 in
theorem wA_240 : Cond.fieldLinkNest RxA 240 (TxN 4).1 (TxN 4).2.1 (TxN 4).2.2.1 xHost ∈ Tb := tb_1 (List.mem_of_getElem? (i := 96) rfl)
set_option maxRecDepth 100000 in
theorem wA_243 : Cond.fieldLinkNest RxA 243 (TxN 5).1 (TxN 5).2.1 (TxN 5).2.2.1 xHost ∈ Tb := tb_1 (List.mem_of_getElem? (i := 99) rfl)
set_option maxRecDepth 100000 in
theorem wA_246 : Cond.fieldLinkNest RxA 246 (TxN 6).1 (TxN 6).2.1 (TxN 6).2.2.1 xHost ∈ Tb := tb_1 (List.mem_of_getElem? (i := 101) rfl)
set_option maxRecDepth 100000 in
theorem wA_249 : Cond.fieldLinkNest RxA 249 (TxT 0).1 (TxT 0).2.1 (TxT 0).2.2.1 xHost ∈ Tb := tb_1 (List.mem_of_getElem? (i := 229) rfl)
set_option maxRecDepth 100000 in
theorem wA_252 : Cond.fieldLinkNest RxA 252 (TxT 3).1 (TxT 3).2.1 (TxT 3).2.2.1 xHost ∈ Tb := tb_1 (List.mem_of_getElem? (i := 234) rfl)
set_option maxRecDepth 100000 in
theorem wA_255 : Cond.fieldLinkNest RxA 255 (TxT 4).1 (TxT 4).2.1 (TxT 4).2.2.1 xHost ∈ Tb := tb_1 (List.mem_of_getElem? (i := 236) rfl)
set_option maxRecDepth 100000 in
theorem wA_258 : Cond.fieldLinkNest RxA 258 (TxF 3).1 (TxF 3).2.1 (TxF 3).2.2.1 xHost ∈ Tb := tb_1 (List.mem_of_getElem? (i := 144) rfl)
set_option maxRecDepth 100000 in
theorem wA_261 : Cond.fieldLinkNest RxA 261 (TxF 4).1 (TxF 4).2.1 (TxF 4).2.2.1 xHost ∈ Tb := tb_1 (List.mem_of_getElem? (i := 146) rfl)
set_option maxRecDepth 100000 in
theorem wA_264 : Cond.fieldLinkNest RxA 264 (TxF 2).1 (TxF 2).2.1 (TxF 2).2.2.1 xHost ∈ Tb := tb_1 (List.mem_of_getElem? (i := 142) rfl)
set_option maxRecDepth 100000 in
theorem wA_265 : Cond.fieldLinkNest RxA 265 (TxF 1).1 (TxF 1).2.1 (TxF 1).2.2.1 xHost ∈ Tb := tb_1 (List.mem_of_getElem? (i := 140) rfl)
set_option maxRecDepth 100000 in
theorem wA_268 : Cond.fieldLinkNest RxA 268 (TxC 2).1 (TxC 2).2.1 (TxC 2).2.2.1 xHost ∈ Tb := tb_1 (List.mem_of_getElem? (i := 167) rfl)
set_option maxRecDepth 100000 in
theorem wA_278 : Cond.fieldLinkNest RxA 278 (TxC 3).1 (TxC 3).2.1 (TxC 3).2.2.1 xHost ∈ Tb := tb_1 (List.mem_of_getElem? (i := 169) rfl)
set_option maxRecDepth 100000 in
theorem wA_29 : Cond.fieldLink RxA 29 (TxA 4).1 (TxA 4).2.1 (TxA 4).2.2.1 ∈ Tb := tb_2 (List.mem_of_getElem? (i := 12) rfl)
set_option maxRecDepth 100000 in
theorem wA_303 : Cond.fieldLinkNest RxA 303 (TxK 0).1 (TxK 0).2.1 (TxK 0).2.2.1 xHost ∈ Tb := tb_1 (List.mem_of_getElem? (i := 33) rfl)
set_option maxRecDepth 100000 in
theorem wA_341 : Cond.fieldLinkNest RxA 341 (TxF 0).1 (TxF 0).2.1 (TxF 0).2.2.1 xHost ∈ Tb := tb_1 (List.mem_of_getElem? (i := 138) rfl)
set_option maxRecDepth 100000 in
theorem wA_36 : Cond.fieldLink RxA 36 (TxA 5).1 (TxA 5).2.1 (TxA 5).2.2.1 ∈ Tb := tb_2 (List.mem_of_getElem? (i := 13) rfl)
set_option maxRecDepth 100000 in
theorem wA_43 : Cond.fieldLink RxA 43 (TxA 6).1 (TxA 6).2.1 (TxA 6).2.2.1 ∈ Tb := tb_2 (List.mem_of_getElem? (i := 14) rfl)
set_option maxRecDepth 100000 in
theorem wA_49 : Cond.fieldLink RxA 49 (TxA 7).1 (TxA 7).2.1 (TxA 7).2.2.1 ∈ Tb := tb_2 (List.mem_of_getElem? (i := 15) rfl)
set_option maxRecDepth 100000 in
theorem wA_53 : Cond.fieldLink RxA 53 (TxA 8).1 (TxA 8).2.1 (TxA 8).2.2.1 ∈ Tb := tb_2 (List.mem_of_getElem? (i := 16) rfl)
set_option maxRecDepth 100000 in
theorem wA_59 : Cond.fieldLink RxA 59 (TxA 9).1 (TxA 9).2.1 (TxA 9).2.2.1 ∈ Tb := tb_2 (List.mem_of_getElem? (i := 17) rfl)
set_option maxRecDepth 100000 in
theorem wA_66 : Cond.fieldLink RxA 66 (TxA 10).1 (TxA 10).2.1 (TxA 10).2.2.1 ∈ Tb := tb_2 (List.mem_of_getElem? (i := 18) rfl)
set_option maxRecDepth 100000 in
theorem wA_73 : Cond.fieldLink RxA 73 (TxA 11).1 (TxA 11).2.1 (TxA 11).2.2.1 ∈ Tb := tb_2 (List.mem_of_getElem? (i := 19) rfl)
set_option maxRecDepth 100000 in
theorem wA_77 : Cond.fieldLink RxA 77 (TxA 12).1 (TxA 12).2.1 (TxA 12).2.2.1 ∈ Tb := tb_2 (List.mem_of_getElem? (i := 20) rfl)
set_option maxRecDepth 100000 in
theorem wA_80 : Cond.fieldLink RxA 80 (TxA 13).1 (TxA 13).2.1 (TxA 13).2.2.1 ∈ Tb := tb_2 (List.mem_of_getElem? (i := 21) rfl)
set_option maxRecDepth 100000 in
theorem wA_83 : Cond.fieldLink RxA 83 (TxA 14).1 (TxA 14).2.1 (TxA 14).2.2.1 ∈ Tb := tb_2 (List.mem_of_getElem? (i := 22) rfl)
set_option maxRecDepth 100000 in
theorem wA_86 : Cond.fieldLink RxA 86 (TxA 15).1 (TxA 15).2.1 (TxA 15).2.2.1 ∈ Tb := tb_2 (List.mem_of_getElem? (i := 23) rfl)
set_option maxRecDepth 100000 in
theorem wA_89 : Cond.fieldLink RxA 89 (TxA 16).1 (TxA 16).2.1 (TxA 16).2.2.1 ∈ Tb := tb_2 (List.mem_of_getElem? (i := 24) rfl)
set_option maxRecDepth 100000 in
theorem wA_92 : Cond.fieldLink RxA 92 (TxA 17).1 (TxA 17).2.1 (TxA 17).2.2.1 ∈ Tb := tb_2 (List.mem_of_getElem? (i := 25) rfl)
set_option maxRecDepth 100000 in
theorem wM_110 : Cond.fieldLink RxM 110 (TxM 4).1 (TxM 4).2.1 (TxM 4).2.2.1 ∈ Tb := tb_3 (List.mem_of_getElem? (i := 108) rfl)
set_option maxRecDepth 100000 in
theorem wM_13 : Cond.fieldLink RxM 13 (TxM 1).1 (TxM 1).2.1 (TxM 1).2.2.1 ∈ Tb := tb_3 (List.mem_of_getElem? (i := 105) rfl)
set_option maxRecDepth 100000 in
theorem wM_130 : Cond.fieldLink RxM 130 (TxM 20).1 (TxM 20).2.1 (TxM 20).2.2.1 ∈ Tb := tb_3 (List.mem_of_getElem? (i := 124) rfl)
set_option maxRecDepth 100000 in
theorem wM_165 : Cond.fieldLink RxM 165 (TxM 21).1 (TxM 21).2.1 (TxM 21).2.2.1 ∈ Tb := tb_3 (List.mem_of_getElem? (i := 125) rfl)
set_option maxRecDepth 100000 in
theorem wM_17 : Cond.fieldLink RxM 17 (TxM 2).1 (TxM 2).2.1 (TxM 2).2.2.1 ∈ Tb := tb_3 (List.mem_of_getElem? (i := 106) rfl)
set_option maxRecDepth 100000 in
theorem wM_180 : Cond.fieldLink RxM 180 (TxM 35).1 (TxM 35).2.1 (TxM 35).2.2.1 ∈ Tb := tb_3 (List.mem_of_getElem? (i := 139) rfl)
set_option maxRecDepth 100000 in
theorem wM_183 : Cond.fieldLink RxM 183 (TxM 11).1 (TxM 11).2.1 (TxM 11).2.2.1 ∈ Tb := tb_3 (List.mem_of_getElem? (i := 115) rfl)
set_option maxRecDepth 100000 in
theorem wM_186 : Cond.fieldLink RxM 186 (TxM 37).1 (TxM 37).2.1 (TxM 37).2.2.1 ∈ Tb := tb_3 (List.mem_of_getElem? (i := 141) rfl)
set_option maxRecDepth 100000 in
theorem wM_190 : Cond.fieldLink RxM 190 (TxM 12).1 (TxM 12).2.1 (TxM 12).2.2.1 ∈ Tb := tb_3 (List.mem_of_getElem? (i := 116) rfl)
set_option maxRecDepth 100000 in
theorem wM_193 : Cond.fieldLink RxM 193 (TxM 38).1 (TxM 38).2.1 (TxM 38).2.2.1 ∈ Tb := tb_3 (List.mem_of_getElem? (i := 142) rfl)
set_option maxRecDepth 100000 in
theorem wM_196 : Cond.fieldLink RxM 196 (TxM 36).1 (TxM 36).2.1 (TxM 36).2.2.1 ∈ Tb := tb_3 (List.mem_of_getElem? (i := 140) rfl)
set_option maxRecDepth 100000 in
theorem wM_20 : Cond.fieldLink RxM 20 (TxM 3).1 (TxM 3).2.1 (TxM 3).2.2.1 ∈ Tb := tb_3 (List.mem_of_getElem? (i := 107) rfl)
set_option maxRecDepth 100000 in
theorem wM_23 : Cond.fieldLink RxM 23 (TxM 5).1 (TxM 5).2.1 (TxM 5).2.2.1 ∈ Tb := tb_3 (List.mem_of_getElem? (i := 109) rfl)
set_option maxRecDepth 100000 in
theorem wM_26 : Cond.fieldLink RxM 26 (TxM 6).1 (TxM 6).2.1 (TxM 6).2.2.1 ∈ Tb := tb_3 (List.mem_of_getElem? (i := 110) rfl)
set_option maxRecDepth 100000 in
theorem wM_29 : Cond.fieldLink RxM 29 (TxM 7).1 (TxM 7).2.1 (TxM 7).2.2.1 ∈ Tb := tb_3 (List.mem_of_getElem? (i := 111) rfl)
set_option maxRecDepth 100000 in
theorem wM_32 : Cond.fieldLink RxM 32 (TxM 13).1 (TxM 13).2.1 (TxM 13).2.2.1 ∈ Tb := tb_3 (List.mem_of_getElem? (i := 117) rfl)
set_option maxRecDepth 100000 in
theorem wM_35 : Cond.fieldLink RxM 35 (TxM 14).1 (TxM 14).2.1 (TxM 14).2.2.1 ∈ Tb := tb_3 (List.mem_of_getElem? (i := 118) rfl)
set_option maxRecDepth 100000 in
theorem wM_38 : Cond.fieldLink RxM 38 (TxM 15).1 (TxM 15).2.1 (TxM 15).2.2.1 ∈ Tb := tb_3 (List.mem_of_getElem? (i := 119) rfl)
set_option maxRecDepth 100000 in
theorem wM_41 : Cond.fieldLink RxM 41 (TxM 16).1 (TxM 16).2.1 (TxM 16).2.2.1 ∈ Tb := tb_3 (List.mem_of_getElem? (i := 120) rfl)
set_option maxRecDepth 100000 in
theorem wM_44 : Cond.fieldLink RxM 44 (TxM 17).1 (TxM 17).2.1 (TxM 17).2.2.1 ∈ Tb := tb_3 (List.mem_of_getElem? (i := 121) rfl)
set_option maxRecDepth 100000 in
theorem wM_47 : Cond.fieldLink RxM 47 (TxM 18).1 (TxM 18).2.1 (TxM 18).2.2.1 ∈ Tb := tb_3 (List.mem_of_getElem? (i := 122) rfl)
set_option maxRecDepth 100000 in
theorem wM_50 : Cond.fieldLink RxM 50 (TxM 19).1 (TxM 19).2.1 (TxM 19).2.2.1 ∈ Tb := tb_3 (List.mem_of_getElem? (i := 123) rfl)
set_option maxRecDepth 100000 in
theorem wM_53 : Cond.fieldLink RxM 53 (TxM 22).1 (TxM 22).2.1 (TxM 22).2.2.1 ∈ Tb := tb_3 (List.mem_of_getElem? (i := 126) rfl)
set_option maxRecDepth 100000 in
theorem wM_56 : Cond.fieldLink RxM 56 (TxM 23).1 (TxM 23).2.1 (TxM 23).2.2.1 ∈ Tb := tb_3 (List.mem_of_getElem? (i := 127) rfl)
set_option maxRecDepth 100000 in
theorem wM_59 : Cond.fieldLink RxM 59 (TxM 24).1 (TxM 24).2.1 (TxM 24).2.2.1 ∈ Tb := tb_3 (List.mem_of_getElem? (i := 128) rfl)
set_option maxRecDepth 100000 in
theorem wM_62 : Cond.fieldLink RxM 62 (TxM 25).1 (TxM 25).2.1 (TxM 25).2.2.1 ∈ Tb := tb_3 (List.mem_of_getElem? (i := 129) rfl)
set_option maxRecDepth 100000 in
theorem wM_65 : Cond.fieldLink RxM 65 (TxM 26).1 (TxM 26).2.1 (TxM 26).2.2.1 ∈ Tb := tb_3 (List.mem_of_getElem? (i := 130) rfl)
set_option maxRecDepth 100000 in
theorem wM_68 : Cond.fieldLink RxM 68 (TxM 27).1 (TxM 27).2.1 (TxM 27).2.2.1 ∈ Tb := tb_3 (List.mem_of_getElem? (i := 131) rfl)
set_option maxRecDepth 100000 in
theorem wM_7 : Cond.fieldLink RxM 7 (TxM 0).1 (TxM 0).2.1 (TxM 0).2.2.1 ∈ Tb := tb_3 (List.mem_of_getElem? (i := 104) rfl)
set_option maxRecDepth 100000 in
theorem wM_71 : Cond.fieldLink RxM 71 (TxM 28).1 (TxM 28).2.1 (TxM 28).2.2.1 ∈ Tb := tb_3 (List.mem_of_getElem? (i := 132) rfl)
set_option maxRecDepth 100000 in
theorem wM_74 : Cond.fieldLink RxM 74 (TxM 31).1 (TxM 31).2.1 (TxM 31).2.2.1 ∈ Tb := tb_3 (List.mem_of_getElem? (i := 135) rfl)
set_option maxRecDepth 100000 in
theorem wM_78 : Cond.fieldLink RxM 78 (TxM 32).1 (TxM 32).2.1 (TxM 32).2.2.1 ∈ Tb := tb_3 (List.mem_of_getElem? (i := 136) rfl)
set_option maxRecDepth 100000 in
theorem wM_81 : Cond.fieldLink RxM 81 (TxM 33).1 (TxM 33).2.1 (TxM 33).2.2.1 ∈ Tb := tb_3 (List.mem_of_getElem? (i := 137) rfl)
set_option maxRecDepth 100000 in
theorem wM_84 : Cond.fieldLink RxM 84 (TxM 34).1 (TxM 34).2.1 (TxM 34).2.2.1 ∈ Tb := tb_3 (List.mem_of_getElem? (i := 138) rfl)
set_option maxRecDepth 100000 in
theorem wM_87 : Cond.fieldLink RxM 87 (TxM 10).1 (TxM 10).2.1 (TxM 10).2.2.1 ∈ Tb := tb_3 (List.mem_of_getElem? (i := 114) rfl)
set_option maxRecDepth 100000 in
theorem wM_90 : Cond.fieldLink RxM 90 (TxM 9).1 (TxM 9).2.1 (TxM 9).2.2.1 ∈ Tb := tb_3 (List.mem_of_getElem? (i := 113) rfl)
set_option maxRecDepth 100000 in
theorem wM_93 : Cond.fieldLink RxM 93 (TxM 29).1 (TxM 29).2.1 (TxM 29).2.2.1 ∈ Tb := tb_3 (List.mem_of_getElem? (i := 133) rfl)
set_option maxRecDepth 100000 in
theorem wM_96 : Cond.fieldLink RxM 96 (TxM 8).1 (TxM 8).2.1 (TxM 8).2.2.1 ∈ Tb := tb_3 (List.mem_of_getElem? (i := 112) rfl)
set_option maxRecDepth 100000 in
theorem wM_99 : Cond.fieldLink RxM 99 (TxM 30).1 (TxM 30).2.1 (TxM 30).2.2.1 ∈ Tb := tb_3 (List.mem_of_getElem? (i := 134) rfl)
set_option maxRecDepth 100000 in
theorem wC_25 : Cond.methodLink RxC 25 Lib.Math.min.name ∈ Tb := tb_3 (List.mem_of_getElem? (i := 1) rfl)
set_option maxRecDepth 100000 in
theorem wK_21 : Cond.methodLink RxK 21 Lib.Math.max.name ∈ Tb := tb_2 (List.mem_of_getElem? (i := 112) rfl)
set_option maxRecDepth 100000 in
theorem wA_285 : Cond.methodLink RxA 285 Lib.Math.max.name ∈ Tb := tb_2 (List.mem_of_getElem? (i := 86) rfl)
set_option maxRecDepth 100000 in
theorem wH_3 : Cond.methodLink RxH 3 Lib.objectInit ∈ Tb := tb_2 (List.mem_of_getElem? (i := 125) rfl)
set_option maxRecDepth 100000 in
theorem xk_Q_add : xk yQ_add bQ_add 3 none 2 := ⟨tb_2 (List.mem_of_getElem? (i := 201) rfl), tb_1 (List.mem_of_getElem? (i := 3) rfl), by decide +kernel, by decide⟩
set_option maxRecDepth 100000 in
theorem kQ_22 : xkV RxQ 22 RxQ yQ_add bQ_add 3 none 2 := ⟨xk_Q_add, tb_2 (List.mem_of_getElem? (i := 198) rfl), tb_2 (List.mem_of_getElem? (i := 200) rfl), tb_0 (List.mem_of_getElem? (i := 20) rfl)⟩
set_option maxRecDepth 100000 in
theorem xk_D_canDo : xk yD_canDo bD_canDo 3 (some .boolean) 2 := ⟨tb_2 (List.mem_of_getElem? (i := 176) rfl), tb_1 (List.mem_of_getElem? (i := 9) rfl), by decide +kernel, by decide⟩
set_option maxRecDepth 100000 in
theorem kQ_26 : xkVN RxQ 26 RxD yD_canDo bD_canDo 3 (some .boolean) 2 := ⟨xk_D_canDo, tb_2 (List.mem_of_getElem? (i := 173) rfl), tb_2 (List.mem_of_getElem? (i := 175) rfl), tb_0 (List.mem_of_getElem? (i := 14) rfl)⟩
set_option maxRecDepth 100000 in
theorem xk_D_realResult : xk yD_realResult bD_realResult 2 (some .int) 1 := ⟨tb_3 (List.mem_of_getElem? (i := 30) rfl), tb_1 (List.mem_of_getElem? (i := 9) rfl), by decide +kernel, by decide⟩
set_option maxRecDepth 100000 in
theorem kQ_46 : xkVN RxQ 46 RxD yD_realResult bD_realResult 2 (some .int) 1 := ⟨xk_D_realResult, tb_3 (List.mem_of_getElem? (i := 27) rfl), tb_3 (List.mem_of_getElem? (i := 29) rfl), tb_0 (List.mem_of_getElem? (i := 34) rfl)⟩
set_option maxRecDepth 100000 in
theorem xk_H_sizeOf : xk yH_sizeOf bH_sizeOf 1 (some .int) 1 := ⟨tb_2 (List.mem_of_getElem? (i := 115) rfl), tb_1 (List.mem_of_getElem? (i := 13) rfl), by decide +kernel, by decide⟩
set_option maxRecDepth 100000 in
theorem kH_25 : xkS RxH 25 yH_sizeOf bH_sizeOf 1 (some .int) 1 := ⟨xk_H_sizeOf, tb_2 (List.mem_of_getElem? (i := 126) rfl), tb_2 (List.mem_of_getElem? (i := 114) rfl)⟩
set_option maxRecDepth 100000 in
theorem xk_H_accepts : xk yH_accepts bH_accepts 2 (some .boolean) 2 := ⟨tb_2 (List.mem_of_getElem? (i := 216) rfl), tb_1 (List.mem_of_getElem? (i := 13) rfl), by decide +kernel, by decide⟩
set_option maxRecDepth 100000 in
theorem kH_32 : xkS RxH 32 yH_accepts bH_accepts 2 (some .boolean) 2 := ⟨xk_H_accepts, tb_2 (List.mem_of_getElem? (i := 217) rfl), tb_2 (List.mem_of_getElem? (i := 215) rfl)⟩
set_option maxRecDepth 100000 in
theorem kP_32 : xkSN RxP 32 yH_accepts bH_accepts 2 (some .boolean) 2 := ⟨xk_H_accepts, tb_2 (List.mem_of_getElem? (i := 214) rfl), tb_2 (List.mem_of_getElem? (i := 215) rfl)⟩
set_option maxRecDepth 100000 in
theorem kK_27 : xkSN RxK 27 yH_sizeOf bH_sizeOf 1 (some .int) 1 := ⟨xk_H_sizeOf, tb_2 (List.mem_of_getElem? (i := 113) rfl), tb_2 (List.mem_of_getElem? (i := 114) rfl)⟩
set_option maxRecDepth 100000 in
theorem xk_Q_spokenTo : xk yQ_spokenTo bQ_spokenTo 4 (some .long) 3 := ⟨tb_3 (List.mem_of_getElem? (i := 25) rfl), tb_1 (List.mem_of_getElem? (i := 3) rfl), by decide +kernel, by decide⟩
set_option maxRecDepth 100000 in
theorem kT_37 : xkVN RxT 37 RxQ yQ_spokenTo bQ_spokenTo 4 (some .long) 3 := ⟨xk_Q_spokenTo, tb_3 (List.mem_of_getElem? (i := 22) rfl), tb_3 (List.mem_of_getElem? (i := 24) rfl), tb_0 (List.mem_of_getElem? (i := 33) rfl)⟩
set_option maxRecDepth 100000 in
theorem xk_A_misuseOfPlainStep : xk yA_misuseOfPlainStep bA_misuseOfPlainStep 2 (some .int) 1 := ⟨tb_2 (List.mem_of_getElem? (i := 73) rfl), tb_1 (List.mem_of_getElem? (i := 1) rfl), by decide +kernel, by decide⟩
set_option maxRecDepth 100000 in
theorem kA_101 : xkV RxA 101 RxA yA_misuseOfPlainStep bA_misuseOfPlainStep 2 (some .int) 1 := ⟨xk_A_misuseOfPlainStep, tb_2 (List.mem_of_getElem? (i := 70) rfl), tb_2 (List.mem_of_getElem? (i := 72) rfl), tb_0 (List.mem_of_getElem? (i := 0) rfl)⟩
set_option maxRecDepth 100000 in
theorem xk_A_idleWith : xk yA_idleWith bA_idleWith 2 (some .int) 1 := ⟨tb_2 (List.mem_of_getElem? (i := 96) rfl), tb_1 (List.mem_of_getElem? (i := 1) rfl), by decide +kernel, by decide⟩
set_option maxRecDepth 100000 in
theorem kA_112 : xkV RxA 112 RxA yA_idleWith bA_idleWith 2 (some .int) 1 := ⟨xk_A_idleWith, tb_2 (List.mem_of_getElem? (i := 93) rfl), tb_2 (List.mem_of_getElem? (i := 95) rfl), tb_0 (List.mem_of_getElem? (i := 5) rfl)⟩
set_option maxRecDepth 100000 in
theorem xk_H_takenBy : xk yH_takenBy bH_takenBy 1 (some .int) 1 := ⟨tb_2 (List.mem_of_getElem? (i := 107) rfl), tb_1 (List.mem_of_getElem? (i := 13) rfl), by decide +kernel, by decide⟩
set_option maxRecDepth 100000 in
theorem kA_116 : xkSN RxA 116 yH_takenBy bH_takenBy 1 (some .int) 1 := ⟨xk_H_takenBy, tb_2 (List.mem_of_getElem? (i := 105) rfl), tb_2 (List.mem_of_getElem? (i := 106) rfl)⟩
set_option maxRecDepth 100000 in
theorem xk_K_hasRoomFor : xk yK_hasRoomFor bK_hasRoomFor 4 (some .boolean) 1 := ⟨tb_2 (List.mem_of_getElem? (i := 111) rfl), tb_1 (List.mem_of_getElem? (i := 2) rfl), by decide +kernel, by decide⟩
set_option maxRecDepth 100000 in
theorem kA_124 : xkVN RxA 124 RxK yK_hasRoomFor bK_hasRoomFor 4 (some .boolean) 1 := ⟨xk_K_hasRoomFor, tb_2 (List.mem_of_getElem? (i := 108) rfl), tb_2 (List.mem_of_getElem? (i := 110) rfl), tb_0 (List.mem_of_getElem? (i := 6) rfl)⟩
set_option maxRecDepth 100000 in
theorem xk_A_lacksAnswers : xk yA_lacksAnswers bA_lacksAnswers 1 (some .boolean) 0 := ⟨tb_2 (List.mem_of_getElem? (i := 81) rfl), tb_1 (List.mem_of_getElem? (i := 1) rfl), by decide +kernel, by decide⟩
set_option maxRecDepth 100000 in
theorem kA_128 : xkV RxA 128 RxA yA_lacksAnswers bA_lacksAnswers 1 (some .boolean) 0 := ⟨xk_A_lacksAnswers, tb_2 (List.mem_of_getElem? (i := 78) rfl), tb_2 (List.mem_of_getElem? (i := 80) rfl), tb_0 (List.mem_of_getElem? (i := 2) rfl)⟩
set_option maxRecDepth 100000 in
theorem xk_A_misuseIf : xk yA_misuseIf bA_misuseIf 4 (some .int) 3 := ⟨tb_2 (List.mem_of_getElem? (i := 92) rfl), tb_1 (List.mem_of_getElem? (i := 1) rfl), by decide +kernel, by decide⟩
set_option maxRecDepth 100000 in
theorem kA_132 : xkV RxA 132 RxA yA_misuseIf bA_misuseIf 4 (some .int) 3 := ⟨xk_A_misuseIf, tb_2 (List.mem_of_getElem? (i := 89) rfl), tb_2 (List.mem_of_getElem? (i := 91) rfl), tb_0 (List.mem_of_getElem? (i := 4) rfl)⟩
set_option maxRecDepth 100000 in
theorem xk_K_pop : xk yK_pop bK_pop 1 (some (.object "StandIns$Matcher")) 0 := ⟨tb_2 (List.mem_of_getElem? (i := 119) rfl), tb_1 (List.mem_of_getElem? (i := 2) rfl), by decide +kernel, by decide⟩
set_option maxRecDepth 100000 in
theorem kA_136 : xkVN RxA 136 RxK yK_pop bK_pop 1 (some (.object "StandIns$Matcher")) 0 := ⟨xk_K_pop, tb_2 (List.mem_of_getElem? (i := 116) rfl), tb_2 (List.mem_of_getElem? (i := 118) rfl), tb_0 (List.mem_of_getElem? (i := 7) rfl)⟩
set_option maxRecDepth 100000 in
theorem xk_H_init : xk yH_init bH_init 5 none 4 := ⟨tb_2 (List.mem_of_getElem? (i := 124) rfl), tb_1 (List.mem_of_getElem? (i := 13) rfl), by decide +kernel, by decide⟩
set_option maxRecDepth 100000 in
theorem kA_140 : xkIN RxA 140 yH_init bH_init 5 4 := ⟨xk_H_init, tb_2 (List.mem_of_getElem? (i := 122) rfl), tb_2 (List.mem_of_getElem? (i := 123) rfl), rfl⟩
set_option maxRecDepth 100000 in
theorem xk_K_push : xk yK_push bK_push 2 none 1 := ⟨tb_2 (List.mem_of_getElem? (i := 146) rfl), tb_1 (List.mem_of_getElem? (i := 2) rfl), by decide +kernel, by decide⟩
set_option maxRecDepth 100000 in
theorem kA_143 : xkVN RxA 143 RxK yK_push bK_push 2 none 1 := ⟨xk_K_push, tb_2 (List.mem_of_getElem? (i := 143) rfl), tb_2 (List.mem_of_getElem? (i := 145) rfl), tb_0 (List.mem_of_getElem? (i := 8) rfl)⟩
set_option maxRecDepth 100000 in
theorem xk_A_awaitsCall : xk yA_awaitsCall bA_awaitsCall 1 (some .boolean) 0 := ⟨tb_2 (List.mem_of_getElem? (i := 77) rfl), tb_1 (List.mem_of_getElem? (i := 1) rfl), by decide +kernel, by decide⟩
set_option maxRecDepth 100000 in
theorem kA_147 : xkV RxA 147 RxA yA_awaitsCall bA_awaitsCall 1 (some .boolean) 0 := ⟨xk_A_awaitsCall, tb_2 (List.mem_of_getElem? (i := 74) rfl), tb_2 (List.mem_of_getElem? (i := 76) rfl), tb_0 (List.mem_of_getElem? (i := 1) rfl)⟩
set_option maxRecDepth 100000 in
theorem xk_A_isStandIn : xk yA_isStandIn bA_isStandIn 2 (some .boolean) 1 := ⟨tb_2 (List.mem_of_getElem? (i := 154) rfl), tb_1 (List.mem_of_getElem? (i := 1) rfl), by decide +kernel, by decide⟩
set_option maxRecDepth 100000 in
theorem kA_150 : xkV RxA 150 RxA yA_isStandIn bA_isStandIn 2 (some .boolean) 1 := ⟨xk_A_isStandIn, tb_2 (List.mem_of_getElem? (i := 151) rfl), tb_2 (List.mem_of_getElem? (i := 153) rfl), tb_0 (List.mem_of_getElem? (i := 9) rfl)⟩
set_option maxRecDepth 100000 in
theorem xk_A_hasNoRoomForCallOf : xk yA_hasNoRoomForCallOf bA_hasNoRoomForCallOf 2 (some .boolean) 1 := ⟨tb_2 (List.mem_of_getElem? (i := 159) rfl), tb_1 (List.mem_of_getElem? (i := 1) rfl), by decide +kernel, by decide⟩
set_option maxRecDepth 100000 in
theorem kA_155 : xkV RxA 155 RxA yA_hasNoRoomForCallOf bA_hasNoRoomForCallOf 2 (some .boolean) 1 := ⟨xk_A_hasNoRoomForCallOf, tb_2 (List.mem_of_getElem? (i := 156) rfl), tb_2 (List.mem_of_getElem? (i := 158) rfl), tb_0 (List.mem_of_getElem? (i := 10) rfl)⟩
set_option maxRecDepth 100000 in
theorem xk_A_methodOf : xk yA_methodOf bA_methodOf 3 (some (.object "StandIns$Method")) 2 := ⟨tb_2 (List.mem_of_getElem? (i := 164) rfl), tb_1 (List.mem_of_getElem? (i := 1) rfl), by decide +kernel, by decide⟩
set_option maxRecDepth 100000 in
theorem kA_160 : xkV RxA 160 RxA yA_methodOf bA_methodOf 3 (some (.object "StandIns$Method")) 2 := ⟨xk_A_methodOf, tb_2 (List.mem_of_getElem? (i := 161) rfl), tb_2 (List.mem_of_getElem? (i := 163) rfl), tb_0 (List.mem_of_getElem? (i := 11) rfl)⟩
set_option maxRecDepth 100000 in
theorem xk_A_misuseOfCall : xk yA_misuseOfCall bA_misuseOfCall 5 (some .int) 2 := ⟨tb_2 (List.mem_of_getElem? (i := 168) rfl), tb_1 (List.mem_of_getElem? (i := 1) rfl), by decide +kernel, by decide⟩
set_option maxRecDepth 100000 in
theorem kA_164 : xkV RxA 164 RxA yA_misuseOfCall bA_misuseOfCall 5 (some .int) 2 := ⟨xk_A_misuseOfCall, tb_2 (List.mem_of_getElem? (i := 165) rfl), tb_2 (List.mem_of_getElem? (i := 167) rfl), tb_0 (List.mem_of_getElem? (i := 12) rfl)⟩
set_option maxRecDepth 100000 in
theorem xk_A_matcherOf : xk yA_matcherOf bA_matcherOf 4 (some (.object "StandIns$Matcher")) 3 := ⟨tb_2 (List.mem_of_getElem? (i := 181) rfl), tb_1 (List.mem_of_getElem? (i := 1) rfl), by decide +kernel, by decide⟩
set_option maxRecDepth 100000 in
theorem kA_176 : xkV RxA 176 RxA yA_matcherOf bA_matcherOf 4 (some (.object "StandIns$Matcher")) 3 := ⟨xk_A_matcherOf, tb_2 (List.mem_of_getElem? (i := 178) rfl), tb_2 (List.mem_of_getElem? (i := 180) rfl), tb_0 (List.mem_of_getElem? (i := 15) rfl)⟩
set_option maxRecDepth 100000 in
theorem xk_A_tellPrepared : xk yA_tellPrepared bA_tellPrepared 1 (some .long) 0 := ⟨tb_2 (List.mem_of_getElem? (i := 185) rfl), tb_1 (List.mem_of_getElem? (i := 1) rfl), by decide +kernel, by decide⟩
set_option maxRecDepth 100000 in
theorem kA_187 : xkV RxA 187 RxA yA_tellPrepared bA_tellPrepared 1 (some .long) 0 := ⟨xk_A_tellPrepared, tb_2 (List.mem_of_getElem? (i := 182) rfl), tb_2 (List.mem_of_getElem? (i := 184) rfl), tb_0 (List.mem_of_getElem? (i := 16) rfl)⟩
set_option maxRecDepth 100000 in
theorem xk_A_doCheck : xk yA_doCheck bA_doCheck 1 (some .long) 0 := ⟨tb_2 (List.mem_of_getElem? (i := 205) rfl), tb_1 (List.mem_of_getElem? (i := 1) rfl), by decide +kernel, by decide⟩
set_option maxRecDepth 100000 in
theorem kA_191 : xkV RxA 191 RxA yA_doCheck bA_doCheck 1 (some .long) 0 := ⟨xk_A_doCheck, tb_2 (List.mem_of_getElem? (i := 202) rfl), tb_2 (List.mem_of_getElem? (i := 204) rfl), tb_0 (List.mem_of_getElem? (i := 21) rfl)⟩
set_option maxRecDepth 100000 in
theorem xk_A_noteAndAnswer : xk yA_noteAndAnswer bA_noteAndAnswer 5 (some .long) 3 := ⟨tb_3 (List.mem_of_getElem? (i := 9) rfl), tb_1 (List.mem_of_getElem? (i := 1) rfl), by decide +kernel, by decide⟩
set_option maxRecDepth 100000 in
theorem kA_194 : xkV RxA 194 RxA yA_noteAndAnswer bA_noteAndAnswer 5 (some .long) 3 := ⟨xk_A_noteAndAnswer, tb_3 (List.mem_of_getElem? (i := 6) rfl), tb_3 (List.mem_of_getElem? (i := 8) rfl), tb_0 (List.mem_of_getElem? (i := 29) rfl)⟩
set_option maxRecDepth 100000 in
theorem xk_B_takeBackLast : xk yB_takeBackLast bB_takeBackLast 1 none 0 := ⟨tb_3 (List.mem_of_getElem? (i := 40) rfl), tb_1 (List.mem_of_getElem? (i := 4) rfl), by decide +kernel, by decide⟩
set_option maxRecDepth 100000 in
theorem kA_198 : xkVN RxA 198 RxB yB_takeBackLast bB_takeBackLast 1 none 0 := ⟨xk_B_takeBackLast, tb_3 (List.mem_of_getElem? (i := 37) rfl), tb_3 (List.mem_of_getElem? (i := 39) rfl), tb_0 (List.mem_of_getElem? (i := 35) rfl)⟩
set_option maxRecDepth 100000 in
theorem xk_A_beginTelling : xk yA_beginTelling bA_beginTelling 1 none 0 := ⟨tb_2 (List.mem_of_getElem? (i := 189) rfl), tb_1 (List.mem_of_getElem? (i := 1) rfl), by decide +kernel, by decide⟩
set_option maxRecDepth 100000 in
theorem kA_201 : xkV RxA 201 RxA yA_beginTelling bA_beginTelling 1 none 0 := ⟨xk_A_beginTelling, tb_2 (List.mem_of_getElem? (i := 186) rfl), tb_2 (List.mem_of_getElem? (i := 188) rfl), tb_0 (List.mem_of_getElem? (i := 17) rfl)⟩
set_option maxRecDepth 100000 in
theorem xk_A_isAnswer : xk yA_isAnswer bA_isAnswer 2 (some .boolean) 2 := ⟨tb_3 (List.mem_of_getElem? (i := 47) rfl), tb_1 (List.mem_of_getElem? (i := 1) rfl), by decide +kernel, by decide⟩
set_option maxRecDepth 100000 in
theorem kA_204 : xkS RxA 204 yA_isAnswer bA_isAnswer 2 (some .boolean) 2 := ⟨xk_A_isAnswer, tb_3 (List.mem_of_getElem? (i := 45) rfl), tb_3 (List.mem_of_getElem? (i := 46) rfl)⟩
set_option maxRecDepth 100000 in
theorem xk_A_latestTelling : xk yA_latestTelling bA_latestTelling 1 (some (.object "StandIns$Telling")) 0 := ⟨tb_2 (List.mem_of_getElem? (i := 85) rfl), tb_1 (List.mem_of_getElem? (i := 1) rfl), by decide +kernel, by decide⟩
set_option maxRecDepth 100000 in
theorem kA_207 : xkV RxA 207 RxA yA_latestTelling bA_latestTelling 1 (some (.object "StandIns$Telling")) 0 := ⟨xk_A_latestTelling, tb_2 (List.mem_of_getElem? (i := 82) rfl), tb_2 (List.mem_of_getElem? (i := 84) rfl), tb_0 (List.mem_of_getElem? (i := 3) rfl)⟩
set_option maxRecDepth 100000 in
theorem kA_215 : xkVN RxA 215 RxD yD_canDo bD_canDo 3 (some .boolean) 2 := ⟨xk_D_canDo, tb_3 (List.mem_of_getElem? (i := 48) rfl), tb_2 (List.mem_of_getElem? (i := 175) rfl), tb_0 (List.mem_of_getElem? (i := 14) rfl)⟩
set_option maxRecDepth 100000 in
theorem kA_218 : xkVN RxA 218 RxQ yQ_add bQ_add 3 none 2 := ⟨xk_Q_add, tb_3 (List.mem_of_getElem? (i := 49) rfl), tb_2 (List.mem_of_getElem? (i := 200) rfl), tb_0 (List.mem_of_getElem? (i := 20) rfl)⟩
set_option maxRecDepth 100000 in
theorem xk_B_firstUnseenOf : xk yB_firstUnseenOf bB_firstUnseenOf 3 (some .int) 1 := ⟨tb_3 (List.mem_of_getElem? (i := 65) rfl), tb_1 (List.mem_of_getElem? (i := 4) rfl), by decide +kernel, by decide⟩
set_option maxRecDepth 100000 in
theorem kA_222 : xkVN RxA 222 RxB yB_firstUnseenOf bB_firstUnseenOf 3 (some .int) 1 := ⟨xk_B_firstUnseenOf, tb_3 (List.mem_of_getElem? (i := 62) rfl), tb_3 (List.mem_of_getElem? (i := 64) rfl), tb_0 (List.mem_of_getElem? (i := 36) rfl)⟩
set_option maxRecDepth 100000 in
theorem xk_C_beforeLatest : xk yC_beforeLatest bC_beforeLatest 3 (some .int) 1 := ⟨tb_3 (List.mem_of_getElem? (i := 89) rfl), tb_1 (List.mem_of_getElem? (i := 7) rfl), by decide +kernel, by decide⟩
set_option maxRecDepth 100000 in
theorem kA_271 : xkVN RxA 271 RxC yC_beforeLatest bC_beforeLatest 3 (some .int) 1 := ⟨xk_C_beforeLatest, tb_3 (List.mem_of_getElem? (i := 86) rfl), tb_3 (List.mem_of_getElem? (i := 88) rfl), tb_0 (List.mem_of_getElem? (i := 37) rfl)⟩
set_option maxRecDepth 100000 in
theorem xk_A_tellingsNeverUsed : xk yA_tellingsNeverUsed bA_tellingsNeverUsed 3 (some .int) 0 := ⟨tb_3 (List.mem_of_getElem? (i := 97) rfl), tb_1 (List.mem_of_getElem? (i := 1) rfl), by decide +kernel, by decide⟩
set_option maxRecDepth 100000 in
theorem kA_274 : xkV RxA 274 RxA yA_tellingsNeverUsed bA_tellingsNeverUsed 3 (some .int) 0 := ⟨xk_A_tellingsNeverUsed, tb_3 (List.mem_of_getElem? (i := 94) rfl), tb_3 (List.mem_of_getElem? (i := 96) rfl), tb_0 (List.mem_of_getElem? (i := 38) rfl)⟩
set_option maxRecDepth 100000 in
theorem xk_Q_allDoFor : xk yQ_allDoFor bQ_allDoFor 3 (some .boolean) 1 := ⟨tb_2 (List.mem_of_getElem? (i := 172) rfl), tb_1 (List.mem_of_getElem? (i := 3) rfl), by decide +kernel, by decide⟩
set_option maxRecDepth 100000 in
theorem kA_281 : xkVN RxA 281 RxQ yQ_allDoFor bQ_allDoFor 3 (some .boolean) 1 := ⟨xk_Q_allDoFor, tb_2 (List.mem_of_getElem? (i := 169) rfl), tb_2 (List.mem_of_getElem? (i := 171) rfl), tb_0 (List.mem_of_getElem? (i := 13) rfl)⟩
set_option maxRecDepth 100000 in
theorem xk_P_copy : xk yP_copy bP_copy 2 none 1 := ⟨tb_2 (List.mem_of_getElem? (i := 193) rfl), tb_1 (List.mem_of_getElem? (i := 8) rfl), by decide +kernel, by decide⟩
set_option maxRecDepth 100000 in
theorem kA_291 : xkVN RxA 291 RxP yP_copy bP_copy 2 none 1 := ⟨xk_P_copy, tb_2 (List.mem_of_getElem? (i := 190) rfl), tb_2 (List.mem_of_getElem? (i := 192) rfl), tb_0 (List.mem_of_getElem? (i := 18) rfl)⟩
set_option maxRecDepth 100000 in
theorem xk_Q_takeAllOf : xk yQ_takeAllOf bQ_takeAllOf 3 none 1 := ⟨tb_2 (List.mem_of_getElem? (i := 197) rfl), tb_1 (List.mem_of_getElem? (i := 3) rfl), by decide +kernel, by decide⟩
set_option maxRecDepth 100000 in
theorem kA_295 : xkVN RxA 295 RxQ yQ_takeAllOf bQ_takeAllOf 3 none 1 := ⟨xk_Q_takeAllOf, tb_2 (List.mem_of_getElem? (i := 194) rfl), tb_2 (List.mem_of_getElem? (i := 196) rfl), tb_0 (List.mem_of_getElem? (i := 19) rfl)⟩
set_option maxRecDepth 100000 in
theorem xk_P_matches : xk yP_matches bP_matches 2 (some .boolean) 1 := ⟨tb_2 (List.mem_of_getElem? (i := 213) rfl), tb_1 (List.mem_of_getElem? (i := 8) rfl), by decide +kernel, by decide⟩
set_option maxRecDepth 100000 in
theorem kA_299 : xkVN RxA 299 RxP yP_matches bP_matches 2 (some .boolean) 1 := ⟨xk_P_matches, tb_2 (List.mem_of_getElem? (i := 210) rfl), tb_2 (List.mem_of_getElem? (i := 212) rfl), tb_0 (List.mem_of_getElem? (i := 23) rfl)⟩
set_option maxRecDepth 100000 in
theorem xk_B_add : xk yB_add bB_add 5 (some (.object "StandIns$Note")) 3 := ⟨tb_3 (List.mem_of_getElem? (i := 13) rfl), tb_1 (List.mem_of_getElem? (i := 4) rfl), by decide +kernel, by decide⟩
set_option maxRecDepth 100000 in
theorem kA_307 : xkVN RxA 307 RxB yB_add bB_add 5 (some (.object "StandIns$Note")) 3 := ⟨xk_B_add, tb_3 (List.mem_of_getElem? (i := 10) rfl), tb_3 (List.mem_of_getElem? (i := 12) rfl), tb_0 (List.mem_of_getElem? (i := 30) rfl)⟩
set_option maxRecDepth 100000 in
theorem xk_A_tellingFor : xk yA_tellingFor bA_tellingFor 3 (some .int) 1 := ⟨tb_3 (List.mem_of_getElem? (i := 17) rfl), tb_1 (List.mem_of_getElem? (i := 1) rfl), by decide +kernel, by decide⟩
set_option maxRecDepth 100000 in
theorem kA_310 : xkV RxA 310 RxA yA_tellingFor bA_tellingFor 3 (some .int) 1 := ⟨xk_A_tellingFor, tb_3 (List.mem_of_getElem? (i := 14) rfl), tb_3 (List.mem_of_getElem? (i := 16) rfl), tb_0 (List.mem_of_getElem? (i := 31) rfl)⟩
set_option maxRecDepth 100000 in
theorem xk_T_answerTo : xk yT_answerTo bT_answerTo 4 (some .long) 2 := ⟨tb_3 (List.mem_of_getElem? (i := 21) rfl), tb_1 (List.mem_of_getElem? (i := 10) rfl), by decide +kernel, by decide⟩
set_option maxRecDepth 100000 in
theorem kA_314 : xkVN RxA 314 RxT yT_answerTo bT_answerTo 4 (some .long) 2 := ⟨xk_T_answerTo, tb_3 (List.mem_of_getElem? (i := 18) rfl), tb_3 (List.mem_of_getElem? (i := 20) rfl), tb_0 (List.mem_of_getElem? (i := 32) rfl)⟩
set_option maxRecDepth 100000 in
theorem kA_318 : xkVN RxA 318 RxD yD_realResult bD_realResult 2 (some .int) 1 := ⟨xk_D_realResult, tb_3 (List.mem_of_getElem? (i := 31) rfl), tb_3 (List.mem_of_getElem? (i := 29) rfl), tb_0 (List.mem_of_getElem? (i := 34) rfl)⟩
set_option maxRecDepth 100000 in
theorem xk_A_findAbove : xk yA_findAbove bA_findAbove 4 none 1 := ⟨tb_2 (List.mem_of_getElem? (i := 209) rfl), tb_1 (List.mem_of_getElem? (i := 1) rfl), by decide +kernel, by decide⟩
set_option maxRecDepth 100000 in
theorem kA_323 : xkV RxA 323 RxA yA_findAbove bA_findAbove 4 none 1 := ⟨xk_A_findAbove, tb_2 (List.mem_of_getElem? (i := 206) rfl), tb_2 (List.mem_of_getElem? (i := 208) rfl), tb_0 (List.mem_of_getElem? (i := 22) rfl)⟩
set_option maxRecDepth 100000 in
theorem xk_A_passes : xk yA_passes bA_passes 1 (some .boolean) 0 := ⟨tb_2 (List.mem_of_getElem? (i := 225) rfl), tb_1 (List.mem_of_getElem? (i := 1) rfl), by decide +kernel, by decide⟩
set_option maxRecDepth 100000 in
theorem kA_327 : xkV RxA 327 RxA yA_passes bA_passes 1 (some .boolean) 0 := ⟨xk_A_passes, tb_2 (List.mem_of_getElem? (i := 222) rfl), tb_2 (List.mem_of_getElem? (i := 224) rfl), tb_0 (List.mem_of_getElem? (i := 25) rfl)⟩
set_option maxRecDepth 100000 in
theorem xk_A_seeAndCatch : xk yA_seeAndCatch bA_seeAndCatch 3 none 0 := ⟨tb_2 (List.mem_of_getElem? (i := 233) rfl), tb_1 (List.mem_of_getElem? (i := 1) rfl), by decide +kernel, by decide⟩
set_option maxRecDepth 100000 in
theorem kA_330 : xkV RxA 330 RxA yA_seeAndCatch bA_seeAndCatch 3 none 0 := ⟨xk_A_seeAndCatch, tb_2 (List.mem_of_getElem? (i := 230) rfl), tb_2 (List.mem_of_getElem? (i := 232) rfl), tb_0 (List.mem_of_getElem? (i := 27) rfl)⟩
set_option maxRecDepth 100000 in
theorem xk_F_add : xk yF_add bF_add 3 none 2 := ⟨tb_2 (List.mem_of_getElem? (i := 221) rfl), tb_1 (List.mem_of_getElem? (i := 6) rfl), by decide +kernel, by decide⟩
set_option maxRecDepth 100000 in
theorem kA_337 : xkVN RxA 337 RxF yF_add bF_add 3 none 2 := ⟨xk_F_add, tb_2 (List.mem_of_getElem? (i := 218) rfl), tb_2 (List.mem_of_getElem? (i := 220) rfl), tb_0 (List.mem_of_getElem? (i := 24) rfl)⟩
set_option maxRecDepth 100000 in
theorem xk_B_manyOf : xk yB_manyOf bB_manyOf 4 (some .int) 1 := ⟨tb_2 (List.mem_of_getElem? (i := 229) rfl), tb_1 (List.mem_of_getElem? (i := 4) rfl), by decide +kernel, by decide⟩
set_option maxRecDepth 100000 in
theorem kA_338 : xkVN RxA 338 RxB yB_manyOf bB_manyOf 4 (some .int) 1 := ⟨xk_B_manyOf, tb_2 (List.mem_of_getElem? (i := 226) rfl), tb_2 (List.mem_of_getElem? (i := 228) rfl), tb_0 (List.mem_of_getElem? (i := 26) rfl)⟩
set_option maxRecDepth 100000 in
theorem xk_H_isCatch : xk yH_isCatch bH_isCatch 1 (some .boolean) 1 := ⟨tb_2 (List.mem_of_getElem? (i := 236) rfl), tb_1 (List.mem_of_getElem? (i := 13) rfl), by decide +kernel, by decide⟩
set_option maxRecDepth 100000 in
theorem kA_344 : xkSN RxA 344 yH_isCatch bH_isCatch 1 (some .boolean) 1 := ⟨xk_H_isCatch, tb_2 (List.mem_of_getElem? (i := 234) rfl), tb_2 (List.mem_of_getElem? (i := 235) rfl)⟩
set_option maxRecDepth 100000 in
theorem xk_C_add : xk yC_add bC_add 2 none 1 := ⟨tb_3 (List.mem_of_getElem? (i := 0) rfl), tb_1 (List.mem_of_getElem? (i := 7) rfl), by decide +kernel, by decide⟩
set_option maxRecDepth 100000 in
theorem kA_348 : xkVN RxA 348 RxC yC_add bC_add 2 none 1 := ⟨xk_C_add, tb_2 (List.mem_of_getElem? (i := 237) rfl), tb_2 (List.mem_of_getElem? (i := 239) rfl), tb_0 (List.mem_of_getElem? (i := 28) rfl)⟩
set_option maxRecDepth 100000 in
theorem xk_A_isBelow : xk yA_isBelow bA_isBelow 2 (some .boolean) 2 := ⟨tb_2 (List.mem_of_getElem? (i := 69) rfl), tb_1 (List.mem_of_getElem? (i := 1) rfl), by decide +kernel, by decide⟩
set_option maxRecDepth 100000 in
theorem kA_97 : xkS RxA 97 yA_isBelow bA_isBelow 2 (some .boolean) 2 := ⟨xk_A_isBelow, tb_2 (List.mem_of_getElem? (i := 67) rfl), tb_2 (List.mem_of_getElem? (i := 68) rfl)⟩
set_option maxRecDepth 100000 in
theorem xk_M_misuse : xk yM_misuse bM_misuse 7 (some .int) 4 := ⟨tb_3 (List.mem_of_getElem? (i := 237) rfl), tb_1 (List.mem_of_getElem? (i := 11) rfl), by decide +kernel, by decide⟩
set_option maxRecDepth 100000 in
theorem kM_102 : xkV RxM 102 RxM yM_misuse bM_misuse 7 (some .int) 4 := ⟨xk_M_misuse, tb_3 (List.mem_of_getElem? (i := 234) rfl), tb_3 (List.mem_of_getElem? (i := 236) rfl), tb_0 (List.mem_of_getElem? (i := 40) rfl)⟩
set_option maxRecDepth 100000 in
theorem xk_M_in : xk yM_in bM_in 3 (some .boolean) 3 := ⟨tb_3 (List.mem_of_getElem? (i := 229) rfl), tb_1 (List.mem_of_getElem? (i := 11) rfl), by decide +kernel, by decide⟩
set_option maxRecDepth 100000 in
theorem kM_106 : xkS RxM 106 yM_in bM_in 3 (some .boolean) 3 := ⟨xk_M_in, tb_3 (List.mem_of_getElem? (i := 227) rfl), tb_3 (List.mem_of_getElem? (i := 228) rfl)⟩
set_option maxRecDepth 100000 in
theorem xk_M_other : xk yM_other bM_other 3 (some .int) 1 := ⟨tb_3 (List.mem_of_getElem? (i := 233) rfl), tb_1 (List.mem_of_getElem? (i := 11) rfl), by decide +kernel, by decide⟩
set_option maxRecDepth 100000 in
theorem kM_113 : xkV RxM 113 RxM yM_other bM_other 3 (some .int) 1 := ⟨xk_M_other, tb_3 (List.mem_of_getElem? (i := 230) rfl), tb_3 (List.mem_of_getElem? (i := 232) rfl), tb_0 (List.mem_of_getElem? (i := 39) rfl)⟩
set_option maxRecDepth 100000 in
theorem xk_M_single : xk yM_single bM_single 4 none 3 := ⟨tb_4 (List.mem_of_getElem? (i := 9) rfl), tb_1 (List.mem_of_getElem? (i := 11) rfl), by decide +kernel, by decide⟩
set_option maxRecDepth 100000 in
theorem kM_117 : xkV RxM 117 RxM yM_single bM_single 4 none 3 := ⟨xk_M_single, tb_4 (List.mem_of_getElem? (i := 6) rfl), tb_4 (List.mem_of_getElem? (i := 8) rfl), tb_0 (List.mem_of_getElem? (i := 41) rfl)⟩
set_option maxRecDepth 100000 in
theorem xk_M_copy : xk yM_copy bM_copy 5 none 3 := ⟨tb_4 (List.mem_of_getElem? (i := 13) rfl), tb_1 (List.mem_of_getElem? (i := 11) rfl), by decide +kernel, by decide⟩
set_option maxRecDepth 100000 in
theorem kM_121 : xkV RxM 121 RxM yM_copy bM_copy 5 none 3 := ⟨xk_M_copy, tb_4 (List.mem_of_getElem? (i := 10) rfl), tb_4 (List.mem_of_getElem? (i := 12) rfl), tb_0 (List.mem_of_getElem? (i := 42) rfl)⟩
set_option maxRecDepth 100000 in
theorem xk_M_matches : xk yM_matches bM_matches 10 (some .boolean) 2 := ⟨tb_4 (List.mem_of_getElem? (i := 48) rfl), tb_1 (List.mem_of_getElem? (i := 11) rfl), by decide +kernel, by decide⟩
set_option maxRecDepth 100000 in
theorem kM_124 : xkV RxM 124 RxM yM_matches bM_matches 10 (some .boolean) 2 := ⟨xk_M_matches, tb_4 (List.mem_of_getElem? (i := 45) rfl), tb_4 (List.mem_of_getElem? (i := 47) rfl), tb_0 (List.mem_of_getElem? (i := 49) rfl)⟩
set_option maxRecDepth 100000 in
theorem xk_M_shape : xk yM_shape bM_shape 3 (some .int) 2 := ⟨tb_4 (List.mem_of_getElem? (i := 23) rfl), tb_1 (List.mem_of_getElem? (i := 11) rfl), by decide +kernel, by decide⟩
set_option maxRecDepth 100000 in
theorem kM_135 : xkV RxM 135 RxM yM_shape bM_shape 3 (some .int) 2 := ⟨xk_M_shape, tb_4 (List.mem_of_getElem? (i := 20) rfl), tb_4 (List.mem_of_getElem? (i := 22) rfl), tb_0 (List.mem_of_getElem? (i := 43) rfl)⟩
set_option maxRecDepth 100000 in
theorem xk_M_willNotDo : xk yM_willNotDo bM_willNotDo 5 (some .boolean) 3 := ⟨tb_4 (List.mem_of_getElem? (i := 27) rfl), tb_1 (List.mem_of_getElem? (i := 11) rfl), by decide +kernel, by decide⟩
set_option maxRecDepth 100000 in
theorem kM_139 : xkV RxM 139 RxM yM_willNotDo bM_willNotDo 5 (some .boolean) 3 := ⟨xk_M_willNotDo, tb_4 (List.mem_of_getElem? (i := 24) rfl), tb_4 (List.mem_of_getElem? (i := 26) rfl), tb_0 (List.mem_of_getElem? (i := 44) rfl)⟩
set_option maxRecDepth 100000 in
theorem xk_M_tell : xk yM_tell bM_tell 7 none 3 := ⟨tb_4 (List.mem_of_getElem? (i := 32) rfl), tb_1 (List.mem_of_getElem? (i := 11) rfl), by decide +kernel, by decide⟩
set_option maxRecDepth 100000 in
theorem kM_144 : xkV RxM 144 RxM yM_tell bM_tell 7 none 3 := ⟨xk_M_tell, tb_4 (List.mem_of_getElem? (i := 29) rfl), tb_4 (List.mem_of_getElem? (i := 31) rfl), tb_0 (List.mem_of_getElem? (i := 45) rfl)⟩
set_option maxRecDepth 100000 in
theorem xk_M_check_Z2 : xk yM_check_Z2 bM_check_Z2 8 (some .boolean) 2 := ⟨tb_4 (List.mem_of_getElem? (i := 40) rfl), tb_1 (List.mem_of_getElem? (i := 11) rfl), by decide +kernel, by decide⟩
set_option maxRecDepth 100000 in
theorem kM_147 : xkV RxM 147 RxM yM_check_Z2 bM_check_Z2 8 (some .boolean) 2 := ⟨xk_M_check_Z2, tb_4 (List.mem_of_getElem? (i := 37) rfl), tb_4 (List.mem_of_getElem? (i := 39) rfl), tb_0 (List.mem_of_getElem? (i := 47) rfl)⟩
set_option maxRecDepth 100000 in
theorem xk_M_note : xk yM_note bM_note 7 none 4 := ⟨tb_4 (List.mem_of_getElem? (i := 54) rfl), tb_1 (List.mem_of_getElem? (i := 11) rfl), by decide +kernel, by decide⟩
set_option maxRecDepth 100000 in
theorem kM_154 : xkV RxM 154 RxM yM_note bM_note 7 none 4 := ⟨xk_M_note, tb_4 (List.mem_of_getElem? (i := 51) rfl), tb_4 (List.mem_of_getElem? (i := 53) rfl), tb_0 (List.mem_of_getElem? (i := 50) rfl)⟩
set_option maxRecDepth 100000 in
theorem xk_M_answered : xk yM_answered bM_answered 11 (some .long) 1 := ⟨tb_4 (List.mem_of_getElem? (i := 58) rfl), tb_1 (List.mem_of_getElem? (i := 11) rfl), by decide +kernel, by decide⟩
set_option maxRecDepth 100000 in
theorem kM_158 : xkV RxM 158 RxM yM_answered bM_answered 11 (some .long) 1 := ⟨xk_M_answered, tb_4 (List.mem_of_getElem? (i := 55) rfl), tb_4 (List.mem_of_getElem? (i := 57) rfl), tb_0 (List.mem_of_getElem? (i := 51) rfl)⟩
set_option maxRecDepth 100000 in
theorem xk_M_keep : xk yM_keep bM_keep 5 none 3 := ⟨tb_4 (List.mem_of_getElem? (i := 36) rfl), tb_1 (List.mem_of_getElem? (i := 11) rfl), by decide +kernel, by decide⟩
set_option maxRecDepth 100000 in
theorem kM_162 : xkV RxM 162 RxM yM_keep bM_keep 5 none 3 := ⟨xk_M_keep, tb_4 (List.mem_of_getElem? (i := 33) rfl), tb_4 (List.mem_of_getElem? (i := 35) rfl), tb_0 (List.mem_of_getElem? (i := 46) rfl)⟩
set_option maxRecDepth 100000 in
theorem xk_M_real : xk yM_real bM_real 4 (some .int) 3 := ⟨tb_4 (List.mem_of_getElem? (i := 62) rfl), tb_1 (List.mem_of_getElem? (i := 11) rfl), by decide +kernel, by decide⟩
set_option maxRecDepth 100000 in
theorem kM_168 : xkV RxM 168 RxM yM_real bM_real 4 (some .int) 3 := ⟨xk_M_real, tb_4 (List.mem_of_getElem? (i := 59) rfl), tb_4 (List.mem_of_getElem? (i := 61) rfl), tb_0 (List.mem_of_getElem? (i := 52) rfl)⟩
set_option maxRecDepth 100000 in
theorem xk_M_matchesCall : xk yM_matchesCall bM_matchesCall 6 (some .boolean) 4 := ⟨tb_4 (List.mem_of_getElem? (i := 44) rfl), tb_1 (List.mem_of_getElem? (i := 11) rfl), by decide +kernel, by decide⟩
set_option maxRecDepth 100000 in
theorem kM_172 : xkV RxM 172 RxM yM_matchesCall bM_matchesCall 6 (some .boolean) 4 := ⟨xk_M_matchesCall, tb_4 (List.mem_of_getElem? (i := 41) rfl), tb_4 (List.mem_of_getElem? (i := 43) rfl), tb_0 (List.mem_of_getElem? (i := 48) rfl)⟩
