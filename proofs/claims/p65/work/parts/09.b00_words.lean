theorem flS_38 : Cond.fieldLink "java/lang/String" 38 "java/lang/String" "COMPACT_STRINGS" "Z" ∈ tb := tb_t (List.mem_of_getElem? (i := 403) (by decide +kernel)) (by decide +kernel)
theorem flS_15 : Cond.fieldLink "java/lang/String" 15 "java/lang/String" "coder" "B" ∈ tb := tb_t (List.mem_of_getElem? (i := 1865) (by decide +kernel)) (by decide +kernel)
theorem flS_9 : Cond.fieldLink "java/lang/String" 9 "java/lang/String" "value" "[B" ∈ tb := tb_t (List.mem_of_getElem? (i := 1864) (by decide +kernel)) (by decide +kernel)
theorem flS_1053 : Cond.fieldLink "java/lang/String" 1053 "jdk/internal/util/Preconditions" "SIOOBE_FORMATTER" "Ljava/util/function/BiFunction;" ∈ tb := tb_t (List.mem_of_getElem? (i := 419) (by decide +kernel)) (by decide +kernel)
theorem inst_X0 : Cond.instantiable RX0 3 ∈ tb := tb_t (List.mem_of_getElem? (i := 208) (by decide +kernel)) (by decide +kernel)
theorem inst_X1 : Cond.instantiable RX1 7 ∈ tb := tb_t (List.mem_of_getElem? (i := 229) (by decide +kernel)) (by decide +kernel)
theorem inst_X2 : Cond.instantiable RX2 3 ∈ tb := tb_t (List.mem_of_getElem? (i := 268) (by decide +kernel)) (by decide +kernel)
theorem inst_X3 : Cond.instantiable RX3 14 ∈ tb := tb_t (List.mem_of_getElem? (i := 77) (by decide +kernel)) (by decide +kernel)
theorem inst_X4 : Cond.instantiable RX4 1 ∈ tb := tb_t (List.mem_of_getElem? (i := 258) (by decide +kernel)) (by decide +kernel)
theorem inst_X5 : Cond.instantiable RX5 4 ∈ tb := tb_t (List.mem_of_getElem? (i := 187) (by decide +kernel)) (by decide +kernel)
theorem inst_X6 : Cond.instantiable RX6 7 ∈ tb := tb_t (List.mem_of_getElem? (i := 30) (by decide +kernel)) (by decide +kernel)
theorem inst_X7 : Cond.instantiable RX7 4 ∈ tb := tb_t (List.mem_of_getElem? (i := 285) (by decide +kernel)) (by decide +kernel)
theorem inst_X8 : Cond.instantiable RX8 4 ∈ tb := tb_t (List.mem_of_getElem? (i := 160) (by decide +kernel)) (by decide +kernel)
theorem inst_X9 : Cond.instantiable RX9 2 ∈ tb := tb_t (List.mem_of_getElem? (i := 36) (by decide +kernel)) (by decide +kernel)
theorem inst_X10 : Cond.instantiable RX10 12 ∈ tb := tb_t (List.mem_of_getElem? (i := 22) (by decide +kernel)) (by decide +kernel)
theorem inst_X11 : Cond.instantiable RX11 35 ∈ tb := tb_t (List.mem_of_getElem? (i := 1157) (by decide +kernel)) (by decide +kernel)
theorem ao_State : Cond.arrayOver (.object "CallForBrown$State") ∈ lw_tbl := List.mem_append_right _ (List.mem_of_getElem? (i := 183) (by decide +kernel))
theorem ao_Row : Cond.arrayOver (.object "CallForBrown$Row") ∈ lw_tbl := List.mem_append_right _ (List.mem_of_getElem? (i := 185) (by decide +kernel))
theorem ao_Parts : Cond.arrayOver (.object "CallForBrown$Parts") ∈ lw_tbl := List.mem_append_right _ (List.mem_of_getElem? (i := 214) (by decide +kernel))
theorem ao_int2 : Cond.arrayOver (.array .int) ∈ lw_tbl := List.mem_append_right _ (List.mem_of_getElem? (i := 216) (by decide +kernel))
theorem lt64 {P : Nat → Prop} (h0 : P 0) (h1 : P 1) (h2 : P 2) (h3 : P 3) (h4 : P 4) (h5 : P 5) (h6 : P 6) (h7 : P 7) (h8 : P 8) (h9 : P 9) (h10 : P 10) (h11 : P 11) (h12 : P 12) (h13 : P 13) (h14 : P 14) (h15 : P 15) (h16 : P 16) (h17 : P 17) (h18 : P 18) (h19 : P 19) (h20 : P 20) (h21 : P 21) (h22 : P 22) (h23 : P 23) (h24 : P 24) (h25 : P 25) (h26 : P 26) (h27 : P 27) (h28 : P 28) (h29 : P 29) (h30 : P 30) (h31 : P 31) (h32 : P 32) (h33 : P 33) (h34 : P 34) (h35 : P 35) (h36 : P 36) (h37 : P 37) (h38 : P 38) (h39 : P 39) (h40 : P 40) (h41 : P 41) (h42 : P 42) (h43 : P 43) (h44 : P 44) (h45 : P 45) (h46 : P 46) (h47 : P 47) (h48 : P 48) (h49 : P 49) (h50 : P 50) (h51 : P 51) (h52 : P 52) (h53 : P 53) (h54 : P 54) (h55 : P 55) (h56 : P 56) (h57 : P 57) (h58 : P 58) (h59 : P 59) (h60 : P 60) (h61 : P 61) (h62 : P 62) (h63 : P 63) (j : Nat) (hj : j < 64) : P j := match j, hj with
  | 0, _ => h0
  | 1, _ => h1
  | 2, _ => h2
  | 3, _ => h3
  | 4, _ => h4
  | 5, _ => h5
  | 6, _ => h6
  | 7, _ => h7
  | 8, _ => h8
  | 9, _ => h9
  | 10, _ => h10
  | 11, _ => h11
  | 12, _ => h12
  | 13, _ => h13
  | 14, _ => h14
  | 15, _ => h15
  | 16, _ => h16
  | 17, _ => h17
  | 18, _ => h18
  | 19, _ => h19
  | 20, _ => h20
  | 21, _ => h21
  | 22, _ => h22
  | 23, _ => h23
  | 24, _ => h24
  | 25, _ => h25
  | 26, _ => h26
  | 27, _ => h27
  | 28, _ => h28
  | 29, _ => h29
  | 30, _ => h30
  | 31, _ => h31
  | 32, _ => h32
  | 33, _ => h33
  | 34, _ => h34
  | 35, _ => h35
  | 36, _ => h36
  | 37, _ => h37
  | 38, _ => h38
  | 39, _ => h39
  | 40, _ => h40
  | 41, _ => h41
  | 42, _ => h42
  | 43, _ => h43
  | 44, _ => h44
  | 45, _ => h45
  | 46, _ => h46
  | 47, _ => h47
  | 48, _ => h48
  | 49, _ => h49
  | 50, _ => h50
  | 51, _ => h51
  | 52, _ => h52
  | 53, _ => h53
  | 54, _ => h54
  | 55, _ => h55
  | 56, _ => h56
  | 57, _ => h57
  | 58, _ => h58
  | 59, _ => h59
  | 60, _ => h60
  | 61, _ => h61
  | 62, _ => h62
  | 63, _ => h63
  | (k + 64), h => absurd h (by omega)
theorem fl_RX9_9 : Cond.fieldLink RX9 9 (TX9 0).1 (TX9 0).2.1 (TX9 0).2.2.1 ∈ tb := tb_t (List.mem_of_getElem? (i := 41) (by decide +kernel)) (by decide +kernel)
theorem fl_RX6_12 : Cond.fieldLink RX6 12 (TX6 0).1 (TX6 0).2.1 (TX6 0).2.2.1 ∈ tb := tb_t (List.mem_of_getElem? (i := 51) (by decide +kernel)) (by decide +kernel)
theorem fl_RX6_18 : Cond.fieldLink RX6 18 (TX6 6).1 (TX6 6).2.1 (TX6 6).2.2.1 ∈ tb := tb_t (List.mem_of_getElem? (i := 59) (by decide +kernel)) (by decide +kernel)
theorem fl_RX3_9 : Cond.fieldLink RX3 9 (TX3 7).1 (TX3 7).2.1 (TX3 7).2.2.1 ∈ tb := tb_t (List.mem_of_getElem? (i := 110) (by decide +kernel)) (by decide +kernel)
theorem fl_RX3_15 : Cond.fieldLink RX3 15 (TX3 8).1 (TX3 8).2.1 (TX3 8).2.2.1 ∈ tb := tb_t (List.mem_of_getElem? (i := 112) (by decide +kernel)) (by decide +kernel)
theorem fl_RX3_18 : Cond.fieldLink RX3 18 (TX3 9).1 (TX3 9).2.1 (TX3 9).2.2.1 ∈ tb := tb_t (List.mem_of_getElem? (i := 114) (by decide +kernel)) (by decide +kernel)
theorem fl_RX3_21 : Cond.fieldLink RX3 21 (TX3 10).1 (TX3 10).2.1 (TX3 10).2.2.1 ∈ tb := tb_t (List.mem_of_getElem? (i := 117) (by decide +kernel)) (by decide +kernel)
theorem fl_RX3_24 : Cond.fieldLink RX3 24 (TX3 11).1 (TX3 11).2.1 (TX3 11).2.2.1 ∈ tb := tb_t (List.mem_of_getElem? (i := 120) (by decide +kernel)) (by decide +kernel)
theorem fl_RX3_27 : Cond.fieldLink RX3 27 (TX3 12).1 (TX3 12).2.1 (TX3 12).2.2.1 ∈ tb := tb_t (List.mem_of_getElem? (i := 123) (by decide +kernel)) (by decide +kernel)
theorem fl_RX3_30 : Cond.fieldLink RX3 30 (TX3 13).1 (TX3 13).2.1 (TX3 13).2.2.1 ∈ tb := tb_t (List.mem_of_getElem? (i := 126) (by decide +kernel)) (by decide +kernel)
theorem fl_RX8_12 : Cond.fieldLink RX8 12 (TX8 0).1 (TX8 0).2.1 (TX8 0).2.2.1 ∈ tb := tb_t (List.mem_of_getElem? (i := 167) (by decide +kernel)) (by decide +kernel)
theorem fl_RX8_18 : Cond.fieldLink RX8 18 (TX8 1).1 (TX8 1).2.1 (TX8 1).2.2.1 ∈ tb := tb_t (List.mem_of_getElem? (i := 169) (by decide +kernel)) (by decide +kernel)
theorem fl_RX7_9 : Cond.fieldLink RX7 9 (TX7 0).1 (TX7 0).2.1 (TX7 0).2.2.1 ∈ tb := tb_t (List.mem_of_getElem? (i := 290) (by decide +kernel)) (by decide +kernel)
theorem fl_RX5_9 : Cond.fieldLink RX5 9 (TX5 0).1 (TX5 0).2.1 (TX5 0).2.2.1 ∈ tb := tb_t (List.mem_of_getElem? (i := 192) (by decide +kernel)) (by decide +kernel)
theorem fl_RX5_15 : Cond.fieldLink RX5 15 (TX5 1).1 (TX5 1).2.1 (TX5 1).2.2.1 ∈ tb := tb_t (List.mem_of_getElem? (i := 194) (by decide +kernel)) (by decide +kernel)
theorem fl_RX0_11 : Cond.fieldLink RX0 11 (TX0 0).1 (TX0 0).2.1 (TX0 0).2.2.1 ∈ tb := tb_t (List.mem_of_getElem? (i := 218) (by decide +kernel)) (by decide +kernel)
theorem fl_RX0_19 : Cond.fieldLink RX0 19 (TX0 1).1 (TX0 1).2.1 (TX0 1).2.2.1 ∈ tb := tb_t (List.mem_of_getElem? (i := 219) (by decide +kernel)) (by decide +kernel)
theorem fl_RX0_22 : Cond.fieldLink RX0 22 (TX0 2).1 (TX0 2).2.1 (TX0 2).2.2.1 ∈ tb := tb_t (List.mem_of_getElem? (i := 220) (by decide +kernel)) (by decide +kernel)
theorem fl_RX1_11 : Cond.fieldLink RX1 11 (TX1 0).1 (TX1 0).2.1 (TX1 0).2.2.1 ∈ tb := tb_t (List.mem_of_getElem? (i := 234) (by decide +kernel)) (by decide +kernel)
theorem fl_RX1_15 : Cond.fieldLink RX1 15 (TX1 1).1 (TX1 1).2.1 (TX1 1).2.2.1 ∈ tb := tb_t (List.mem_of_getElem? (i := 235) (by decide +kernel)) (by decide +kernel)
theorem fl_RX1_19 : Cond.fieldLink RX1 19 (TX1 2).1 (TX1 2).2.1 (TX1 2).2.2.1 ∈ tb := tb_t (List.mem_of_getElem? (i := 236) (by decide +kernel)) (by decide +kernel)
theorem fl_RX1_22 : Cond.fieldLink RX1 22 (TX1 3).1 (TX1 3).2.1 (TX1 3).2.2.1 ∈ tb := tb_t (List.mem_of_getElem? (i := 237) (by decide +kernel)) (by decide +kernel)
theorem fl_RX1_25 : Cond.fieldLink RX1 25 (TX1 4).1 (TX1 4).2.1 (TX1 4).2.2.1 ∈ tb := tb_t (List.mem_of_getElem? (i := 238) (by decide +kernel)) (by decide +kernel)
theorem fl_RX1_28 : Cond.fieldLink RX1 28 (TX1 6).1 (TX1 6).2.1 (TX1 6).2.2.1 ∈ tb := tb_t (List.mem_of_getElem? (i := 240) (by decide +kernel)) (by decide +kernel)
theorem fl_RX4_11 : Cond.fieldLink RX4 11 (TX4 0).1 (TX4 0).2.1 (TX4 0).2.2.1 ∈ tb := tb_t (List.mem_of_getElem? (i := 263) (by decide +kernel)) (by decide +kernel)
theorem fl_RX10_10 : Cond.fieldLink RX10 10 (TX10 0).1 (TX10 0).2.1 (TX10 0).2.2.1 ∈ tb := tb_t (List.mem_of_getElem? (i := 308) (by decide +kernel)) (by decide +kernel)
theorem fl_RX10_16 : Cond.fieldLink RX10 16 (TX6 0).1 (TX6 0).2.1 (TX6 0).2.2.1 ∈ tb := tb_t (List.mem_of_getElem? (i := 52) (by decide +kernel)) (by decide +kernel)
theorem fl_RX10_20 : Cond.fieldLink RX10 20 (TX10 1).1 (TX10 1).2.1 (TX10 1).2.2.1 ∈ tb := tb_t (List.mem_of_getElem? (i := 309) (by decide +kernel)) (by decide +kernel)
theorem fl_RX10_24 : Cond.fieldLink RX10 24 (TX10 2).1 (TX10 2).2.1 (TX10 2).2.2.1 ∈ tb := tb_t (List.mem_of_getElem? (i := 310) (by decide +kernel)) (by decide +kernel)
theorem fl_RX10_31 : Cond.fieldLink RX10 31 (TX10 3).1 (TX10 3).2.1 (TX10 3).2.2.1 ∈ tb := tb_t (List.mem_of_getElem? (i := 311) (by decide +kernel)) (by decide +kernel)
theorem fl_RX10_35 : Cond.fieldLink RX10 35 (TX10 4).1 (TX10 4).2.1 (TX10 4).2.2.1 ∈ tb := tb_t (List.mem_of_getElem? (i := 312) (by decide +kernel)) (by decide +kernel)
theorem fl_RX10_41 : Cond.fieldLink RX10 41 (TX10 5).1 (TX10 5).2.1 (TX10 5).2.2.1 ∈ tb := tb_t (List.mem_of_getElem? (i := 313) (by decide +kernel)) (by decide +kernel)
theorem fl_RX10_48 : Cond.fieldLink RX10 48 (TX10 6).1 (TX10 6).2.1 (TX10 6).2.2.1 ∈ tb := tb_t (List.mem_of_getElem? (i := 314) (by decide +kernel)) (by decide +kernel)
theorem fl_RX10_52 : Cond.fieldLink RX10 52 (TX10 7).1 (TX10 7).2.1 (TX10 7).2.2.1 ∈ tb := tb_t (List.mem_of_getElem? (i := 315) (by decide +kernel)) (by decide +kernel)
theorem fl_RX10_58 : Cond.fieldLink RX10 58 (TX10 8).1 (TX10 8).2.1 (TX10 8).2.2.1 ∈ tb := tb_t (List.mem_of_getElem? (i := 316) (by decide +kernel)) (by decide +kernel)
theorem fl_RX10_65 : Cond.fieldLink RX10 65 (TX10 9).1 (TX10 9).2.1 (TX10 9).2.2.1 ∈ tb := tb_t (List.mem_of_getElem? (i := 317) (by decide +kernel)) (by decide +kernel)
theorem fl_RX10_72 : Cond.fieldLink RX10 72 (TX10 10).1 (TX10 10).2.1 (TX10 10).2.2.1 ∈ tb := tb_t (List.mem_of_getElem? (i := 318) (by decide +kernel)) (by decide +kernel)
theorem fl_RX10_79 : Cond.fieldLink RX10 79 (TX10 11).1 (TX10 11).2.1 (TX10 11).2.2.1 ∈ tb := tb_t (List.mem_of_getElem? (i := 319) (by decide +kernel)) (by decide +kernel)
theorem fl_RX11_9 : Cond.fieldLink RX11 9 (TX11 1).1 (TX11 1).2.1 (TX11 1).2.2.1 ∈ tb := tb_t (List.mem_of_getElem? (i := 1162) (by decide +kernel)) (by decide +kernel)
theorem fl_RX11_13 : Cond.fieldLink RX11 13 (TX11 2).1 (TX11 2).2.1 (TX11 2).2.2.1 ∈ tb := tb_t (List.mem_of_getElem? (i := 1163) (by decide +kernel)) (by decide +kernel)
theorem fl_RX11_16 : Cond.fieldLink RX11 16 (TX11 3).1 (TX11 3).2.1 (TX11 3).2.2.1 ∈ tb := tb_t (List.mem_of_getElem? (i := 1164) (by decide +kernel)) (by decide +kernel)
theorem fl_RX11_20 : Cond.fieldLink RX11 20 (TX11 4).1 (TX11 4).2.1 (TX11 4).2.2.1 ∈ tb := tb_t (List.mem_of_getElem? (i := 1165) (by decide +kernel)) (by decide +kernel)
theorem fl_RX11_24 : Cond.fieldLink RX11 24 (TX11 6).1 (TX11 6).2.1 (TX11 6).2.2.1 ∈ tb := tb_t (List.mem_of_getElem? (i := 1167) (by decide +kernel)) (by decide +kernel)
theorem fl_RX11_27 : Cond.fieldLink RX11 27 (TX11 13).1 (TX11 13).2.1 (TX11 13).2.2.1 ∈ tb := tb_t (List.mem_of_getElem? (i := 1174) (by decide +kernel)) (by decide +kernel)
theorem fl_RX11_31 : Cond.fieldLink RX11 31 (TX11 14).1 (TX11 14).2.1 (TX11 14).2.2.1 ∈ tb := tb_t (List.mem_of_getElem? (i := 1175) (by decide +kernel)) (by decide +kernel)
theorem fl_RX11_34 : Cond.fieldLink RX11 34 (TX11 15).1 (TX11 15).2.1 (TX11 15).2.2.1 ∈ tb := tb_t (List.mem_of_getElem? (i := 1176) (by decide +kernel)) (by decide +kernel)
theorem fl_RX11_37 : Cond.fieldLink RX11 37 (TX11 16).1 (TX11 16).2.1 (TX11 16).2.2.1 ∈ tb := tb_t (List.mem_of_getElem? (i := 1177) (by decide +kernel)) (by decide +kernel)
theorem fl_RX11_40 : Cond.fieldLink RX11 40 (TX11 19).1 (TX11 19).2.1 (TX11 19).2.2.1 ∈ tb := tb_t (List.mem_of_getElem? (i := 1180) (by decide +kernel)) (by decide +kernel)
theorem fl_RX11_43 : Cond.fieldLink RX11 43 (TX11 20).1 (TX11 20).2.1 (TX11 20).2.2.1 ∈ tb := tb_t (List.mem_of_getElem? (i := 1181) (by decide +kernel)) (by decide +kernel)
theorem fl_RX11_46 : Cond.fieldLink RX11 46 (TX11 21).1 (TX11 21).2.1 (TX11 21).2.2.1 ∈ tb := tb_t (List.mem_of_getElem? (i := 1182) (by decide +kernel)) (by decide +kernel)
theorem fl_RX11_49 : Cond.fieldLink RX11 49 (TX11 23).1 (TX11 23).2.1 (TX11 23).2.2.1 ∈ tb := tb_t (List.mem_of_getElem? (i := 1184) (by decide +kernel)) (by decide +kernel)
theorem fl_RX11_52 : Cond.fieldLink RX11 52 (TX11 24).1 (TX11 24).2.1 (TX11 24).2.2.1 ∈ tb := tb_t (List.mem_of_getElem? (i := 1185) (by decide +kernel)) (by decide +kernel)
theorem fl_RX11_55 : Cond.fieldLink RX11 55 (TX11 25).1 (TX11 25).2.1 (TX11 25).2.2.1 ∈ tb := tb_t (List.mem_of_getElem? (i := 1186) (by decide +kernel)) (by decide +kernel)
theorem fl_RX11_58 : Cond.fieldLink RX11 58 (TX11 27).1 (TX11 27).2.1 (TX11 27).2.2.1 ∈ tb := tb_t (List.mem_of_getElem? (i := 1188) (by decide +kernel)) (by decide +kernel)
theorem fl_RX11_61 : Cond.fieldLink RX11 61 (TX11 31).1 (TX11 31).2.1 (TX11 31).2.2.1 ∈ tb := tb_t (List.mem_of_getElem? (i := 1192) (by decide +kernel)) (by decide +kernel)
theorem fl_RX11_64 : Cond.fieldLink RX11 64 (TX11 32).1 (TX11 32).2.1 (TX11 32).2.2.1 ∈ tb := tb_t (List.mem_of_getElem? (i := 1193) (by decide +kernel)) (by decide +kernel)
theorem fl_RX11_67 : Cond.fieldLink RX11 67 (TX11 33).1 (TX11 33).2.1 (TX11 33).2.2.1 ∈ tb := tb_t (List.mem_of_getElem? (i := 1194) (by decide +kernel)) (by decide +kernel)
theorem fl_RX11_71 : Cond.fieldLink RX11 71 (TX11 34).1 (TX11 34).2.1 (TX11 34).2.2.1 ∈ tb := tb_t (List.mem_of_getElem? (i := 1195) (by decide +kernel)) (by decide +kernel)
theorem fl_RX3_49 : Cond.fieldLink RX3 49 (TX3 5).1 (TX3 5).2.1 (TX3 5).2.2.1 ∈ tb := tb_t (List.mem_of_getElem? (i := 100) (by decide +kernel)) (by decide +kernel)
theorem fl_RX3_52 : Cond.fieldLink RX3 52 (TX3 6).1 (TX3 6).2.1 (TX3 6).2.2.1 ∈ tb := tb_t (List.mem_of_getElem? (i := 106) (by decide +kernel)) (by decide +kernel)
theorem fl_RX3_33 : Cond.fieldLink RX3 33 (TX3 0).1 (TX3 0).2.1 (TX3 0).2.2.1 ∈ tb := tb_t (List.mem_of_getElem? (i := 83) (by decide +kernel)) (by decide +kernel)
theorem fl_RX3_37 : Cond.fieldLink RX3 37 (TX3 1).1 (TX3 1).2.1 (TX3 1).2.2.1 ∈ tb := tb_t (List.mem_of_getElem? (i := 85) (by decide +kernel)) (by decide +kernel)
theorem fl_RX3_40 : Cond.fieldLink RX3 40 (TX3 2).1 (TX3 2).2.1 (TX3 2).2.2.1 ∈ tb := tb_t (List.mem_of_getElem? (i := 91) (by decide +kernel)) (by decide +kernel)
theorem fl_RX3_43 : Cond.fieldLink RX3 43 (TX3 3).1 (TX3 3).2.1 (TX3 3).2.2.1 ∈ tb := tb_t (List.mem_of_getElem? (i := 93) (by decide +kernel)) (by decide +kernel)
theorem fl_RX3_46 : Cond.fieldLink RX3 46 (TX3 4).1 (TX3 4).2.1 (TX3 4).2.2.1 ∈ tb := tb_t (List.mem_of_getElem? (i := 96) (by decide +kernel)) (by decide +kernel)
theorem fl_RX8_32 : Cond.fieldLink RX8 32 (TX8 2).1 (TX8 2).2.1 (TX8 2).2.2.1 ∈ tb := tb_t (List.mem_of_getElem? (i := 171) (by decide +kernel)) (by decide +kernel)
theorem fl_RX7_15 : Cond.fieldLink RX7 15 (TX7 1).1 (TX7 1).2.1 (TX7 1).2.2.1 ∈ tb := tb_t (List.mem_of_getElem? (i := 292) (by decide +kernel)) (by decide +kernel)
theorem fl_RX7_19 : Cond.fieldLink RX7 19 (TX7 2).1 (TX7 2).2.1 (TX7 2).2.2.1 ∈ tb := tb_t (List.mem_of_getElem? (i := 294) (by decide +kernel)) (by decide +kernel)
theorem fl_RX7_23 : Cond.fieldLink RX7 23 (TX7 3).1 (TX7 3).2.1 (TX7 3).2.2.1 ∈ tb := tb_t (List.mem_of_getElem? (i := 296) (by decide +kernel)) (by decide +kernel)
theorem fl_RX5_41 : Cond.fieldLink RX5 41 (TX5 2).1 (TX5 2).2.1 (TX5 2).2.2.1 ∈ tb := tb_t (List.mem_of_getElem? (i := 195) (by decide +kernel)) (by decide +kernel)
theorem fl_RX5_44 : Cond.fieldLink RX5 44 (TX5 3).1 (TX5 3).2.1 (TX5 3).2.2.1 ∈ tb := tb_t (List.mem_of_getElem? (i := 196) (by decide +kernel)) (by decide +kernel)
theorem fl_RX5_31 : Cond.fieldLink RX5 31 (TX3 5).1 (TX3 5).2.1 (TX3 5).2.2.1 ∈ tb := tb_t (List.mem_of_getElem? (i := 99) (by decide +kernel)) (by decide +kernel)
theorem fl_RX5_35 : Cond.fieldLink RX5 35 (TX3 2).1 (TX3 2).2.1 (TX3 2).2.2.1 ∈ tb := tb_t (List.mem_of_getElem? (i := 89) (by decide +kernel)) (by decide +kernel)
theorem fl_RX5_38 : Cond.fieldLink RX5 38 (TX3 9).1 (TX3 9).2.1 (TX3 9).2.2.1 ∈ tb := tb_t (List.mem_of_getElem? (i := 115) (by decide +kernel)) (by decide +kernel)
theorem fl_RX5_75 : Cond.fieldLink RX5 75 (TX3 10).1 (TX3 10).2.1 (TX3 10).2.2.1 ∈ tb := tb_t (List.mem_of_getElem? (i := 119) (by decide +kernel)) (by decide +kernel)
theorem fl_RX5_83 : Cond.fieldLink RX5 83 (TX3 1).1 (TX3 1).2.1 (TX3 1).2.2.1 ∈ tb := tb_t (List.mem_of_getElem? (i := 88) (by decide +kernel)) (by decide +kernel)
theorem fl_RX9_15 : Cond.fieldLink RX9 15 (TX9 1).1 (TX9 1).2.1 (TX9 1).2.2.1 ∈ tb := tb_t (List.mem_of_getElem? (i := 43) (by decide +kernel)) (by decide +kernel)
theorem fl_RX6_30 : Cond.fieldLink RX6 30 (TX6 1).1 (TX6 1).2.1 (TX6 1).2.2.1 ∈ tb := tb_t (List.mem_of_getElem? (i := 53) (by decide +kernel)) (by decide +kernel)
theorem fl_RX6_165 : Cond.fieldLink RX6 165 (TX9 1).1 (TX9 1).2.1 (TX9 1).2.2.1 ∈ tb := tb_t (List.mem_of_getElem? (i := 44) (by decide +kernel)) (by decide +kernel)
theorem fl_RX6_150 : Cond.fieldLink RX6 150 (TX6 3).1 (TX6 3).2.1 (TX6 3).2.2.1 ∈ tb := tb_t (List.mem_of_getElem? (i := 55) (by decide +kernel)) (by decide +kernel)
theorem fl_RX6_147 : Cond.fieldLink RX6 147 (TX6 4).1 (TX6 4).2.1 (TX6 4).2.2.1 ∈ tb := tb_t (List.mem_of_getElem? (i := 56) (by decide +kernel)) (by decide +kernel)
theorem fl_RX6_36 : Cond.fieldLink RX6 36 (TX6 2).1 (TX6 2).2.1 (TX6 2).2.2.1 ∈ tb := tb_t (List.mem_of_getElem? (i := 54) (by decide +kernel)) (by decide +kernel)
theorem fl_RX6_27 : Cond.fieldLink RX6 27 (TX6 5).1 (TX6 5).2.1 (TX6 5).2.2.1 ∈ tb := tb_t (List.mem_of_getElem? (i := 57) (by decide +kernel)) (by decide +kernel)
theorem fl_RX6_89 : Cond.fieldLink RX6 89 (TX3 1).1 (TX3 1).2.1 (TX3 1).2.2.1 ∈ tb := tb_t (List.mem_of_getElem? (i := 86) (by decide +kernel)) (by decide +kernel)
theorem fl_RX6_93 : Cond.fieldLink RX6 93 (TX3 2).1 (TX3 2).2.1 (TX3 2).2.2.1 ∈ tb := tb_t (List.mem_of_getElem? (i := 92) (by decide +kernel)) (by decide +kernel)
theorem fl_RX6_97 : Cond.fieldLink RX6 97 (TX3 3).1 (TX3 3).2.1 (TX3 3).2.2.1 ∈ tb := tb_t (List.mem_of_getElem? (i := 94) (by decide +kernel)) (by decide +kernel)
theorem fl_RX6_101 : Cond.fieldLink RX6 101 (TX3 4).1 (TX3 4).2.1 (TX3 4).2.2.1 ∈ tb := tb_t (List.mem_of_getElem? (i := 97) (by decide +kernel)) (by decide +kernel)
theorem fl_RX6_103 : Cond.fieldLink RX6 103 (TX3 5).1 (TX3 5).2.1 (TX3 5).2.2.1 ∈ tb := tb_t (List.mem_of_getElem? (i := 103) (by decide +kernel)) (by decide +kernel)
theorem fl_RX6_128 : Cond.fieldLink RX6 128 (TX3 6).1 (TX3 6).2.1 (TX3 6).2.2.1 ∈ tb := tb_t (List.mem_of_getElem? (i := 107) (by decide +kernel)) (by decide +kernel)
theorem fl_RX6_43 : Cond.fieldLink RX6 43 (TX3 0).1 (TX3 0).2.1 (TX3 0).2.2.1 ∈ tb := tb_t (List.mem_of_getElem? (i := 82) (by decide +kernel)) (by decide +kernel)
theorem fl_RX2_9 : Cond.fieldLink RX2 9 (TX2 0).1 (TX2 0).2.1 (TX2 0).2.2.1 ∈ tb := tb_t (List.mem_of_getElem? (i := 273) (by decide +kernel)) (by decide +kernel)
theorem fl_RX2_48 : Cond.fieldLink RX2 48 (TX3 2).1 (TX3 2).2.1 (TX3 2).2.2.1 ∈ tb := tb_t (List.mem_of_getElem? (i := 90) (by decide +kernel)) (by decide +kernel)
theorem fl_RX2_55 : Cond.fieldLink RX2 55 (TX3 5).1 (TX3 5).2.1 (TX3 5).2.2.1 ∈ tb := tb_t (List.mem_of_getElem? (i := 101) (by decide +kernel)) (by decide +kernel)
theorem fl_RX2_58 : Cond.fieldLink RX2 58 (TX3 9).1 (TX3 9).2.1 (TX3 9).2.2.1 ∈ tb := tb_t (List.mem_of_getElem? (i := 116) (by decide +kernel)) (by decide +kernel)
theorem fl_RX2_61 : Cond.fieldLink RX2 61 (TX3 10).1 (TX3 10).2.1 (TX3 10).2.2.1 ∈ tb := tb_t (List.mem_of_getElem? (i := 118) (by decide +kernel)) (by decide +kernel)
theorem fl_RX2_23 : Cond.fieldLink RX2 23 (TX2 2).1 (TX2 2).2.1 (TX2 2).2.2.1 ∈ tb := tb_t (List.mem_of_getElem? (i := 276) (by decide +kernel)) (by decide +kernel)
theorem fl_RX2_64 : Cond.fieldLink RX2 64 (TX3 1).1 (TX3 1).2.1 (TX3 1).2.2.1 ∈ tb := tb_t (List.mem_of_getElem? (i := 87) (by decide +kernel)) (by decide +kernel)
theorem fl_RX2_15 : Cond.fieldLink RX2 15 (TX2 1).1 (TX2 1).2.1 (TX2 1).2.2.1 ∈ tb := tb_t (List.mem_of_getElem? (i := 274) (by decide +kernel)) (by decide +kernel)
theorem fl_RX2_26 : Cond.fieldLink RX2 26 (TX7 3).1 (TX7 3).2.1 (TX7 3).2.2.1 ∈ tb := tb_t (List.mem_of_getElem? (i := 297) (by decide +kernel)) (by decide +kernel)
theorem fl_RX2_38 : Cond.fieldLink RX2 38 (TX3 8).1 (TX3 8).2.1 (TX3 8).2.2.1 ∈ tb := tb_t (List.mem_of_getElem? (i := 113) (by decide +kernel)) (by decide +kernel)
theorem fl_RX4_47 : Cond.fieldLink RX4 47 (TX3 6).1 (TX3 6).2.1 (TX3 6).2.2.1 ∈ tb := tb_t (List.mem_of_getElem? (i := 108) (by decide +kernel)) (by decide +kernel)
theorem fl_RX4_51 : Cond.fieldLink RX4 51 (TX3 12).1 (TX3 12).2.1 (TX3 12).2.2.1 ∈ tb := tb_t (List.mem_of_getElem? (i := 125) (by decide +kernel)) (by decide +kernel)
theorem fl_RX4_70 : Cond.fieldLink RX4 70 (TX3 13).1 (TX3 13).2.1 (TX3 13).2.2.1 ∈ tb := tb_t (List.mem_of_getElem? (i := 128) (by decide +kernel)) (by decide +kernel)
theorem fl_RX4_54 : Cond.fieldLink RX4 54 (TX3 11).1 (TX3 11).2.1 (TX3 11).2.2.1 ∈ tb := tb_t (List.mem_of_getElem? (i := 122) (by decide +kernel)) (by decide +kernel)
theorem fl_RX1_38 : Cond.fieldLink RX1 38 (TX1 5).1 (TX1 5).2.1 (TX1 5).2.2.1 ∈ tb := tb_t (List.mem_of_getElem? (i := 239) (by decide +kernel)) (by decide +kernel)
theorem fl_RX1_65 : Cond.fieldLink RX1 65 (TX3 5).1 (TX3 5).2.1 (TX3 5).2.2.1 ∈ tb := tb_t (List.mem_of_getElem? (i := 104) (by decide +kernel)) (by decide +kernel)
theorem fl_RX0_35 : Cond.fieldLink RX0 35 (TX3 5).1 (TX3 5).2.1 (TX3 5).2.2.1 ∈ tb := tb_t (List.mem_of_getElem? (i := 102) (by decide +kernel)) (by decide +kernel)
theorem fl_RX10_98 : Cond.fieldLink RX10 98 (TX8 0).1 (TX8 0).2.1 (TX8 0).2.2.1 ∈ tb := tb_t (List.mem_of_getElem? (i := 168) (by decide +kernel)) (by decide +kernel)
theorem fl_RX10_111 : Cond.fieldLink RX10 111 (TX3 0).1 (TX3 0).2.1 (TX3 0).2.2.1 ∈ tb := tb_t (List.mem_of_getElem? (i := 84) (by decide +kernel)) (by decide +kernel)
theorem fl_RX10_283 : Cond.fieldLink RX10 283 (TX3 6).1 (TX3 6).2.1 (TX3 6).2.2.1 ∈ tb := tb_t (List.mem_of_getElem? (i := 109) (by decide +kernel)) (by decide +kernel)
theorem fl_RX10_354 : Cond.fieldLink RX10 354 (TX7 1).1 (TX7 1).2.1 (TX7 1).2.2.1 ∈ tb := tb_t (List.mem_of_getElem? (i := 293) (by decide +kernel)) (by decide +kernel)
theorem fl_RX10_159 : Cond.fieldLink RX10 159 (TX3 5).1 (TX3 5).2.1 (TX3 5).2.2.1 ∈ tb := tb_t (List.mem_of_getElem? (i := 105) (by decide +kernel)) (by decide +kernel)
theorem fl_RX10_105 : Cond.fieldLink RX10 105 (TX8 2).1 (TX8 2).2.1 (TX8 2).2.2.1 ∈ tb := tb_t (List.mem_of_getElem? (i := 172) (by decide +kernel)) (by decide +kernel)
theorem fl_RX10_172 : Cond.fieldLink RX10 172 (TX8 1).1 (TX8 1).2.1 (TX8 1).2.2.1 ∈ tb := tb_t (List.mem_of_getElem? (i := 170) (by decide +kernel)) (by decide +kernel)
theorem fl_RX10_391 : Cond.fieldLink RX10 391 (TX3 3).1 (TX3 3).2.1 (TX3 3).2.2.1 ∈ tb := tb_t (List.mem_of_getElem? (i := 95) (by decide +kernel)) (by decide +kernel)
theorem fl_RX10_235 : Cond.fieldLink RX10 235 (TX3 4).1 (TX3 4).2.1 (TX3 4).2.2.1 ∈ tb := tb_t (List.mem_of_getElem? (i := 98) (by decide +kernel)) (by decide +kernel)
theorem fl_RX10_194 : Cond.fieldLink RX10 194 (TX7 3).1 (TX7 3).2.1 (TX7 3).2.2.1 ∈ tb := tb_t (List.mem_of_getElem? (i := 298) (by decide +kernel)) (by decide +kernel)
theorem fl_RX10_156 : Cond.fieldLink RX10 156 (TX5 3).1 (TX5 3).2.1 (TX5 3).2.2.1 ∈ tb := tb_t (List.mem_of_getElem? (i := 197) (by decide +kernel)) (by decide +kernel)
theorem fl_RX10_198 : Cond.fieldLink RX10 198 (TX3 7).1 (TX3 7).2.1 (TX3 7).2.2.1 ∈ tb := tb_t (List.mem_of_getElem? (i := 111) (by decide +kernel)) (by decide +kernel)
theorem fl_RX10_84 : Cond.fieldLink RX10 84 (TX9 1).1 (TX9 1).2.1 (TX9 1).2.2.1 ∈ tb := tb_t (List.mem_of_getElem? (i := 42) (by decide +kernel)) (by decide +kernel)
theorem fl_RX10_114 : Cond.fieldLink RX10 114 (TX6 5).1 (TX6 5).2.1 (TX6 5).2.2.1 ∈ tb := tb_t (List.mem_of_getElem? (i := 58) (by decide +kernel)) (by decide +kernel)
theorem fl_RX10_117 : Cond.fieldLink RX10 117 (TX6 6).1 (TX6 6).2.1 (TX6 6).2.2.1 ∈ tb := tb_t (List.mem_of_getElem? (i := 60) (by decide +kernel)) (by decide +kernel)
theorem fl_RX10_135 : Cond.fieldLink RX10 135 (TX3 12).1 (TX3 12).2.1 (TX3 12).2.2.1 ∈ tb := tb_t (List.mem_of_getElem? (i := 124) (by decide +kernel)) (by decide +kernel)
theorem fl_RX10_131 : Cond.fieldLink RX10 131 (TX3 11).1 (TX3 11).2.1 (TX3 11).2.2.1 ∈ tb := tb_t (List.mem_of_getElem? (i := 121) (by decide +kernel)) (by decide +kernel)
theorem fl_RX10_138 : Cond.fieldLink RX10 138 (TX3 13).1 (TX3 13).2.1 (TX3 13).2.2.1 ∈ tb := tb_t (List.mem_of_getElem? (i := 127) (by decide +kernel)) (by decide +kernel)
theorem fl_RX10_162 : Cond.fieldLink RX10 162 (TX5 0).1 (TX5 0).2.1 (TX5 0).2.2.1 ∈ tb := tb_t (List.mem_of_getElem? (i := 193) (by decide +kernel)) (by decide +kernel)
theorem fl_RX10_318 : Cond.fieldLink RX10 318 (TX2 2).1 (TX2 2).2.1 (TX2 2).2.2.1 ∈ tb := tb_t (List.mem_of_getElem? (i := 277) (by decide +kernel)) (by decide +kernel)
theorem fl_RX10_315 : Cond.fieldLink RX10 315 (TX2 1).1 (TX2 1).2.1 (TX2 1).2.2.1 ∈ tb := tb_t (List.mem_of_getElem? (i := 275) (by decide +kernel)) (by decide +kernel)
theorem fl_RX10_344 : Cond.fieldLink RX10 344 (TX8 3).1 (TX8 3).2.1 (TX8 3).2.2.1 ∈ tb := tb_t (List.mem_of_getElem? (i := 173) (by decide +kernel)) (by decide +kernel)
theorem fl_RX10_357 : Cond.fieldLink RX10 357 (TX7 0).1 (TX7 0).2.1 (TX7 0).2.2.1 ∈ tb := tb_t (List.mem_of_getElem? (i := 291) (by decide +kernel)) (by decide +kernel)
theorem fl_RX10_365 : Cond.fieldLink RX10 365 (TX7 2).1 (TX7 2).2.1 (TX7 2).2.2.1 ∈ tb := tb_t (List.mem_of_getElem? (i := 295) (by decide +kernel)) (by decide +kernel)
theorem fl_RX11_93 : Cond.fieldLink RX11 93 (TX11 5).1 (TX11 5).2.1 (TX11 5).2.2.1 ∈ tb := tb_t (List.mem_of_getElem? (i := 1166) (by decide +kernel)) (by decide +kernel)
theorem fl_RX11_96 : Cond.fieldLink RX11 96 (TX11 7).1 (TX11 7).2.1 (TX11 7).2.2.1 ∈ tb := tb_t (List.mem_of_getElem? (i := 1168) (by decide +kernel)) (by decide +kernel)
theorem fl_RX11_130 : Cond.fieldLink RX11 130 (TX11 12).1 (TX11 12).2.1 (TX11 12).2.2.1 ∈ tb := tb_t (List.mem_of_getElem? (i := 1173) (by decide +kernel)) (by decide +kernel)
theorem fl_RX11_106 : Cond.fieldLink RX11 106 (TX11 9).1 (TX11 9).2.1 (TX11 9).2.2.1 ∈ tb := tb_t (List.mem_of_getElem? (i := 1170) (by decide +kernel)) (by decide +kernel)
theorem fl_RX11_246 : Cond.fieldLink RX11 246 (TX11 17).1 (TX11 17).2.1 (TX11 17).2.2.1 ∈ tb := tb_t (List.mem_of_getElem? (i := 1178) (by decide +kernel)) (by decide +kernel)
theorem fl_RX11_249 : Cond.fieldLink RX11 249 (TX11 18).1 (TX11 18).2.1 (TX11 18).2.2.1 ∈ tb := tb_t (List.mem_of_getElem? (i := 1179) (by decide +kernel)) (by decide +kernel)
theorem fl_RX11_334 : Cond.fieldLink RX11 334 (TX11 22).1 (TX11 22).2.1 (TX11 22).2.2.1 ∈ tb := tb_t (List.mem_of_getElem? (i := 1183) (by decide +kernel)) (by decide +kernel)
theorem fl_RX11_346 : Cond.fieldLink RX11 346 (TX11 26).1 (TX11 26).2.1 (TX11 26).2.2.1 ∈ tb := tb_t (List.mem_of_getElem? (i := 1187) (by decide +kernel)) (by decide +kernel)
theorem fl_RX11_414 : Cond.fieldLink RX11 414 (TX11 28).1 (TX11 28).2.1 (TX11 28).2.2.1 ∈ tb := tb_t (List.mem_of_getElem? (i := 1189) (by decide +kernel)) (by decide +kernel)
theorem fl_RX11_427 : Cond.fieldLink RX11 427 (TX11 29).1 (TX11 29).2.1 (TX11 29).2.2.1 ∈ tb := tb_t (List.mem_of_getElem? (i := 1190) (by decide +kernel)) (by decide +kernel)
theorem fl_RX11_433 : Cond.fieldLink RX11 433 (TX11 30).1 (TX11 30).2.1 (TX11 30).2.2.1 ∈ tb := tb_t (List.mem_of_getElem? (i := 1191) (by decide +kernel)) (by decide +kernel)
theorem fl_RX11_99 : Cond.fieldLink RX11 99 (TX11 8).1 (TX11 8).2.1 (TX11 8).2.2.1 ∈ tb := tb_t (List.mem_of_getElem? (i := 1169) (by decide +kernel)) (by decide +kernel)
theorem fl_RX11_109 : Cond.fieldLink RX11 109 (TX11 10).1 (TX11 10).2.1 (TX11 10).2.2.1 ∈ tb := tb_t (List.mem_of_getElem? (i := 1171) (by decide +kernel)) (by decide +kernel)
theorem fl_RX11_120 : Cond.fieldLink RX11 120 (TX11 11).1 (TX11 11).2.1 (TX11 11).2.2.1 ∈ tb := tb_t (List.mem_of_getElem? (i := 1172) (by decide +kernel)) (by decide +kernel)
theorem ki_RJ6_265 : Cond.constant RJ6 265 1431655765 ∈ tb := tb_t (List.mem_of_getElem? (i := 566) (by decide +kernel)) (by decide +kernel)
theorem ki_RJ6_266 : Cond.constant RJ6 266 858993459 ∈ tb := tb_t (List.mem_of_getElem? (i := 567) (by decide +kernel)) (by decide +kernel)
theorem ki_RJ6_267 : Cond.constant RJ6 267 252645135 ∈ tb := tb_t (List.mem_of_getElem? (i := 568) (by decide +kernel)) (by decide +kernel)
theorem ki_RJ6_264 : Cond.constant RJ6 264 65536 ∈ tb := tb_t (List.mem_of_getElem? (i := 918) (by decide +kernel)) (by decide +kernel)
theorem ki_RX5_24 : Cond.constant RX5 24 1000000 ∈ tb := tb_t (List.mem_of_getElem? (i := 539) (by decide +kernel)) (by decide +kernel)
theorem ki_RX6_174 : Cond.constant RX6 174 100000 ∈ tb := tb_t (List.mem_of_getElem? (i := 385) (by decide +kernel)) (by decide +kernel)
theorem ki_RX10_201 : Cond.constant RX10 201 1000000 ∈ tb := tb_t (List.mem_of_getElem? (i := 707) (by decide +kernel)) (by decide +kernel)
theorem ki_RX10_380 : Cond.constant RX10 380 2000000000 ∈ tb := tb_t (List.mem_of_getElem? (i := 1060) (by decide +kernel)) (by decide +kernel)
theorem ki_RX11_245 : Cond.constant RX11 245 1000000 ∈ tb := tb_t (List.mem_of_getElem? (i := 1452) (by decide +kernel)) (by decide +kernel)
theorem ki_RX11_333 : Cond.constant RX11 333 1000000000 ∈ tb := tb_t (List.mem_of_getElem? (i := 1639) (by decide +kernel)) (by decide +kernel)
theorem ki_RX11_308 : Cond.constant RX11 308 (-6000000) ∈ tb := tb_t (List.mem_of_getElem? (i := 1549) (by decide +kernel)) (by decide +kernel)
theorem ki_RX11_307 : Cond.constant RX11 307 (-2000000) ∈ tb := tb_t (List.mem_of_getElem? (i := 1548) (by decide +kernel)) (by decide +kernel)
theorem ki_RX11_123 : Cond.constant RX11 123 99999 ∈ tb := tb_t (List.mem_of_getElem? (i := 1308) (by decide +kernel)) (by decide +kernel)
theorem kl_RX7_32 : Cond.constantLong RX7 32 (-1) ∈ tb := tb_t (List.mem_of_getElem? (i := 753) (by decide +kernel)) (by decide +kernel)
theorem kl_RX5_53 : Cond.constantLong RX5 53 1000000 ∈ tb := tb_t (List.mem_of_getElem? (i := 639) (by decide +kernel)) (by decide +kernel)
theorem kl_RX2_72 : Cond.constantLong RX2 72 1103515245 ∈ tb := tb_t (List.mem_of_getElem? (i := 1073) (by decide +kernel)) (by decide +kernel)
theorem kl_RX2_74 : Cond.constantLong RX2 74 12345 ∈ tb := tb_t (List.mem_of_getElem? (i := 1074) (by decide +kernel)) (by decide +kernel)
theorem kl_RX2_76 : Cond.constantLong RX2 76 2147483648 ∈ tb := tb_t (List.mem_of_getElem? (i := 1075) (by decide +kernel)) (by decide +kernel)
theorem kl_RX2_78 : Cond.constantLong RX2 78 65536 ∈ tb := tb_t (List.mem_of_getElem? (i := 1076) (by decide +kernel)) (by decide +kernel)
theorem kl_RX10_394 : Cond.constantLong RX10 394 1000000 ∈ tb := tb_t (List.mem_of_getElem? (i := 716) (by decide +kernel)) (by decide +kernel)
theorem kl_RX10_289 : Cond.constantLong RX10 289 (-2) ∈ tb := tb_t (List.mem_of_getElem? (i := 994) (by decide +kernel)) (by decide +kernel)
theorem kl_RX11_77 : Cond.constantLong RX11 77 2 ∈ tb := tb_t (List.mem_of_getElem? (i := 1272) (by decide +kernel)) (by decide +kernel)
theorem kl_RX11_87 : Cond.constantLong RX11 87 (-1) ∈ tb := tb_t (List.mem_of_getElem? (i := 1439) (by decide +kernel)) (by decide +kernel)
theorem kl_RX11_225 : Cond.constantLong RX11 225 3 ∈ tb := tb_t (List.mem_of_getElem? (i := 1397) (by decide +kernel)) (by decide +kernel)
theorem kl_RX11_237 : Cond.constantLong RX11 237 9 ∈ tb := tb_t (List.mem_of_getElem? (i := 1422) (by decide +kernel)) (by decide +kernel)
theorem kl_RX11_273 : Cond.constantLong RX11 273 1000000 ∈ tb := tb_t (List.mem_of_getElem? (i := 1491) (by decide +kernel)) (by decide +kernel)
theorem kl_RX11_284 : Cond.constantLong RX11 284 200 ∈ tb := tb_t (List.mem_of_getElem? (i := 1512) (by decide +kernel)) (by decide +kernel)
theorem kl_RX11_325 : Cond.constantLong RX11 325 5 ∈ tb := tb_t (List.mem_of_getElem? (i := 1590) (by decide +kernel)) (by decide +kernel)
theorem kl_RX11_401 : Cond.constantLong RX11 401 (-2) ∈ tb := tb_t (List.mem_of_getElem? (i := 1751) (by decide +kernel)) (by decide +kernel)
theorem kl_RX11_412 : Cond.constantLong RX11 412 1103515245 ∈ tb := tb_t (List.mem_of_getElem? (i := 1816) (by decide +kernel)) (by decide +kernel)
theorem kl_RX11_418 : Cond.constantLong RX11 418 12345 ∈ tb := tb_t (List.mem_of_getElem? (i := 1817) (by decide +kernel)) (by decide +kernel)
theorem kl_RX11_420 : Cond.constantLong RX11 420 2147483648 ∈ tb := tb_t (List.mem_of_getElem? (i := 1818) (by decide +kernel)) (by decide +kernel)
theorem kl_RX11_422 : Cond.constantLong RX11 422 65536 ∈ tb := tb_t (List.mem_of_getElem? (i := 1819) (by decide +kernel)) (by decide +kernel)
theorem kl_RX11_439 : Cond.constantLong RX11 439 2000000000 ∈ tb := tb_t (List.mem_of_getElem? (i := 1803) (by decide +kernel)) (by decide +kernel)
theorem kl_RX11_454 : Cond.constantLong RX11 454 99 ∈ tb := tb_t (List.mem_of_getElem? (i := 1835) (by decide +kernel)) (by decide +kernel)
theorem kl_RX11_452 : Cond.constantLong RX11 452 100 ∈ tb := tb_t (List.mem_of_getElem? (i := 1834) (by decide +kernel)) (by decide +kernel)
theorem kl_RX11_450 : Cond.constantLong RX11 450 999 ∈ tb := tb_t (List.mem_of_getElem? (i := 1833) (by decide +kernel)) (by decide +kernel)
theorem kl_RX11_448 : Cond.constantLong RX11 448 20 ∈ tb := tb_t (List.mem_of_getElem? (i := 1828) (by decide +kernel)) (by decide +kernel)
theorem kl_RX11_112 : Cond.constantLong RX11 112 97 ∈ tb := tb_t (List.mem_of_getElem? (i := 1304) (by decide +kernel)) (by decide +kernel)
theorem kl_RX11_114 : Cond.constantLong RX11 114 122 ∈ tb := tb_t (List.mem_of_getElem? (i := 1305) (by decide +kernel)) (by decide +kernel)
theorem kl_RX11_116 : Cond.constantLong RX11 116 48 ∈ tb := tb_t (List.mem_of_getElem? (i := 1306) (by decide +kernel)) (by decide +kernel)
theorem kl_RX11_118 : Cond.constantLong RX11 118 57 ∈ tb := tb_t (List.mem_of_getElem? (i := 1307) (by decide +kernel)) (by decide +kernel)
theorem kl_RL_269 : Cond.constantLong RL 269 4294967295 ∈ tb := tb_t (List.mem_of_getElem? (i := 1863) (by decide +kernel)) (by decide +kernel)
theorem okV_RJ0_335 : okV RJ0 RJ0 335 yJ0_coder_7d493 cJ0_coder_7d493 1 (some .byte) 0 := ⟨⟨tb_t (List.mem_of_getElem? (i := 399) (by decide +kernel)) (by decide +kernel), tb_t (List.mem_of_getElem? (i := 400) (by decide +kernel)) (by decide +kernel), tb_t (List.mem_of_getElem? (i := 401) (by decide +kernel)) (by decide +kernel), tb_t (List.mem_of_getElem? (i := 13) (by decide +kernel)) (by decide +kernel), tb_t (List.mem_of_getElem? (i := 402) (by decide +kernel)) (by decide +kernel)⟩, by decide +kernel⟩
theorem okV_RJ0_492 : okV RJ0 RJ0 492 yJ0_isLatin1_aae02 cJ0_isLatin1_aae02 1 (some .boolean) 0 := ⟨⟨tb_t (List.mem_of_getElem? (i := 409) (by decide +kernel)) (by decide +kernel), tb_t (List.mem_of_getElem? (i := 410) (by decide +kernel)) (by decide +kernel), tb_t (List.mem_of_getElem? (i := 411) (by decide +kernel)) (by decide +kernel), tb_t (List.mem_of_getElem? (i := 13) (by decide +kernel)) (by decide +kernel), tb_t (List.mem_of_getElem? (i := 412) (by decide +kernel)) (by decide +kernel)⟩, by decide +kernel⟩
theorem okV_RX3_61 : okV RX3 RX3 61 yX3_hasRoom cX3_hasRoom 2 (some .boolean) 1 := ⟨⟨tb_t (List.mem_of_getElem? (i := 487) (by decide +kernel)) (by decide +kernel), tb_t (List.mem_of_getElem? (i := 488) (by decide +kernel)) (by decide +kernel), tb_t (List.mem_of_getElem? (i := 489) (by decide +kernel)) (by decide +kernel), tb_t (List.mem_of_getElem? (i := 4) (by decide +kernel)) (by decide +kernel), tb_t (List.mem_of_getElem? (i := 490) (by decide +kernel)) (by decide +kernel)⟩, by decide +kernel⟩
theorem okV_RX3_65 : okV RX3 RX3 65 yX3_isDoor cX3_isDoor 3 (some .boolean) 2 := ⟨⟨tb_t (List.mem_of_getElem? (i := 741) (by decide +kernel)) (by decide +kernel), tb_t (List.mem_of_getElem? (i := 742) (by decide +kernel)) (by decide +kernel), tb_t (List.mem_of_getElem? (i := 743) (by decide +kernel)) (by decide +kernel), tb_t (List.mem_of_getElem? (i := 4) (by decide +kernel)) (by decide +kernel), tb_t (List.mem_of_getElem? (i := 744) (by decide +kernel)) (by decide +kernel)⟩, by decide +kernel⟩
theorem okV_RX8_22 : okV RX8 RX3 22 yX3_copyFrom cX3_copyFrom 2 none 1 := ⟨⟨tb_t (List.mem_of_getElem? (i := 1124) (by decide +kernel)) (by decide +kernel), tb_t (List.mem_of_getElem? (i := 521) (by decide +kernel)) (by decide +kernel), tb_t (List.mem_of_getElem? (i := 522) (by decide +kernel)) (by decide +kernel), tb_t (List.mem_of_getElem? (i := 4) (by decide +kernel)) (by decide +kernel), tb_t (List.mem_of_getElem? (i := 523) (by decide +kernel)) (by decide +kernel)⟩, by decide +kernel⟩
theorem okV_RX5_55 : okV RX5 RX5 55 yX5_chanceOf cX5_chanceOf 3 (some .int) 1 := ⟨⟨tb_t (List.mem_of_getElem? (i := 635) (by decide +kernel)) (by decide +kernel), tb_t (List.mem_of_getElem? (i := 636) (by decide +kernel)) (by decide +kernel), tb_t (List.mem_of_getElem? (i := 637) (by decide +kernel)) (by decide +kernel), tb_t (List.mem_of_getElem? (i := 6) (by decide +kernel)) (by decide +kernel), tb_t (List.mem_of_getElem? (i := 638) (by decide +kernel)) (by decide +kernel)⟩, by decide +kernel⟩
theorem okV_RX5_59 : okV RX5 RX3 59 yX3_heard cX3_heard 3 (some .int) 2 := ⟨⟨tb_t (List.mem_of_getElem? (i := 551) (by decide +kernel)) (by decide +kernel), tb_t (List.mem_of_getElem? (i := 552) (by decide +kernel)) (by decide +kernel), tb_t (List.mem_of_getElem? (i := 553) (by decide +kernel)) (by decide +kernel), tb_t (List.mem_of_getElem? (i := 4) (by decide +kernel)) (by decide +kernel), tb_t (List.mem_of_getElem? (i := 554) (by decide +kernel)) (by decide +kernel)⟩, by decide +kernel⟩
theorem okV_RX5_18 : okV RX5 RX3 18 yX3_allSits cX3_allSits 3 (some .int) 0 := ⟨⟨tb_t (List.mem_of_getElem? (i := 535) (by decide +kernel)) (by decide +kernel), tb_t (List.mem_of_getElem? (i := 536) (by decide +kernel)) (by decide +kernel), tb_t (List.mem_of_getElem? (i := 537) (by decide +kernel)) (by decide +kernel), tb_t (List.mem_of_getElem? (i := 4) (by decide +kernel)) (by decide +kernel), tb_t (List.mem_of_getElem? (i := 538) (by decide +kernel)) (by decide +kernel)⟩, by decide +kernel⟩
theorem okV_RX5_71 : okV RX5 RX5 71 yX5_leave cX5_leave 7 none 2 := ⟨⟨tb_t (List.mem_of_getElem? (i := 559) (by decide +kernel)) (by decide +kernel), tb_t (List.mem_of_getElem? (i := 561) (by decide +kernel)) (by decide +kernel), tb_s (q := (⟨"CallForBrown$Parts", "leave", "(LCallForBrown$House;I)V"⟩, _)) (List.mem_of_getElem? (i := 16) rfl) (by decide +kernel), tb_t (List.mem_of_getElem? (i := 6) (by decide +kernel)) (by decide +kernel), tb_t (List.mem_of_getElem? (i := 562) (by decide +kernel)) (by decide +kernel)⟩, by decide +kernel⟩
theorem okV_RX5_63 : okV RX5 RX5 63 yX5_audible cX5_audible 4 (some .int) 3 := ⟨⟨tb_t (List.mem_of_getElem? (i := 547) (by decide +kernel)) (by decide +kernel), tb_t (List.mem_of_getElem? (i := 548) (by decide +kernel)) (by decide +kernel), tb_t (List.mem_of_getElem? (i := 549) (by decide +kernel)) (by decide +kernel), tb_t (List.mem_of_getElem? (i := 6) (by decide +kernel)) (by decide +kernel), tb_t (List.mem_of_getElem? (i := 550) (by decide +kernel)) (by decide +kernel)⟩, by decide +kernel⟩
theorem okV_RX5_67 : okV RX5 RX5 67 yX5_pass cX5_pass 5 (some .boolean) 2 := ⟨⟨tb_t (List.mem_of_getElem? (i := 555) (by decide +kernel)) (by decide +kernel), tb_t (List.mem_of_getElem? (i := 556) (by decide +kernel)) (by decide +kernel), tb_t (List.mem_of_getElem? (i := 557) (by decide +kernel)) (by decide +kernel), tb_t (List.mem_of_getElem? (i := 6) (by decide +kernel)) (by decide +kernel), tb_t (List.mem_of_getElem? (i := 558) (by decide +kernel)) (by decide +kernel)⟩, by decide +kernel⟩
theorem okV_RX6_158 : okV RX6 RX9 158 yX9_at cX9_at 2 (some .int) 1 := ⟨⟨tb_t (List.mem_of_getElem? (i := 373) (by decide +kernel)) (by decide +kernel), tb_t (List.mem_of_getElem? (i := 374) (by decide +kernel)) (by decide +kernel), tb_t (List.mem_of_getElem? (i := 375) (by decide +kernel)) (by decide +kernel), tb_t (List.mem_of_getElem? (i := 3) (by decide +kernel)) (by decide +kernel), tb_t (List.mem_of_getElem? (i := 376) (by decide +kernel)) (by decide +kernel)⟩, by decide +kernel⟩
theorem okV_RX6_171 : okV RX6 RX6 171 yX6_kindOf cX6_kindOf 2 (some .int) 1 := ⟨⟨tb_t (List.mem_of_getElem? (i := 381) (by decide +kernel)) (by decide +kernel), tb_t (List.mem_of_getElem? (i := 383) (by decide +kernel)) (by decide +kernel), tb_s (q := (⟨"CallForBrown$Reader", "kindOf", "(I)I"⟩, _)) (List.mem_of_getElem? (i := 2) rfl) (by decide +kernel), tb_t (List.mem_of_getElem? (i := 2) (by decide +kernel)) (by decide +kernel), tb_t (List.mem_of_getElem? (i := 384) (by decide +kernel)) (by decide +kernel)⟩, by decide +kernel⟩
theorem okV_RX6_168 : okV RX6 RX6 168 yX6_isBlank cX6_isBlank 2 (some .boolean) 1 := ⟨⟨tb_t (List.mem_of_getElem? (i := 377) (by decide +kernel)) (by decide +kernel), tb_t (List.mem_of_getElem? (i := 379) (by decide +kernel)) (by decide +kernel), tb_s (q := (⟨"CallForBrown$Reader", "isBlank", "(I)Z"⟩, _)) (List.mem_of_getElem? (i := 1) rfl) (by decide +kernel), tb_t (List.mem_of_getElem? (i := 2) (by decide +kernel)) (by decide +kernel), tb_t (List.mem_of_getElem? (i := 380) (by decide +kernel)) (by decide +kernel)⟩, by decide +kernel⟩
theorem okV_RX6_153 : okV RX6 RJ0 153 yJ0_length_8abf5 cJ0_length_8abf5 1 (some .int) 0 := ⟨⟨tb_t (List.mem_of_getElem? (i := 395) (by decide +kernel)) (by decide +kernel), tb_t (List.mem_of_getElem? (i := 396) (by decide +kernel)) (by decide +kernel), tb_t (List.mem_of_getElem? (i := 397) (by decide +kernel)) (by decide +kernel), tb_t (List.mem_of_getElem? (i := 13) (by decide +kernel)) (by decide +kernel), tb_t (List.mem_of_getElem? (i := 398) (by decide +kernel)) (by decide +kernel)⟩, by decide +kernel⟩
theorem okV_RX6_161 : okV RX6 RJ0 161 yJ0_charAt_5068e cJ0_charAt_5068e 2 (some .char) 1 := ⟨⟨tb_t (List.mem_of_getElem? (i := 405) (by decide +kernel)) (by decide +kernel), tb_t (List.mem_of_getElem? (i := 406) (by decide +kernel)) (by decide +kernel), tb_t (List.mem_of_getElem? (i := 407) (by decide +kernel)) (by decide +kernel), tb_t (List.mem_of_getElem? (i := 13) (by decide +kernel)) (by decide +kernel), tb_t (List.mem_of_getElem? (i := 408) (by decide +kernel)) (by decide +kernel)⟩, by decide +kernel⟩
theorem okV_RX6_52 : okV RX6 RX6 52 yX6_fail cX6_fail 2 (some .boolean) 1 := ⟨⟨tb_t (List.mem_of_getElem? (i := 443) (by decide +kernel)) (by decide +kernel), tb_t (List.mem_of_getElem? (i := 445) (by decide +kernel)) (by decide +kernel), tb_s (q := (⟨"CallForBrown$Reader", "fail", "(I)Z"⟩, _)) (List.mem_of_getElem? (i := 5) rfl) (by decide +kernel), tb_t (List.mem_of_getElem? (i := 2) (by decide +kernel)) (by decide +kernel), tb_t (List.mem_of_getElem? (i := 446) (by decide +kernel)) (by decide +kernel)⟩, by decide +kernel⟩
theorem okV_RX6_33 : okV RX6 RX6 33 yX6_advance cX6_advance 1 none 0 := ⟨⟨tb_t (List.mem_of_getElem? (i := 369) (by decide +kernel)) (by decide +kernel), tb_t (List.mem_of_getElem? (i := 371) (by decide +kernel)) (by decide +kernel), tb_s (q := (⟨"CallForBrown$Reader", "advance", "()V"⟩, _)) (List.mem_of_getElem? (i := 0) rfl) (by decide +kernel), tb_t (List.mem_of_getElem? (i := 2) (by decide +kernel)) (by decide +kernel), tb_t (List.mem_of_getElem? (i := 372) (by decide +kernel)) (by decide +kernel)⟩, by decide +kernel⟩
theorem okV_RX6_48 : okV RX6 RX6 48 yX6_isWord cX6_isWord 3 (some .boolean) 1 := ⟨⟨tb_t (List.mem_of_getElem? (i := 391) (by decide +kernel)) (by decide +kernel), tb_t (List.mem_of_getElem? (i := 393) (by decide +kernel)) (by decide +kernel), tb_s (q := (⟨"CallForBrown$Reader", "isWord", "(Ljava/lang/String;)Z"⟩, _)) (List.mem_of_getElem? (i := 4) rfl) (by decide +kernel), tb_t (List.mem_of_getElem? (i := 2) (by decide +kernel)) (by decide +kernel), tb_t (List.mem_of_getElem? (i := 394) (by decide +kernel)) (by decide +kernel)⟩, by decide +kernel⟩
theorem okV_RX6_120 : okV RX6 RX6 120 yX6_takeNumber cX6_takeNumber 5 (some .int) 3 := ⟨⟨tb_t (List.mem_of_getElem? (i := 456) (by decide +kernel)) (by decide +kernel), tb_t (List.mem_of_getElem? (i := 458) (by decide +kernel)) (by decide +kernel), tb_s (q := (⟨"CallForBrown$Reader", "takeNumber", "(III)I"⟩, _)) (List.mem_of_getElem? (i := 8) rfl) (by decide +kernel), tb_t (List.mem_of_getElem? (i := 2) (by decide +kernel)) (by decide +kernel), tb_t (List.mem_of_getElem? (i := 459) (by decide +kernel)) (by decide +kernel)⟩, by decide +kernel⟩
theorem okV_RX6_85 : okV RX6 RX6 85 yX6_takeNamed cX6_takeNamed 4 (some .int) 3 := ⟨⟨tb_t (List.mem_of_getElem? (i := 452) (by decide +kernel)) (by decide +kernel), tb_t (List.mem_of_getElem? (i := 454) (by decide +kernel)) (by decide +kernel), tb_s (q := (⟨"CallForBrown$Reader", "takeNamed", "(Ljava/lang/String;II)I"⟩, _)) (List.mem_of_getElem? (i := 7) rfl) (by decide +kernel), tb_t (List.mem_of_getElem? (i := 2) (by decide +kernel)) (by decide +kernel), tb_t (List.mem_of_getElem? (i := 455) (by decide +kernel)) (by decide +kernel)⟩, by decide +kernel⟩
theorem okV_RX6_116 : okV RX6 RX3 116 yX3_addRoom cX3_addRoom 4 none 3 := ⟨⟨tb_t (List.mem_of_getElem? (i := 474) (by decide +kernel)) (by decide +kernel), tb_t (List.mem_of_getElem? (i := 475) (by decide +kernel)) (by decide +kernel), tb_t (List.mem_of_getElem? (i := 476) (by decide +kernel)) (by decide +kernel), tb_t (List.mem_of_getElem? (i := 4) (by decide +kernel)) (by decide +kernel), tb_t (List.mem_of_getElem? (i := 477) (by decide +kernel)) (by decide +kernel)⟩, by decide +kernel⟩
theorem okV_RX6_124 : okV RX6 RX3 124 yX3_openDoor cX3_openDoor 3 none 2 := ⟨⟨tb_t (List.mem_of_getElem? (i := 483) (by decide +kernel)) (by decide +kernel), tb_t (List.mem_of_getElem? (i := 484) (by decide +kernel)) (by decide +kernel), tb_t (List.mem_of_getElem? (i := 485) (by decide +kernel)) (by decide +kernel), tb_t (List.mem_of_getElem? (i := 4) (by decide +kernel)) (by decide +kernel), tb_t (List.mem_of_getElem? (i := 486) (by decide +kernel)) (by decide +kernel)⟩, by decide +kernel⟩
theorem okV_RX6_139 : okV RX6 RX3 139 yX3_addMan cX3_addMan 4 none 2 := ⟨⟨tb_t (List.mem_of_getElem? (i := 502) (by decide +kernel)) (by decide +kernel), tb_t (List.mem_of_getElem? (i := 503) (by decide +kernel)) (by decide +kernel), tb_t (List.mem_of_getElem? (i := 504) (by decide +kernel)) (by decide +kernel), tb_t (List.mem_of_getElem? (i := 4) (by decide +kernel)) (by decide +kernel), tb_t (List.mem_of_getElem? (i := 505) (by decide +kernel)) (by decide +kernel)⟩, by decide +kernel⟩
theorem okV_RX6_135 : okV RX6 RX6 135 yX6_takeQuestions cX6_takeQuestions 4 (some .int) 0 := ⟨⟨tb_t (List.mem_of_getElem? (i := 498) (by decide +kernel)) (by decide +kernel), tb_t (List.mem_of_getElem? (i := 500) (by decide +kernel)) (by decide +kernel), tb_s (q := (⟨"CallForBrown$Reader", "takeQuestions", "()I"⟩, _)) (List.mem_of_getElem? (i := 12) rfl) (by decide +kernel), tb_t (List.mem_of_getElem? (i := 2) (by decide +kernel)) (by decide +kernel), tb_t (List.mem_of_getElem? (i := 501) (by decide +kernel)) (by decide +kernel)⟩, by decide +kernel⟩
theorem okV_RX6_144 : okV RX6 RX3 144 yX3_tellSlate cX3_tellSlate 4 none 3 := ⟨⟨tb_t (List.mem_of_getElem? (i := 512) (by decide +kernel)) (by decide +kernel), tb_t (List.mem_of_getElem? (i := 513) (by decide +kernel)) (by decide +kernel), tb_t (List.mem_of_getElem? (i := 514) (by decide +kernel)) (by decide +kernel), tb_t (List.mem_of_getElem? (i := 4) (by decide +kernel)) (by decide +kernel), tb_t (List.mem_of_getElem? (i := 515) (by decide +kernel)) (by decide +kernel)⟩, by decide +kernel⟩
theorem okV_RX6_79 : okV RX6 RX6 79 yX6_takeSign cX6_takeSign 1 (some .boolean) 0 := ⟨⟨tb_t (List.mem_of_getElem? (i := 516) (by decide +kernel)) (by decide +kernel), tb_t (List.mem_of_getElem? (i := 518) (by decide +kernel)) (by decide +kernel), tb_s (q := (⟨"CallForBrown$Reader", "takeSign", "()Z"⟩, _)) (List.mem_of_getElem? (i := 14) rfl) (by decide +kernel), tb_t (List.mem_of_getElem? (i := 2) (by decide +kernel)) (by decide +kernel), tb_t (List.mem_of_getElem? (i := 519) (by decide +kernel)) (by decide +kernel)⟩, by decide +kernel⟩
theorem okV_RX6_76 : okV RX6 RX6 76 yX6_readSlate cX6_readSlate 5 (some .boolean) 1 := ⟨⟨tb_t (List.mem_of_getElem? (i := 507) (by decide +kernel)) (by decide +kernel), tb_t (List.mem_of_getElem? (i := 509) (by decide +kernel)) (by decide +kernel), tb_s (q := (⟨"CallForBrown$Reader", "readSlate", "(LCallForBrown$House;)Z"⟩, _)) (List.mem_of_getElem? (i := 13) rfl) (by decide +kernel), tb_t (List.mem_of_getElem? (i := 2) (by decide +kernel)) (by decide +kernel), tb_t (List.mem_of_getElem? (i := 510) (by decide +kernel)) (by decide +kernel)⟩, by decide +kernel⟩
theorem okV_RX6_71 : okV RX6 RX6 71 yX6_readMan cX6_readMan 4 (some .boolean) 1 := ⟨⟨tb_t (List.mem_of_getElem? (i := 492) (by decide +kernel)) (by decide +kernel), tb_t (List.mem_of_getElem? (i := 494) (by decide +kernel)) (by decide +kernel), tb_s (q := (⟨"CallForBrown$Reader", "readMan", "(LCallForBrown$House;)Z"⟩, _)) (List.mem_of_getElem? (i := 11) rfl) (by decide +kernel), tb_t (List.mem_of_getElem? (i := 2) (by decide +kernel)) (by decide +kernel), tb_t (List.mem_of_getElem? (i := 495) (by decide +kernel)) (by decide +kernel)⟩, by decide +kernel⟩
theorem okV_RX6_66 : okV RX6 RX6 66 yX6_readDoor cX6_readDoor 4 (some .boolean) 1 := ⟨⟨tb_t (List.mem_of_getElem? (i := 479) (by decide +kernel)) (by decide +kernel), tb_t (List.mem_of_getElem? (i := 481) (by decide +kernel)) (by decide +kernel), tb_s (q := (⟨"CallForBrown$Reader", "readDoor", "(LCallForBrown$House;)Z"⟩, _)) (List.mem_of_getElem? (i := 10) rfl) (by decide +kernel), tb_t (List.mem_of_getElem? (i := 2) (by decide +kernel)) (by decide +kernel), tb_t (List.mem_of_getElem? (i := 482) (by decide +kernel)) (by decide +kernel)⟩, by decide +kernel⟩
theorem okV_RX6_61 : okV RX6 RX6 61 yX6_readRoom cX6_readRoom 5 (some .boolean) 1 := ⟨⟨tb_t (List.mem_of_getElem? (i := 464) (by decide +kernel)) (by decide +kernel), tb_t (List.mem_of_getElem? (i := 466) (by decide +kernel)) (by decide +kernel), tb_s (q := (⟨"CallForBrown$Reader", "readRoom", "(LCallForBrown$House;)Z"⟩, _)) (List.mem_of_getElem? (i := 9) rfl) (by decide +kernel), tb_t (List.mem_of_getElem? (i := 2) (by decide +kernel)) (by decide +kernel), tb_t (List.mem_of_getElem? (i := 467) (by decide +kernel)) (by decide +kernel)⟩, by decide +kernel⟩
theorem okV_RX6_56 : okV RX6 RX6 56 yX6_readFirst cX6_readFirst 2 (some .boolean) 1 := ⟨⟨tb_t (List.mem_of_getElem? (i := 447) (by decide +kernel)) (by decide +kernel), tb_t (List.mem_of_getElem? (i := 449) (by decide +kernel)) (by decide +kernel), tb_s (q := (⟨"CallForBrown$Reader", "readFirst", "(LCallForBrown$House;)Z"⟩, _)) (List.mem_of_getElem? (i := 6) rfl) (by decide +kernel), tb_t (List.mem_of_getElem? (i := 2) (by decide +kernel)) (by decide +kernel), tb_t (List.mem_of_getElem? (i := 450) (by decide +kernel)) (by decide +kernel)⟩, by decide +kernel⟩
theorem okV_RX6_22 : okV RX6 RX3 22 yX3_clear cX3_clear 1 none 0 := ⟨⟨tb_t (List.mem_of_getElem? (i := 365) (by decide +kernel)) (by decide +kernel), tb_t (List.mem_of_getElem? (i := 366) (by decide +kernel)) (by decide +kernel), tb_t (List.mem_of_getElem? (i := 367) (by decide +kernel)) (by decide +kernel), tb_t (List.mem_of_getElem? (i := 4) (by decide +kernel)) (by decide +kernel), tb_t (List.mem_of_getElem? (i := 368) (by decide +kernel)) (by decide +kernel)⟩, by decide +kernel⟩
theorem okV_RX6_39 : okV RX6 RX6 39 yX6_readLine cX6_readLine 4 (some .boolean) 1 := ⟨⟨tb_t (List.mem_of_getElem? (i := 386) (by decide +kernel)) (by decide +kernel), tb_t (List.mem_of_getElem? (i := 388) (by decide +kernel)) (by decide +kernel), tb_s (q := (⟨"CallForBrown$Reader", "readLine", "(LCallForBrown$House;)Z"⟩, _)) (List.mem_of_getElem? (i := 3) rfl) (by decide +kernel), tb_t (List.mem_of_getElem? (i := 2) (by decide +kernel)) (by decide +kernel), tb_t (List.mem_of_getElem? (i := 389) (by decide +kernel)) (by decide +kernel)⟩, by decide +kernel⟩
theorem okV_RX2_35 : okV RX2 RX2 35 yX2_next cX2_next 2 (some .int) 1 := ⟨⟨tb_t (List.mem_of_getElem? (i := 1069) (by decide +kernel)) (by decide +kernel), tb_t (List.mem_of_getElem? (i := 1071) (by decide +kernel)) (by decide +kernel), tb_s (q := (⟨"CallForBrown$Evening", "next", "(I)I"⟩, _)) (List.mem_of_getElem? (i := 52) rfl) (by decide +kernel), tb_t (List.mem_of_getElem? (i := 10) (by decide +kernel)) (by decide +kernel), tb_t (List.mem_of_getElem? (i := 1072) (by decide +kernel)) (by decide +kernel)⟩, by decide +kernel⟩
theorem okV_RX2_51 : okV RX2 RX3 51 yX3_allSits cX3_allSits 3 (some .int) 0 := ⟨⟨tb_t (List.mem_of_getElem? (i := 1077) (by decide +kernel)) (by decide +kernel), tb_t (List.mem_of_getElem? (i := 536) (by decide +kernel)) (by decide +kernel), tb_t (List.mem_of_getElem? (i := 537) (by decide +kernel)) (by decide +kernel), tb_t (List.mem_of_getElem? (i := 4) (by decide +kernel)) (by decide +kernel), tb_t (List.mem_of_getElem? (i := 538) (by decide +kernel)) (by decide +kernel)⟩, by decide +kernel⟩
theorem okV_RX2_19 : okV RX2 RX2 19 yX2_takeSeat cX2_takeSeat 6 (some .int) 1 := ⟨⟨tb_t (List.mem_of_getElem? (i := 1065) (by decide +kernel)) (by decide +kernel), tb_t (List.mem_of_getElem? (i := 1067) (by decide +kernel)) (by decide +kernel), tb_s (q := (⟨"CallForBrown$Evening", "takeSeat", "(LCallForBrown$House;)I"⟩, _)) (List.mem_of_getElem? (i := 51) rfl) (by decide +kernel), tb_t (List.mem_of_getElem? (i := 10) (by decide +kernel)) (by decide +kernel), tb_t (List.mem_of_getElem? (i := 1068) (by decide +kernel)) (by decide +kernel)⟩, by decide +kernel⟩
theorem okV_RX2_31 : okV RX2 RX7 31 yX7_roomAt cX7_roomAt 2 (some .int) 1 := ⟨⟨tb_t (List.mem_of_getElem? (i := 1078) (by decide +kernel)) (by decide +kernel), tb_t (List.mem_of_getElem? (i := 692) (by decide +kernel)) (by decide +kernel), tb_t (List.mem_of_getElem? (i := 693) (by decide +kernel)) (by decide +kernel), tb_t (List.mem_of_getElem? (i := 11) (by decide +kernel)) (by decide +kernel), tb_t (List.mem_of_getElem? (i := 694) (by decide +kernel)) (by decide +kernel)⟩, by decide +kernel⟩
theorem okV_RX2_44 : okV RX2 RX2 44 yX2_move cX2_move 5 none 1 := ⟨⟨tb_t (List.mem_of_getElem? (i := 1079) (by decide +kernel)) (by decide +kernel), tb_t (List.mem_of_getElem? (i := 1081) (by decide +kernel)) (by decide +kernel), tb_s (q := (⟨"CallForBrown$Evening", "move", "(LCallForBrown$House;)V"⟩, _)) (List.mem_of_getElem? (i := 53) rfl) (by decide +kernel), tb_t (List.mem_of_getElem? (i := 10) (by decide +kernel)) (by decide +kernel), tb_t (List.mem_of_getElem? (i := 1082) (by decide +kernel)) (by decide +kernel)⟩, by decide +kernel⟩
theorem okV_RX4_32 : okV RX4 RX3 32 yX3_whoSayYes cX3_whoSayYes 5 (some .int) 2 := ⟨⟨tb_t (List.mem_of_getElem? (i := 945) (by decide +kernel)) (by decide +kernel), tb_t (List.mem_of_getElem? (i := 946) (by decide +kernel)) (by decide +kernel), tb_t (List.mem_of_getElem? (i := 947) (by decide +kernel)) (by decide +kernel), tb_t (List.mem_of_getElem? (i := 4) (by decide +kernel)) (by decide +kernel), tb_t (List.mem_of_getElem? (i := 948) (by decide +kernel)) (by decide +kernel)⟩, by decide +kernel⟩
theorem okV_RX4_22 : okV RX4 RX4 22 yX4_askedFirst cX4_askedFirst 6 (some .int) 3 := ⟨⟨tb_t (List.mem_of_getElem? (i := 941) (by decide +kernel)) (by decide +kernel), tb_t (List.mem_of_getElem? (i := 943) (by decide +kernel)) (by decide +kernel), tb_s (q := (⟨"CallForBrown$Men", "askedFirst", "(LCallForBrown$House;II)I"⟩, _)) (List.mem_of_getElem? (i := 42) rfl) (by decide +kernel), tb_t (List.mem_of_getElem? (i := 9) (by decide +kernel)) (by decide +kernel), tb_t (List.mem_of_getElem? (i := 944) (by decide +kernel)) (by decide +kernel)⟩, by decide +kernel⟩
