theorem fl_RX9_9 : Cond.fieldLink RX9 9 (TX9 0).1 (TX9 0).2.1 (TX9 0).2.2.1 ∈ tb := tb_t (List.mem_of_getElem? (i := 41) (by decide +kernel)) (by decide +kernel)
theorem fl_RX6_12 : Cond.fieldLink RX6 12 (TX6 0).1 (TX6 0).2.1 (TX6 0).2.2.1 ∈ tb := tb_t (List.mem_of_getElem? (i := 51) (by decide +kernel)) (by decide +kernel)
theorem fl_RX6_18 : Cond.fieldLink RX6 18 (TX6 6).1 (TX6 6).2.1 (TX6 6).2.2.1 ∈ tb := tb_t (List.mem_of_getElem? (i := 59) (by decide +kernel)) (by decide +kernel)
theorem fl_RX3_9 : Cond.fieldLink RX3 9 (TX3 7).1 (TX3 7).2.1 (TX3 7).2.2.1 ∈ tb := tb_t (List.mem_of_getElem? (i := 110) (by decide +kernel)) (by decide +kernel)
theorem fl_RX3_15 : Cond.fieldLink RX3 15 (TX3 8).1 (TX3 8).2.1 (TX3 8).2.2.1 ∈ tb := tb_t (List.mem_of_getElem? (i := 112) (by decide +kernel)) (by decide +kernel)
theorem fl_RX3_18 : Cond.fieldLink RX3 18 (TX3 9).1 (TX3 9).2.1 (TX3 9).2.2.1 ∈ tb := tb_t (List.mem_of_getElem? (i := 114) (by decide +kernel)) (by decide +kernel)
theorem fl_RX3_21 : Cond.fieldLink RX3 21 (TX3 10).1 (TX3 10).2.1 (TX3 10).2.2.1 ∈ tb := tb_t (List.mem_of_getElem? (i := 117) (by decide +kernel)) (by decide +kernel)
theorem fl_RX3_24 : Cond.fieldLink RX3 24 (TX3 11).1 (TX3 11).2.1 (TX3 11).2.2.1 ∈ tb := tb_t (List.mem_of_getElem? (i := 120) (by decide +kernel)) (by decide +kernel)
theorem fl_RX3_27 : Cond.fieldLink RX3 27 (TX3 12).1 (TX3 12).2.1 (TX3 12).2.2.1 ∈ tb := tb_t (List.mem_of_getElem? (i := 123) (by decide +kernel)) (by decide +kernel)
theorem fl_RX3_30 : Cond.fieldLink RX3 30 (TX3 13).1 (TX3 13).2.1 (TX3 13).2.2.1 ∈ tb := tb_t (List.mem_of_getElem? (i := 126) (by decide +kernel)) (by decide +kernel)
theorem fl_RX8_12 : Cond.fieldLink RX8 12 (TX8 0).1 (TX8 0).2.1 (TX8 0).2.2.1 ∈ tb := tb_t (List.mem_of_getElem? (i := 167) (by decide +kernel)) (by decide +kernel)
theorem fl_RX8_18 : Cond.fieldLink RX8 18 (TX8 1).1 (TX8 1).2.1 (TX8 1).2.2.1 ∈ tb := tb_t (List.mem_of_getElem? (i := 169) (by decide +kernel)) (by decide +kernel)
theorem fl_RX7_9 : Cond.fieldLink RX7 9 (TX7 0).1 (TX7 0).2.1 (TX7 0).2.2.1 ∈ tb := tb_t (List.mem_of_getElem? (i := 290) (by decide +kernel)) (by decide +kernel)
theorem fl_RX5_9 : Cond.fieldLink RX5 9 (TX5 0).1 (TX5 0).2.1 (TX5 0).2.2.1 ∈ tb := tb_t (List.mem_of_getElem? (i := 192) (by decide +kernel)) (by decide +kernel)
theorem fl_RX5_15 : Cond.fieldLink RX5 15 (TX5 1).1 (TX5 1).2.1 (TX5 1).2.2.1 ∈ tb := tb_t (List.mem_of_getElem? (i := 194) (by decide +kernel)) (by decide +kernel)
theorem fl_RX0_11 : Cond.fieldLink RX0 11 (TX0 0).1 (TX0 0).2.1 (TX0 0).2.2.1 ∈ tb := tb_t (List.mem_of_getElem? (i := 218) (by decide +kernel)) (by decide +kernel)
theorem fl_RX0_19 : Cond.fieldLink RX0 19 (TX0 1).1 (TX0 1).2.1 (TX0 1).2.2.1 ∈ tb := tb_t (List.mem_of_getElem? (i := 219) (by decide +kernel)) (by decide +kernel)
theorem fl_RX0_22 : Cond.fieldLink RX0 22 (TX0 2).1 (TX0 2).2.1 (TX0 2).2.2.1 ∈ tb := tb_t (List.mem_of_getElem? (i := 220) (by decide +kernel)) (by decide +kernel)
theorem fl_RX1_11 : Cond.fieldLink RX1 11 (TX1 0).1 (TX1 0).2.1 (TX1 0).2.2.1 ∈ tb := tb_t (List.mem_of_getElem? (i := 234) (by decide +kernel)) (by decide +kernel)
theorem fl_RX1_15 : Cond.fieldLink RX1 15 (TX1 1).1 (TX1 1).2.1 (TX1 1).2.2.1 ∈ tb := tb_t (List.mem_of_getElem? (i := 235) (by decide +kernel)) (by decide +kernel)
theorem fl_RX1_19 : Cond.fieldLink RX1 19 (TX1 2).1 (TX1 2).2.1 (TX1 2).2.2.1 ∈ tb := tb_t (List.mem_of_getElem? (i := 236) (by decide +kernel)) (by decide +kernel)
theorem fl_RX1_22 : Cond.fieldLink RX1 22 (TX1 3).1 (TX1 3).2.1 (TX1 3).2.2.1 ∈ tb := tb_t (List.mem_of_getElem? (i := 237) (by decide +kernel)) (by decide +kernel)
theorem fl_RX1_25 : Cond.fieldLink RX1 25 (TX1 4).1 (TX1 4).2.1 (TX1 4).2.2.1 ∈ tb := tb_t (List.mem_of_getElem? (i := 238) (by decide +kernel)) (by decide +kernel)
theorem fl_RX1_28 : Cond.fieldLink RX1 28 (TX1 6).1 (TX1 6).2.1 (TX1 6).2.2.1 ∈ tb := tb_t (List.mem_of_getElem? (i := 240) (by decide +kernel)) (by decide +kernel)
theorem fl_RX4_11 : Cond.fieldLink RX4 11 (TX4 0).1 (TX4 0).2.1 (TX4 0).2.2.1 ∈ tb := tb_t (List.mem_of_getElem? (i := 263) (by decide +kernel)) (by decide +kernel)
theorem fl_RX10_10 : Cond.fieldLink RX10 10 (TX10 0).1 (TX10 0).2.1 (TX10 0).2.2.1 ∈ tb := tb_t (List.mem_of_getElem? (i := 308) (by decide +kernel)) (by decide +kernel)
theorem fl_RX10_16 : Cond.fieldLink RX10 16 (TX6 0).1 (TX6 0).2.1 (TX6 0).2.2.1 ∈ tb := tb_t (List.mem_of_getElem? (i := 52) (by decide +kernel)) (by decide +kernel)
theorem fl_RX10_20 : Cond.fieldLink RX10 20 (TX10 1).1 (TX10 1).2.1 (TX10 1).2.2.1 ∈ tb := tb_t (List.mem_of_getElem? (i := 309) (by decide +kernel)) (by decide +kernel)
theorem fl_RX10_24 : Cond.fieldLink RX10 24 (TX10 2).1 (TX10 2).2.1 (TX10 2).2.2.1 ∈ tb := tb_t (List.mem_of_getElem? (i := 310) (by decide +kernel)) (by decide +kernel)
theorem fl_RX10_31 : Cond.fieldLink RX10 31 (TX10 3).1 (TX10 3).2.1 (TX10 3).2.2.1 ∈ tb := tb_t (List.mem_of_getElem? (i := 311) (by decide +kernel)) (by decide +kernel)
theorem fl_RX10_35 : Cond.fieldLink RX10 35 (TX10 4).1 (TX10 4).2.1 (TX10 4).2.2.1 ∈ tb := tb_t (List.mem_of_getElem? (i := 312) (by decide +kernel)) (by decide +kernel)
theorem fl_RX10_41 : Cond.fieldLink RX10 41 (TX10 5).1 (TX10 5).2.1 (TX10 5).2.2.1 ∈ tb := tb_t (List.mem_of_getElem? (i := 313) (by decide +kernel)) (by decide +kernel)
theorem fl_RX10_48 : Cond.fieldLink RX10 48 (TX10 6).1 (TX10 6).2.1 (TX10 6).2.2.1 ∈ tb := tb_t (List.mem_of_getElem? (i := 314) (by decide +kernel)) (by decide +kernel)
theorem fl_RX10_52 : Cond.fieldLink RX10 52 (TX10 7).1 (TX10 7).2.1 (TX10 7).2.2.1 ∈ tb := tb_t (List.mem_of_getElem? (i := 315) (by decide +kernel)) (by decide +kernel)
theorem fl_RX10_58 : Cond.fieldLink RX10 58 (TX10 8).1 (TX10 8).2.1 (TX10 8).2.2.1 ∈ tb := tb_t (List.mem_of_getElem? (i := 316) (by decide +kernel)) (by decide +kernel)
theorem fl_RX10_65 : Cond.fieldLink RX10 65 (TX10 9).1 (TX10 9).2.1 (TX10 9).2.2.1 ∈ tb := tb_t (List.mem_of_getElem? (i := 317) (by decide +kernel)) (by decide +kernel)
theorem fl_RX10_72 : Cond.fieldLink RX10 72 (TX10 10).1 (TX10 10).2.1 (TX10 10).2.2.1 ∈ tb := tb_t (List.mem_of_getElem? (i := 318) (by decide +kernel)) (by decide +kernel)
theorem fl_RX10_79 : Cond.fieldLink RX10 79 (TX10 11).1 (TX10 11).2.1 (TX10 11).2.2.1 ∈ tb := tb_t (List.mem_of_getElem? (i := 319) (by decide +kernel)) (by decide +kernel)
theorem fl_RX11_9 : Cond.fieldLink RX11 9 (TX11 1).1 (TX11 1).2.1 (TX11 1).2.2.1 ∈ tb := tb_t (List.mem_of_getElem? (i := 1162) (by decide +kernel)) (by decide +kernel)
theorem fl_RX11_13 : Cond.fieldLink RX11 13 (TX11 2).1 (TX11 2).2.1 (TX11 2).2.2.1 ∈ tb := tb_t (List.mem_of_getElem? (i := 1163) (by decide +kernel)) (by decide +kernel)
theorem fl_RX11_16 : Cond.fieldLink RX11 16 (TX11 3).1 (TX11 3).2.1 (TX11 3).2.2.1 ∈ tb := tb_t (List.mem_of_getElem? (i := 1164) (by decide +kernel)) (by decide +kernel)
theorem fl_RX11_20 : Cond.fieldLink RX11 20 (TX11 4).1 (TX11 4).2.1 (TX11 4).2.2.1 ∈ tb := tb_t (List.mem_of_getElem? (i := 1165) (by decide +kernel)) (by decide +kernel)
theorem fl_RX11_24 : Cond.fieldLink RX11 24 (TX11 6).1 (TX11 6).2.1 (TX11 6).2.2.1 ∈ tb := tb_t (List.mem_of_getElem? (i := 1167) (by decide +kernel)) (by decide +kernel)
theorem fl_RX11_27 : Cond.fieldLink RX11 27 (TX11 13).1 (TX11 13).2.1 (TX11 13).2.2.1 ∈ tb := tb_t (List.mem_of_getElem? (i := 1174) (by decide +kernel)) (by decide +kernel)
theorem fl_RX11_31 : Cond.fieldLink RX11 31 (TX11 14).1 (TX11 14).2.1 (TX11 14).2.2.1 ∈ tb := tb_t (List.mem_of_getElem? (i := 1175) (by decide +kernel)) (by decide +kernel)
theorem fl_RX11_34 : Cond.fieldLink RX11 34 (TX11 15).1 (TX11 15).2.1 (TX11 15).2.2.1 ∈ tb := tb_t (List.mem_of_getElem? (i := 1176) (by decide +kernel)) (by decide +kernel)
theorem fl_RX11_37 : Cond.fieldLink RX11 37 (TX11 16).1 (TX11 16).2.1 (TX11 16).2.2.1 ∈ tb := tb_t (List.mem_of_getElem? (i := 1177) (by decide +kernel)) (by decide +kernel)
theorem fl_RX11_40 : Cond.fieldLink RX11 40 (TX11 19).1 (TX11 19).2.1 (TX11 19).2.2.1 ∈ tb := tb_t (List.mem_of_getElem? (i := 1180) (by decide +kernel)) (by decide +kernel)
theorem fl_RX11_43 : Cond.fieldLink RX11 43 (TX11 20).1 (TX11 20).2.1 (TX11 20).2.2.1 ∈ tb := tb_t (List.mem_of_getElem? (i := 1181) (by decide +kernel)) (by decide +kernel)
theorem fl_RX11_46 : Cond.fieldLink RX11 46 (TX11 21).1 (TX11 21).2.1 (TX11 21).2.2.1 ∈ tb := tb_t (List.mem_of_getElem? (i := 1182) (by decide +kernel)) (by decide +kernel)
theorem fl_RX11_49 : Cond.fieldLink RX11 49 (TX11 23).1 (TX11 23).2.1 (TX11 23).2.2.1 ∈ tb := tb_t (List.mem_of_getElem? (i := 1184) (by decide +kernel)) (by decide +kernel)
theorem fl_RX11_52 : Cond.fieldLink RX11 52 (TX11 24).1 (TX11 24).2.1 (TX11 24).2.2.1 ∈ tb := tb_t (List.mem_of_getElem? (i := 1185) (by decide +kernel)) (by decide +kernel)
theorem fl_RX11_55 : Cond.fieldLink RX11 55 (TX11 25).1 (TX11 25).2.1 (TX11 25).2.2.1 ∈ tb := tb_t (List.mem_of_getElem? (i := 1186) (by decide +kernel)) (by decide +kernel)
theorem fl_RX11_58 : Cond.fieldLink RX11 58 (TX11 27).1 (TX11 27).2.1 (TX11 27).2.2.1 ∈ tb := tb_t (List.mem_of_getElem? (i := 1188) (by decide +kernel)) (by decide +kernel)
theorem fl_RX11_61 : Cond.fieldLink RX11 61 (TX11 31).1 (TX11 31).2.1 (TX11 31).2.2.1 ∈ tb := tb_t (List.mem_of_getElem? (i := 1192) (by decide +kernel)) (by decide +kernel)
theorem fl_RX11_64 : Cond.fieldLink RX11 64 (TX11 32).1 (TX11 32).2.1 (TX11 32).2.2.1 ∈ tb := tb_t (List.mem_of_getElem? (i := 1193) (by decide +kernel)) (by decide +kernel)
theorem fl_RX11_67 : Cond.fieldLink RX11 67 (TX11 33).1 (TX11 33).2.1 (TX11 33).2.2.1 ∈ tb := tb_t (List.mem_of_getElem? (i := 1194) (by decide +kernel)) (by decide +kernel)
theorem fl_RX11_71 : Cond.fieldLink RX11 71 (TX11 34).1 (TX11 34).2.1 (TX11 34).2.2.1 ∈ tb := tb_t (List.mem_of_getElem? (i := 1195) (by decide +kernel)) (by decide +kernel)
theorem no_RX6_9 : Cond.classLink RX6 9 RX9 ∈ tb ∧ Cond.instantiable RX9 2 ∈ tb ∧ Cond.initialized RX9 ∈ tb := ⟨tb_t (List.mem_of_getElem? (i := 35) (by decide +kernel)) (by decide +kernel), tb_t (List.mem_of_getElem? (i := 36) (by decide +kernel)) (by decide +kernel), tb_t (List.mem_of_getElem? (i := 3) (by decide +kernel)) (by decide +kernel)⟩
theorem dfX9 : ∀ j, j < 2 → defaultValue (tyX9 j) = vp_V [.null, .int 0] j := fun j hj => match j, hj with
  | 0, _ => rfl
  | 1, _ => rfl
  | (k + 2), h9 => absurd h9 (by omega)
theorem no_RX8_9 : Cond.classLink RX8 9 RX3 ∈ tb ∧ Cond.instantiable RX3 14 ∈ tb ∧ Cond.initialized RX3 ∈ tb := ⟨tb_t (List.mem_of_getElem? (i := 165) (by decide +kernel)) (by decide +kernel), tb_t (List.mem_of_getElem? (i := 77) (by decide +kernel)) (by decide +kernel), tb_t (List.mem_of_getElem? (i := 4) (by decide +kernel)) (by decide +kernel)⟩
theorem dfX3 : ∀ j, j < 14 → defaultValue (tyX3 j) = vp_V [.int 0, .int 0, .int 0, .int 0, .int 0, .int 0, .int 0, .null, .null, .null, .null, .null, .null, .null] j := fun j hj => match j, hj with
  | 0, _ => rfl
  | 1, _ => rfl
  | 2, _ => rfl
  | 3, _ => rfl
  | 4, _ => rfl
  | 5, _ => rfl
  | 6, _ => rfl
  | 7, _ => rfl
  | 8, _ => rfl
  | 9, _ => rfl
  | 10, _ => rfl
  | 11, _ => rfl
  | 12, _ => rfl
  | 13, _ => rfl
  | (k + 14), h9 => absurd h9 (by omega)
theorem no_RX0_9 : Cond.classLink RX0 9 RX5 ∈ tb ∧ Cond.instantiable RX5 4 ∈ tb ∧ Cond.initialized RX5 ∈ tb := ⟨tb_t (List.mem_of_getElem? (i := 213) (by decide +kernel)) (by decide +kernel), tb_t (List.mem_of_getElem? (i := 187) (by decide +kernel)) (by decide +kernel), tb_t (List.mem_of_getElem? (i := 6) (by decide +kernel)) (by decide +kernel)⟩
theorem dfX5 : ∀ j, j < 4 → defaultValue (tyX5 j) = vp_V [.null, .null, .int 0, .int 0] j := fun j hj => match j, hj with
  | 0, _ => rfl
  | 1, _ => rfl
  | 2, _ => rfl
  | 3, _ => rfl
  | (k + 4), h9 => absurd h9 (by omega)
theorem no_RX10_7 : Cond.classLink RX10 7 RX6 ∈ tb ∧ Cond.instantiable RX6 7 ∈ tb ∧ Cond.initialized RX6 ∈ tb := ⟨tb_t (List.mem_of_getElem? (i := 29) (by decide +kernel)) (by decide +kernel), tb_t (List.mem_of_getElem? (i := 30) (by decide +kernel)) (by decide +kernel), tb_t (List.mem_of_getElem? (i := 2) (by decide +kernel)) (by decide +kernel)⟩
theorem dfX6 : ∀ j, j < 7 → defaultValue (tyX6 j) = vp_V [.null, .int 0, .int 0, .int 0, .int 0, .int 0, .int 0] j := fun j hj => match j, hj with
  | 0, _ => rfl
  | 1, _ => rfl
  | 2, _ => rfl
  | 3, _ => rfl
  | 4, _ => rfl
  | 5, _ => rfl
  | 6, _ => rfl
  | (k + 7), h9 => absurd h9 (by omega)
theorem no_RX10_21 : Cond.classLink RX10 21 RX3 ∈ tb ∧ Cond.instantiable RX3 14 ∈ tb ∧ Cond.initialized RX3 ∈ tb := ⟨tb_t (List.mem_of_getElem? (i := 76) (by decide +kernel)) (by decide +kernel), tb_t (List.mem_of_getElem? (i := 77) (by decide +kernel)) (by decide +kernel), tb_t (List.mem_of_getElem? (i := 4) (by decide +kernel)) (by decide +kernel)⟩
theorem no_RX10_28 : Cond.classLink RX10 28 RX8 ∈ tb ∧ Cond.instantiable RX8 4 ∈ tb ∧ Cond.initialized RX8 ∈ tb := ⟨tb_t (List.mem_of_getElem? (i := 159) (by decide +kernel)) (by decide +kernel), tb_t (List.mem_of_getElem? (i := 160) (by decide +kernel)) (by decide +kernel), tb_t (List.mem_of_getElem? (i := 5) (by decide +kernel)) (by decide +kernel)⟩
theorem dfX8 : ∀ j, j < 4 → defaultValue (tyX8 j) = vp_V [.null, .null, .int 0, .int 0] j := fun j hj => match j, hj with
  | 0, _ => rfl
  | 1, _ => rfl
  | 2, _ => rfl
  | 3, _ => rfl
  | (k + 4), h9 => absurd h9 (by omega)
theorem no_RX10_45 : Cond.classLink RX10 45 RX5 ∈ tb ∧ Cond.instantiable RX5 4 ∈ tb ∧ Cond.initialized RX5 ∈ tb := ⟨tb_t (List.mem_of_getElem? (i := 186) (by decide +kernel)) (by decide +kernel), tb_t (List.mem_of_getElem? (i := 187) (by decide +kernel)) (by decide +kernel), tb_t (List.mem_of_getElem? (i := 6) (by decide +kernel)) (by decide +kernel)⟩
theorem no_RX10_55 : Cond.classLink RX10 55 RX0 ∈ tb ∧ Cond.instantiable RX0 3 ∈ tb ∧ Cond.initialized RX0 ∈ tb := ⟨tb_t (List.mem_of_getElem? (i := 207) (by decide +kernel)) (by decide +kernel), tb_t (List.mem_of_getElem? (i := 208) (by decide +kernel)) (by decide +kernel), tb_t (List.mem_of_getElem? (i := 7) (by decide +kernel)) (by decide +kernel)⟩
theorem dfX0 : ∀ j, j < 3 → defaultValue (tyX0 j) = vp_V [.null, .null, .null] j := fun j hj => match j, hj with
  | 0, _ => rfl
  | 1, _ => rfl
  | 2, _ => rfl
  | (k + 3), h9 => absurd h9 (by omega)
theorem no_RX10_62 : Cond.classLink RX10 62 RX1 ∈ tb ∧ Cond.instantiable RX1 7 ∈ tb ∧ Cond.initialized RX1 ∈ tb := ⟨tb_t (List.mem_of_getElem? (i := 228) (by decide +kernel)) (by decide +kernel), tb_t (List.mem_of_getElem? (i := 229) (by decide +kernel)) (by decide +kernel), tb_t (List.mem_of_getElem? (i := 8) (by decide +kernel)) (by decide +kernel)⟩
theorem dfX1 : ∀ j, j < 7 → defaultValue (tyX1 j) = vp_V [.null, .null, .null, .null, .null, .int 0, .int 0] j := fun j hj => match j, hj with
  | 0, _ => rfl
  | 1, _ => rfl
  | 2, _ => rfl
  | 3, _ => rfl
  | 4, _ => rfl
  | 5, _ => rfl
  | 6, _ => rfl
  | (k + 7), h9 => absurd h9 (by omega)
theorem no_RX10_69 : Cond.classLink RX10 69 RX4 ∈ tb ∧ Cond.instantiable RX4 1 ∈ tb ∧ Cond.initialized RX4 ∈ tb := ⟨tb_t (List.mem_of_getElem? (i := 257) (by decide +kernel)) (by decide +kernel), tb_t (List.mem_of_getElem? (i := 258) (by decide +kernel)) (by decide +kernel), tb_t (List.mem_of_getElem? (i := 9) (by decide +kernel)) (by decide +kernel)⟩
theorem dfX4 : ∀ j, j < 1 → defaultValue (tyX4 j) = vp_V [.null] j := fun j hj => match j, hj with
  | 0, _ => rfl
  | (k + 1), h9 => absurd h9 (by omega)
theorem no_RX10_76 : Cond.classLink RX10 76 RX2 ∈ tb ∧ Cond.instantiable RX2 3 ∈ tb ∧ Cond.initialized RX2 ∈ tb := ⟨tb_t (List.mem_of_getElem? (i := 267) (by decide +kernel)) (by decide +kernel), tb_t (List.mem_of_getElem? (i := 268) (by decide +kernel)) (by decide +kernel), tb_t (List.mem_of_getElem? (i := 10) (by decide +kernel)) (by decide +kernel)⟩
theorem dfX2 : ∀ j, j < 3 → defaultValue (tyX2 j) = vp_V [.long 0, .int 0, .int 0] j := fun j hj => match j, hj with
  | 0, _ => rfl
  | 1, _ => rfl
  | 2, _ => rfl
  | (k + 3), h9 => absurd h9 (by omega)
theorem no_RX10_39 : Cond.classLink RX10 39 RX7 ∈ tb ∧ Cond.instantiable RX7 4 ∈ tb ∧ Cond.initialized RX7 ∈ tb := ⟨tb_t (List.mem_of_getElem? (i := 184) (by decide +kernel)) (by decide +kernel), tb_t (List.mem_of_getElem? (i := 285) (by decide +kernel)) (by decide +kernel), tb_t (List.mem_of_getElem? (i := 11) (by decide +kernel)) (by decide +kernel)⟩
theorem dfX7 : ∀ j, j < 4 → defaultValue (tyX7 j) = vp_V [.null, .int 0, .int 0, .int 0] j := fun j hj => match j, hj with
  | 0, _ => rfl
  | 1, _ => rfl
  | 2, _ => rfl
  | 3, _ => rfl
  | (k + 4), h9 => absurd h9 (by omega)
theorem ac_byte : Cond.arrayClass (newarray.typeOf .byte) ∈ tb := tb_t (List.mem_of_getElem? (i := 50) (by decide +kernel)) (by decide +kernel)
theorem ac_int : Cond.arrayClass (newarray.typeOf .int) ∈ tb := tb_t (List.mem_of_getElem? (i := 158) (by decide +kernel)) (by decide +kernel)
theorem ac_long : Cond.arrayClass (newarray.typeOf .long) ∈ tb := tb_t (List.mem_of_getElem? (i := 256) (by decide +kernel)) (by decide +kernel)
theorem ac_boolean : Cond.arrayClass (newarray.typeOf .boolean) ∈ tb := tb_t (List.mem_of_getElem? (i := 1267) (by decide +kernel)) (by decide +kernel)
theorem nq_RX0_9 : Cond.classLink RX0 9 "CallForBrown$Parts" ∈ tb ∧ Cond.arrayOver (.object "CallForBrown$Parts") ∈ lw_tbl := ⟨tb_t (List.mem_of_getElem? (i := 213) (by decide +kernel)) (by decide +kernel), List.mem_append_right _ (List.mem_of_getElem? (i := 214) (by decide +kernel))⟩
theorem nq_RX10_28 : Cond.classLink RX10 28 "CallForBrown$State" ∈ tb ∧ Cond.arrayOver (.object "CallForBrown$State") ∈ lw_tbl := ⟨tb_t (List.mem_of_getElem? (i := 159) (by decide +kernel)) (by decide +kernel), List.mem_append_right _ (List.mem_of_getElem? (i := 183) (by decide +kernel))⟩
theorem nq_RX10_39 : Cond.classLink RX10 39 "CallForBrown$Row" ∈ tb ∧ Cond.arrayOver (.object "CallForBrown$Row") ∈ lw_tbl := ⟨tb_t (List.mem_of_getElem? (i := 184) (by decide +kernel)) (by decide +kernel), List.mem_append_right _ (List.mem_of_getElem? (i := 185) (by decide +kernel))⟩
theorem mn_RX0_17 : Cond.classLink RX0 17 ("[" ++ (FieldType.array .int).toString) ∈ tb ∧ Cond.arrayOver (.array .int) ∈ lw_tbl ∧ Cond.arrayClass .int ∈ tb := ⟨tb_t (List.mem_of_getElem? (i := 215) (by decide +kernel)) (by decide +kernel), List.mem_append_right _ (List.mem_of_getElem? (i := 216) (by decide +kernel)), tb_t (List.mem_of_getElem? (i := 158) (by decide +kernel)) (by decide +kernel)⟩
theorem oi_RX9_3 : Cond.methodLink RX9 3 objectInit ∈ tb := tb_t (List.mem_of_getElem? (i := 40) (by decide +kernel)) (by decide +kernel)
theorem oi_inst : Cond.instanceMethod objectInit ∈ tb := tb_t (List.mem_of_getElem? (i := 27) (by decide +kernel)) (by decide +kernel)
theorem oi_code : Cond.code objectInit ⟨#[0xb1]⟩ 1 none ∈ tb := tb_t (List.mem_of_getElem? (i := 28) (by decide +kernel)) (by decide +kernel)
theorem oi_RX6_3 : Cond.methodLink RX6 3 objectInit ∈ tb := tb_t (List.mem_of_getElem? (i := 34) (by decide +kernel)) (by decide +kernel)
theorem oi_RX3_3 : Cond.methodLink RX3 3 objectInit ∈ tb := tb_t (List.mem_of_getElem? (i := 81) (by decide +kernel)) (by decide +kernel)
theorem oi_RX8_3 : Cond.methodLink RX8 3 objectInit ∈ tb := tb_t (List.mem_of_getElem? (i := 164) (by decide +kernel)) (by decide +kernel)
theorem oi_RX7_3 : Cond.methodLink RX7 3 objectInit ∈ tb := tb_t (List.mem_of_getElem? (i := 289) (by decide +kernel)) (by decide +kernel)
theorem oi_RX5_3 : Cond.methodLink RX5 3 objectInit ∈ tb := tb_t (List.mem_of_getElem? (i := 191) (by decide +kernel)) (by decide +kernel)
theorem oi_RX0_3 : Cond.methodLink RX0 3 objectInit ∈ tb := tb_t (List.mem_of_getElem? (i := 212) (by decide +kernel)) (by decide +kernel)
theorem oi_RX1_3 : Cond.methodLink RX1 3 objectInit ∈ tb := tb_t (List.mem_of_getElem? (i := 233) (by decide +kernel)) (by decide +kernel)
theorem oi_RX2_3 : Cond.methodLink RX2 3 objectInit ∈ tb := tb_t (List.mem_of_getElem? (i := 272) (by decide +kernel)) (by decide +kernel)
theorem oi_RX4_3 : Cond.methodLink RX4 3 objectInit ∈ tb := tb_t (List.mem_of_getElem? (i := 262) (by decide +kernel)) (by decide +kernel)
theorem oi_RX10_1 : Cond.methodLink RX10 1 objectInit ∈ tb := tb_t (List.mem_of_getElem? (i := 26) (by decide +kernel)) (by decide +kernel)
theorem oi_RX11_3 : Cond.methodLink RX11 3 objectInit ∈ tb := tb_t (List.mem_of_getElem? (i := 1161) (by decide +kernel)) (by decide +kernel)
theorem okI_RX10_57 : okI RX10 57 yX0_init cX0_init 2 0 := ⟨⟨tb_t (List.mem_of_getElem? (i := 209) (by decide +kernel)) (by decide +kernel), tb_t (List.mem_of_getElem? (i := 210) (by decide +kernel)) (by decide +kernel), tb_t (List.mem_of_getElem? (i := 7) (by decide +kernel)) (by decide +kernel), tb_t (List.mem_of_getElem? (i := 211) (by decide +kernel)) (by decide +kernel)⟩, by decide +kernel, by decide +kernel⟩
theorem okN_RX6_11 : okN RX6 11 yX9_init "CallForBrown" cX9_init 1 0 := ⟨⟨List.mem_append_right _ (List.mem_of_getElem? (i := 37) (by decide +kernel)), tb_t (List.mem_of_getElem? (i := 38) (by decide +kernel)) (by decide +kernel), tb_t (List.mem_of_getElem? (i := 3) (by decide +kernel)) (by decide +kernel), tb_t (List.mem_of_getElem? (i := 39) (by decide +kernel)) (by decide +kernel)⟩, by decide +kernel, by decide +kernel⟩
theorem okN_RX8_11 : okN RX8 11 yX3_init "CallForBrown" cX3_init 1 0 := ⟨⟨List.mem_append_right _ (List.mem_of_getElem? (i := 166) (by decide +kernel)), tb_t (List.mem_of_getElem? (i := 79) (by decide +kernel)) (by decide +kernel), tb_t (List.mem_of_getElem? (i := 4) (by decide +kernel)) (by decide +kernel), tb_t (List.mem_of_getElem? (i := 80) (by decide +kernel)) (by decide +kernel)⟩, by decide +kernel, by decide +kernel⟩
theorem okN_RX0_26 : okN RX0 26 yX5_init "CallForBrown" cX5_init 1 0 := ⟨⟨List.mem_append_right _ (List.mem_of_getElem? (i := 217) (by decide +kernel)), tb_t (List.mem_of_getElem? (i := 189) (by decide +kernel)) (by decide +kernel), tb_t (List.mem_of_getElem? (i := 6) (by decide +kernel)) (by decide +kernel), tb_t (List.mem_of_getElem? (i := 190) (by decide +kernel)) (by decide +kernel)⟩, by decide +kernel, by decide +kernel⟩
theorem okN_RX10_9 : okN RX10 9 yX6_init "CallForBrown" cX6_init 1 0 := ⟨⟨List.mem_append_right _ (List.mem_of_getElem? (i := 31) (by decide +kernel)), tb_t (List.mem_of_getElem? (i := 32) (by decide +kernel)) (by decide +kernel), tb_t (List.mem_of_getElem? (i := 2) (by decide +kernel)) (by decide +kernel), tb_t (List.mem_of_getElem? (i := 33) (by decide +kernel)) (by decide +kernel)⟩, by decide +kernel, by decide +kernel⟩
theorem okN_RX10_23 : okN RX10 23 yX3_init "CallForBrown" cX3_init 1 0 := ⟨⟨List.mem_append_right _ (List.mem_of_getElem? (i := 78) (by decide +kernel)), tb_t (List.mem_of_getElem? (i := 79) (by decide +kernel)) (by decide +kernel), tb_t (List.mem_of_getElem? (i := 4) (by decide +kernel)) (by decide +kernel), tb_t (List.mem_of_getElem? (i := 80) (by decide +kernel)) (by decide +kernel)⟩, by decide +kernel, by decide +kernel⟩
theorem okN_RX10_30 : okN RX10 30 yX8_init "CallForBrown" cX8_init 1 0 := ⟨⟨List.mem_append_right _ (List.mem_of_getElem? (i := 161) (by decide +kernel)), tb_t (List.mem_of_getElem? (i := 162) (by decide +kernel)) (by decide +kernel), tb_t (List.mem_of_getElem? (i := 5) (by decide +kernel)) (by decide +kernel), tb_t (List.mem_of_getElem? (i := 163) (by decide +kernel)) (by decide +kernel)⟩, by decide +kernel, by decide +kernel⟩
theorem okN_RX10_47 : okN RX10 47 yX5_init "CallForBrown" cX5_init 1 0 := ⟨⟨List.mem_append_right _ (List.mem_of_getElem? (i := 188) (by decide +kernel)), tb_t (List.mem_of_getElem? (i := 189) (by decide +kernel)) (by decide +kernel), tb_t (List.mem_of_getElem? (i := 6) (by decide +kernel)) (by decide +kernel), tb_t (List.mem_of_getElem? (i := 190) (by decide +kernel)) (by decide +kernel)⟩, by decide +kernel, by decide +kernel⟩
theorem okN_RX10_64 : okN RX10 64 yX1_init "CallForBrown" cX1_init 1 0 := ⟨⟨List.mem_append_right _ (List.mem_of_getElem? (i := 230) (by decide +kernel)), tb_t (List.mem_of_getElem? (i := 231) (by decide +kernel)) (by decide +kernel), tb_t (List.mem_of_getElem? (i := 8) (by decide +kernel)) (by decide +kernel), tb_t (List.mem_of_getElem? (i := 232) (by decide +kernel)) (by decide +kernel)⟩, by decide +kernel, by decide +kernel⟩
theorem okN_RX10_71 : okN RX10 71 yX4_init "CallForBrown" cX4_init 1 0 := ⟨⟨List.mem_append_right _ (List.mem_of_getElem? (i := 259) (by decide +kernel)), tb_t (List.mem_of_getElem? (i := 260) (by decide +kernel)) (by decide +kernel), tb_t (List.mem_of_getElem? (i := 9) (by decide +kernel)) (by decide +kernel), tb_t (List.mem_of_getElem? (i := 261) (by decide +kernel)) (by decide +kernel)⟩, by decide +kernel, by decide +kernel⟩
theorem okN_RX10_78 : okN RX10 78 yX2_init "CallForBrown" cX2_init 1 0 := ⟨⟨List.mem_append_right _ (List.mem_of_getElem? (i := 269) (by decide +kernel)), tb_t (List.mem_of_getElem? (i := 270) (by decide +kernel)) (by decide +kernel), tb_t (List.mem_of_getElem? (i := 10) (by decide +kernel)) (by decide +kernel), tb_t (List.mem_of_getElem? (i := 271) (by decide +kernel)) (by decide +kernel)⟩, by decide +kernel, by decide +kernel⟩
theorem okN_RX10_83 : okN RX10 83 yX7_init "CallForBrown" cX7_init 1 0 := ⟨⟨List.mem_append_right _ (List.mem_of_getElem? (i := 286) (by decide +kernel)), tb_t (List.mem_of_getElem? (i := 287) (by decide +kernel)) (by decide +kernel), tb_t (List.mem_of_getElem? (i := 11) (by decide +kernel)) (by decide +kernel), tb_t (List.mem_of_getElem? (i := 288) (by decide +kernel)) (by decide +kernel)⟩, by decide +kernel, by decide +kernel⟩
