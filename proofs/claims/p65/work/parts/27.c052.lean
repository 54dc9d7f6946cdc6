set_option maxRecDepth 100000 in
set_option maxHeartbeats 16000000 in
theorem sX10_question (l : Launch) (G : va_G) (cs : Nat → ClassId) (adm : Nat) (qm : Nat → Nat) (Fm : Nat → Int32) (Am : Nat → Nat → Int32) (Bm : Nat → Nat → Int64) (Dm : Int64) (hIm : IX10 Fm Am) (qms : Nat → Nat) (Fms : Nat → Int32) (Ams : Nat → Nat → Int32) (Bms : Nat → Nat → Int64) (Dms : Int64) (hIms : IX8 Fms Ams) (qmh : Nat → Nat) (Fmh : Nat → Int32) (Amh : Nat → Nat → Int32) (Bmh : Nat → Nat → Int64) (Dmh : Int64) (hImh : IX3 Fmh Amh) (qme : Nat → Nat) (Fme : Nat → Int32) (Ame : Nat → Nat → Int32) (Bme : Nat → Nat → Int64) (Dme : Int64) (hIme : IX4 Fme Ame) (a1 : Int32) : ∀ sz : Nat, Met l yX10_question (wk yX10_question cX10_question 2 (some .int)) (rmk 5 0 0) (PreD G (TY cs) [.ref adm, .int a1] ((uX10 cs adm qm Fm Am Bm Dm) ++ ((uX8 cs (qm 3) qms Fms Ams Bms Dms) ++ ((uX3 cs (qms 0) qmh Fmh Amh Bmh Dmh) ++ (uX4 cs (qm 10) qme Fme Ame Bme Dme)))) sz) ((QDi G (fun (r : Int32) (u : (Nat → Int32)) => True) (fun u : (Nat → Int32) => ((uX10 cs adm qm Fm Am Bm Dm) ++ ((uX8 cs (qm 3) qms Fms Ams Bms Dms) ++ ((uX3 cs (qms 0) qmh Fmh Amh Bmh Dmh) ++ (wX4 cs (qm 10) qme Fme (vA Ame 0 u) Bme Dme)))))) (va_A ((uX10 cs adm qm Fm Am Bm Dm) ++ ((uX8 cs (qm 3) qms Fms Ams Bms Dms) ++ ((uX3 cs (qms 0) qmh Fmh Amh Bmh Dmh) ++ (uX4 cs (qm 10) qme Fme Ame Bme Dme)))) sz)) 0 0 (va_A ((uX10 cs adm qm Fm Am Bm Dm) ++ ((uX8 cs (qm 3) qms Fms Ams Bms Dms) ++ ((uX3 cs (qms 0) qmh Fmh Amh Bmh Dmh) ++ (uX4 cs (qm 10) qme Fme Ame Bme Dme)))) sz) := by
  refine mkD (Qc := (QDi G (fun (r : Int32) (u : (Nat → Int32)) => True) (fun u : (Nat → Int32) => ((uX10 cs adm qm Fm Am Bm Dm) ++ ((uX8 cs (qm 3) qms Fms Ams Bms Dms) ++ ((uX3 cs (qms 0) qmh Fmh Amh Bmh Dmh) ++ (wX4 cs (qm 10) qme Fme (vA Ame 0 u) Bme Dme))))))) (by decide) (by simp [lg_sl, Value.category]) ?_
  intro p e s m args below meth c ls A0 hx hb hml hr hlk hown hmn ht hK hP hD hS hA hl
  have hl : lv_has ls 2 [(0, .ref adm), (1, .int a1)] := hl
  refine lv_aload_n hx hb dX10_question_0 rfl (lv_at hl 0 rfl) ?_
  refine lv_iload_n hx hb dX10_question_1 rfl (lv_at hl 1 rfl) ?_
  refine behR (runVP (As := [.int a1]) (rest := []) ⟨hx, hb, hml, hown, ht⟩ (sX10_isSet l G cs adm qm Fm Am Bm Dm hIm qms Fms Ams Bms Dms hIms qmh Fmh Amh Bmh Dmh hImh a1 ) okV_RX10_267 ⟨by decide, by decide⟩ hK hP [0, 1, 2, 3, 4, 5, 6, 7, 8, 9, 10, 11, 12] rfl 0 rfl rfl hl.1 rfl (Nat.le_of_ble_eq_true rfl) dX10_question_2 ⟨by decide, by decide⟩) hP hS hA (fun r1 H locs hr1 hP hS => ?_)
  have hr1 : (r1.toInt = 1 ∧ 1 ≤ a1.toInt ∧ a1.toInt ≤ 63) ∨ r1.toInt = 0 := hr1
  refine lv_if_eq (tgt := 26) hx hb dX10_question_5 (by decide) (fun c2 => ?_) (fun c2 => ?_)
  · have zc2 := eqK rfl (show (0 : Int32).toInt = 0 by decide) c2
    refine lv_bipush (v := (-2)) hx hb dX10_question_26 (by decide) ?_
    exact retDi (Ame 0) hx hb hr hlk hP hD hS dX10_question_28 (trivial) (Nat.le_of_ble_eq_true rfl) (Nat.le_of_ble_eq_true rfl)
  · have zc2 := neK rfl (show (0 : Int32).toInt = 0 by decide) c2
    refine lv_aload_n hx hb dX10_question_8 rfl (lv_at hl 0 rfl) ?_
    refine getF (v := .ref (qm 10)) hx hb ht hown hK hP iTX10 0 10 rfl rfl (by decide) fl_RX10_72 rfl dX10_question_9 ?_
    refine lv_aload_n hx hb dX10_question_12 rfl (lv_at hl 0 rfl) ?_
    refine getF (v := .ref (qm 3)) hx hb ht hown hK hP iTX10 0 3 rfl rfl (by decide) fl_RX10_31 rfl dX10_question_13 ?_
    refine getF (v := .ref (qms 0)) hx hb ht hown hK hP iTX8 3 0 rfl rfl (by decide) fl_RX10_98 rfl dX10_question_16 ?_
    refine lv_iload_n hx hb dX10_question_19 rfl (lv_at hl 1 rfl) ?_
    refine behDi (wr := ((uX10 cs adm qm Fm Am Bm Dm) ++ (uX8 cs (qm 3) qms Fms Ams Bms Dms))) (runVD (As := [.ref (qms 0), .int a1]) (rest := []) ⟨hx, hb, hml, hown, ht⟩ (sX4_firstFor l G cs (qm 10) qme Fme Ame Bme Dme hIme (qms 0) qmh Fmh Amh Bmh Dmh hImh a1 (by omega)) okV_RX10_274 ⟨by decide, by decide⟩ hK hP hD [13, 14, 5, 6, 7, 8, 9, 10, 11, 12] rfl (by decide) rfl 13 rfl rfl hl.1 rfl (Nat.le_of_ble_eq_true rfl) dX10_question_20 ⟨(Nat.le_of_ble_eq_true rfl), (Nat.le_of_ble_eq_true rfl)⟩) hP hD hS hA [13, 14, 5, 6, 7, 8, 9, 10, 11, 12] [0, 1, 2, 3, 4] rfl rfl (by decide) (by decide) (fun r9 u H locs hu hP hD hS => ?_)
    obtain ⟨g3, rfl⟩ : ∃ z, z = u := ⟨_, rfl⟩
    obtain ⟨r4, rfl⟩ : ∃ z, z = r9 := ⟨_, rfl⟩
    have hr4 := hu
    have hP : va_P G vwCl ((uX10 cs adm qm Fm Am Bm Dm) ++ ((uX8 cs (qm 3) qms Fms Ams Bms Dms) ++ ((uX3 cs (qms 0) qmh Fmh Amh Bmh Dmh) ++ (uX4 cs (qm 10) qme Fme (vB 0 g3 Ame) Bme Dme)))) H := hP.sub [0, 1, 2, 3, 4, 7, 8, 9, 10, 11, 12, 13, 14, 5, 6] rfl
    have hD : va_D A0 ((uX10 cs adm qm Fm Am Bm Dm) ++ ((uX8 cs (qm 3) qms Fms Ams Bms Dms) ++ ((uX3 cs (qms 0) qmh Fmh Amh Bmh Dmh) ++ (uX4 cs (qm 10) qme Fme (vB 0 g3 Ame) Bme Dme)))) := hD.sub [0, 1, 2, 3, 4, 7, 8, 9, 10, 11, 12, 13, 14, 5, 6] (by decide) rfl
    refine lv_goto (tgt := 28) hx hb dX10_question_23 (by decide) ?_
    exact retDi g3 hx hb hr hlk hP hD hS dX10_question_28 (trivial) (Nat.le_of_ble_eq_true rfl) (Nat.le_of_ble_eq_true rfl)

set_option maxRecDepth 100000 in
set_option maxHeartbeats 16000000 in
theorem sX10_yes (l : Launch) (G : va_G) (cs : Nat → ClassId) (adm : Nat) (qm : Nat → Nat) (Fm : Nat → Int32) (Am : Nat → Nat → Int32) (Bm : Nat → Nat → Int64) (Dm : Int64) (hIm : IX10 Fm Am) (qms : Nat → Nat) (Fms : Nat → Int32) (Ams : Nat → Nat → Int32) (Bms : Nat → Nat → Int64) (Dms : Int64) (hIms : IX8 Fms Ams) (qmh : Nat → Nat) (Fmh : Nat → Int32) (Amh : Nat → Nat → Int32) (Bmh : Nat → Nat → Int64) (Dmh : Int64) (hImh : IX3 Fmh Amh) (a1 : Int32) (a2 : Int32) : ∀ sz : Nat, Met l yX10_yes (wk yX10_yes cX10_yes 3 (some .int)) (rmk 1 0 0) (PreP G (TY cs) [.ref adm, .int a1, .int a2] ((uX10 cs adm qm Fm Am Bm Dm) ++ ((uX8 cs (qm 3) qms Fms Ams Bms Dms) ++ (uX3 cs (qms 0) qmh Fmh Amh Bmh Dmh))) sz) (QRi (fun r : Int32 => True) sz) 0 0 (fun q => sz ≤ q) := by
  refine mkP (Qc := QRi (fun r : Int32 => True)) (by decide) (by simp [lg_sl, Value.category]) ?_
  intro p e s m args below meth c ls hx hb hml hr hlk hown ht hK hP hS hl
  have hl : lv_has ls 3 [(0, .ref adm), (1, .int a1), (2, .int a2)] := hl
  refine lv_aload_n hx hb dX10_yes_0 rfl (lv_at hl 0 rfl) ?_
  refine lv_iload_n hx hb dX10_yes_1 rfl (lv_at hl 1 rfl) ?_
  refine behR (runVP (As := [.int a1]) (rest := []) ⟨hx, hb, hml, hown, ht⟩ (sX10_isSet l G cs adm qm Fm Am Bm Dm hIm qms Fms Ams Bms Dms hIms qmh Fmh Amh Bmh Dmh hImh a1 ) okV_RX10_267 ⟨by decide, by decide⟩ hK hP [0, 1, 2, 3, 4, 5, 6, 7, 8, 9, 10, 11, 12] rfl 0 rfl rfl hl.1 rfl (Nat.le_of_ble_eq_true rfl) dX10_yes_2 ⟨by decide, by decide⟩) hP hS (fun _ h => h) (fun r1 H locs hr1 hP hS => ?_)
  have hr1 : (r1.toInt = 1 ∧ 1 ≤ a1.toInt ∧ a1.toInt ≤ 63) ∨ r1.toInt = 0 := hr1
  refine lv_if_eq (tgt := 18) hx hb dX10_yes_5 (by decide) (fun c2 => ?_) (fun c2 => ?_)
  · have zc2 := eqK rfl (show (0 : Int32).toInt = 0 by decide) c2
    refine lv_bipush (v := (-2)) hx hb dX10_yes_18 (by decide) ?_
    exact retRi hx hb hr hlk hS dX10_yes_20 (trivial)
  · have zc2 := neK rfl (show (0 : Int32).toInt = 0 by decide) c2
    refine lv_iload_n hx hb dX10_yes_8 rfl (lv_at hl 2 rfl) ?_
    refine lv_if_lt (tgt := 18) hx hb dX10_yes_9 (by decide) (fun c3 => ?_) (fun c3 => ?_)
    · have zc3 := ltK rfl (show (0 : Int32).toInt = 0 by decide) c3
      refine lv_bipush (v := (-2)) hx hb dX10_yes_18 (by decide) ?_
      exact retRi hx hb hr hlk hS dX10_yes_20 (trivial)
    · have zc3 := nltK rfl (show (0 : Int32).toInt = 0 by decide) c3
      refine lv_iload_n hx hb dX10_yes_12 rfl (lv_at hl 2 rfl) ?_
      refine lv_bipush (v := 6) hx hb dX10_yes_13 (by decide) ?_
      refine lv_icmp_lt (tgt := 21) hx hb dX10_yes_15 (by decide) (fun c4 => ?_) (fun c4 => ?_)
      · have zc4 := ltK rfl (show (6 : Int32).toInt = 6 by decide) c4
        refine lv_aload_n hx hb dX10_yes_21 rfl (lv_at hl 0 rfl) ?_
        refine getF (v := .ref (qm 3)) hx hb ht hown hK hP iTX10 0 3 rfl rfl (by decide) fl_RX10_31 rfl dX10_yes_22 ?_
        refine getF (v := .ref (qms 0)) hx hb ht hown hK hP iTX8 3 0 rfl rfl (by decide) fl_RX10_98 rfl dX10_yes_25 ?_
        refine lv_iload_n hx hb dX10_yes_28 rfl (lv_at hl 1 rfl) ?_
        refine lv_iload_n hx hb dX10_yes_29 rfl (lv_at hl 2 rfl) ?_
        refine behR (runVP (As := [.int a1, .int a2]) (rest := []) ⟨hx, hb, hml, hown, ht⟩ (sX3_whoSayYes l G cs (qms 0) qmh Fmh Amh Bmh Dmh hImh a1 a2 ) okV_RX10_277 ⟨by decide, by decide⟩ hK hP [5, 6, 7, 8, 9, 10, 11, 12] rfl 5 rfl rfl hl.1 rfl (Nat.le_of_ble_eq_true rfl) dX10_yes_30 ⟨by decide, by decide⟩) hP hS (fun _ h => h) (fun r5 H locs hr5 hP hS => ?_)
        have hr5 : (0 : Int) ≤ r5.toInt ∧ r5.toInt ≤ 63 := hr5
        exact retRi hx hb hr hlk hS dX10_yes_33 (trivial)
      · have zc4 := nltK rfl (show (6 : Int32).toInt = 6 by decide) c4
        refine lv_bipush (v := (-2)) hx hb dX10_yes_18 (by decide) ?_
        exact retRi hx hb hr hlk hS dX10_yes_20 (trivial)

set_option maxRecDepth 100000 in
set_option maxHeartbeats 16000000 in
theorem sX10_list (l : Launch) (G : va_G) (cs : Nat → ClassId) (adm : Nat) (qm : Nat → Nat) (Fm : Nat → Int32) (Am : Nat → Nat → Int32) (Bm : Nat → Nat → Int64) (Dm : Int64) (hIm : IX10 Fm Am) (qms : Nat → Nat) (Fms : Nat → Int32) (Ams : Nat → Nat → Int32) (Bms : Nat → Nat → Int64) (Dms : Int64) (hIms : IX8 Fms Ams) (qmh : Nat → Nat) (Fmh : Nat → Int32) (Amh : Nat → Nat → Int32) (Bmh : Nat → Nat → Int64) (Dmh : Int64) (hImh : IX3 Fmh Amh) (qme : Nat → Nat) (Fme : Nat → Int32) (Ame : Nat → Nat → Int32) (Bme : Nat → Nat → Int64) (Dme : Int64) (hIme : IX4 Fme Ame) (a1 : Int32) : ∀ sz : Nat, Met l yX10_list (wk yX10_list cX10_list 2 (some .int)) (rmk 2 0 0) (PreP G (TY cs) [.ref adm, .int a1] ((uX10 cs adm qm Fm Am Bm Dm) ++ ((uX8 cs (qm 3) qms Fms Ams Bms Dms) ++ ((uX3 cs (qms 0) qmh Fmh Amh Bmh Dmh) ++ (uX4 cs (qm 10) qme Fme Ame Bme Dme)))) sz) (QRi (fun r : Int32 => True) sz) 0 0 (fun q => sz ≤ q) := by
  refine mkP (Qc := QRi (fun r : Int32 => True)) (by decide) (by simp [lg_sl, Value.category]) ?_
  intro p e s m args below meth c ls hx hb hml hr hlk hown ht hK hP hS hl
  have hl : lv_has ls 2 [(0, .ref adm), (1, .int a1)] := hl
  refine lv_aload_n hx hb dX10_list_0 rfl (lv_at hl 0 rfl) ?_
  refine lv_iload_n hx hb dX10_list_1 rfl (lv_at hl 1 rfl) ?_
  refine behR (runVP (As := [.int a1]) (rest := []) ⟨hx, hb, hml, hown, ht⟩ (sX10_isSet l G cs adm qm Fm Am Bm Dm hIm qms Fms Ams Bms Dms hIms qmh Fmh Amh Bmh Dmh hImh a1 ) okV_RX10_267 ⟨by decide, by decide⟩ hK hP [0, 1, 2, 3, 4, 5, 6, 7, 8, 9, 10, 11, 12] rfl 0 rfl rfl hl.1 rfl (Nat.le_of_ble_eq_true rfl) dX10_list_2 ⟨by decide, by decide⟩) hP hS (fun _ h => h) (fun r1 H locs hr1 hP hS => ?_)
  have hr1 : (r1.toInt = 1 ∧ 1 ≤ a1.toInt ∧ a1.toInt ≤ 63) ∨ r1.toInt = 0 := hr1
  refine lv_if_eq (tgt := 26) hx hb dX10_list_5 (by decide) (fun c2 => ?_) (fun c2 => ?_)
  · have zc2 := eqK rfl (show (0 : Int32).toInt = 0 by decide) c2
    refine lv_bipush (v := (-2)) hx hb dX10_list_26 (by decide) ?_
    exact retRi hx hb hr hlk hS dX10_list_28 (trivial)
  · have zc2 := neK rfl (show (0 : Int32).toInt = 0 by decide) c2
    refine lv_aload_n hx hb dX10_list_8 rfl (lv_at hl 0 rfl) ?_
    refine getF (v := .ref (qm 10)) hx hb ht hown hK hP iTX10 0 10 rfl rfl (by decide) fl_RX10_72 rfl dX10_list_9 ?_
    refine lv_aload_n hx hb dX10_list_12 rfl (lv_at hl 0 rfl) ?_
    refine getF (v := .ref (qm 3)) hx hb ht hown hK hP iTX10 0 3 rfl rfl (by decide) fl_RX10_31 rfl dX10_list_13 ?_
    refine getF (v := .ref (qms 0)) hx hb ht hown hK hP iTX8 3 0 rfl rfl (by decide) fl_RX10_98 rfl dX10_list_16 ?_
    refine lv_iload_n hx hb dX10_list_19 rfl (lv_at hl 1 rfl) ?_
    refine behR (runVP (As := [.ref (qms 0), .int a1]) (rest := []) ⟨hx, hb, hml, hown, ht⟩ (sX4_listFor l G cs (qm 10) qme Fme Ame Bme Dme hIme (qms 0) qmh Fmh Amh Bmh Dmh hImh a1 ) okV_RX10_280 ⟨by decide, by decide⟩ hK hP [13, 14, 5, 6, 7, 8, 9, 10, 11, 12] rfl 13 rfl rfl hl.1 rfl (Nat.le_of_ble_eq_true rfl) dX10_list_20 ⟨by decide, by decide⟩) hP hS (fun _ h => h) (fun r3 H locs hr3 hP hS => ?_)
    refine lv_goto (tgt := 28) hx hb dX10_list_23 (by decide) ?_
    exact retRi hx hb hr hlk hS dX10_list_28 (trivial)

set_option maxRecDepth 100000 in
set_option maxHeartbeats 16000000 in
theorem sX10_meant (l : Launch) (G : va_G) (cs : Nat → ClassId) (adm : Nat) (qm : Nat → Nat) (Fm : Nat → Int32) (Am : Nat → Nat → Int32) (Bm : Nat → Nat → Int64) (Dm : Int64) (hIm : IX10 Fm Am) (qms : Nat → Nat) (Fms : Nat → Int32) (Ams : Nat → Nat → Int32) (Bms : Nat → Nat → Int64) (Dms : Int64) (hIms : IX8 Fms Ams) (qmh : Nat → Nat) (Fmh : Nat → Int32) (Amh : Nat → Nat → Int32) (Bmh : Nat → Nat → Int64) (Dmh : Int64) (hImh : IX3 Fmh Amh) (qme : Nat → Nat) (Fme : Nat → Int32) (Ame : Nat → Nat → Int32) (Bme : Nat → Nat → Int64) (Dme : Int64) (hIme : IX4 Fme Ame) (a1 : Int32) (a2 : Int32) (a3 : Int32) : ∀ sz : Nat, Met l yX10_meant (wk yX10_meant cX10_meant 6 (some .int)) (rmk 2 0 0) (PreP G (TY cs) [.ref adm, .int a1, .int a2, .int a3] ((uX10 cs adm qm Fm Am Bm Dm) ++ ((uX8 cs (qm 3) qms Fms Ams Bms Dms) ++ ((uX3 cs (qms 0) qmh Fmh Amh Bmh Dmh) ++ (uX4 cs (qm 10) qme Fme Ame Bme Dme)))) sz) (QRi (fun r : Int32 => True) sz) 0 0 (fun q => sz ≤ q) := by
  refine mkP (Qc := QRi (fun r : Int32 => True)) (by decide) (by simp [lg_sl, Value.category]) ?_
  intro p e s m args below meth c ls hx hb hml hr hlk hown ht hK hP hS hl
  have hl : lv_has ls 6 [(0, .ref adm), (1, .int a1), (2, .int a2), (3, .int a3)] := hl
  refine lv_aload_n hx hb dX10_meant_0 rfl (lv_at hl 0 rfl) ?_
  refine lv_iload_n hx hb dX10_meant_1 rfl (lv_at hl 1 rfl) ?_
  refine behR (runVP (As := [.int a1]) (rest := []) ⟨hx, hb, hml, hown, ht⟩ (sX10_isSet l G cs adm qm Fm Am Bm Dm hIm qms Fms Ams Bms Dms hIms qmh Fmh Amh Bmh Dmh hImh a1 ) okV_RX10_267 ⟨by decide, by decide⟩ hK hP [0, 1, 2, 3, 4, 5, 6, 7, 8, 9, 10, 11, 12] rfl 0 rfl rfl hl.1 rfl (Nat.le_of_ble_eq_true rfl) dX10_meant_2 ⟨by decide, by decide⟩) hP hS (fun _ h => h) (fun r1 H locs hr1 hP hS => ?_)
  have hr1 : (r1.toInt = 1 ∧ 1 ≤ a1.toInt ∧ a1.toInt ≤ 63) ∨ r1.toInt = 0 := hr1
  refine lv_if_eq (tgt := 33) hx hb dX10_meant_5 (by decide) (fun c2 => ?_) (fun c2 => ?_)
  · have zc2 := eqK rfl (show (0 : Int32).toInt = 0 by decide) c2
    refine lv_bipush (v := (-2)) hx hb dX10_meant_33 (by decide) ?_
    exact retRi hx hb hr hlk hS dX10_meant_35 (trivial)
  · have zc2 := neK rfl (show (0 : Int32).toInt = 0 by decide) c2
    refine lv_aload_n hx hb dX10_meant_8 rfl (lv_at hl 0 rfl) ?_
    refine lv_iload_n hx hb dX10_meant_9 rfl (lv_at hl 2 rfl) ?_
    refine behR (runVP (As := [.int a2]) (rest := []) ⟨hx, hb, hml, hown, ht⟩ (sX10_isMan l G cs adm qm Fm Am Bm Dm hIm qms Fms Ams Bms Dms hIms qmh Fmh Amh Bmh Dmh hImh a2 ) okV_RX10_128 ⟨by decide, by decide⟩ hK hP [0, 1, 2, 3, 4, 5, 6, 7, 8, 9, 10, 11, 12] rfl 0 rfl rfl hl.1 rfl (Nat.le_of_ble_eq_true rfl) dX10_meant_10 ⟨by decide, by decide⟩) hP hS (fun _ h => h) (fun r3 H locs hr3 hP hS => ?_)
    have hr3 : (r3.toInt = 1 ∧ 0 ≤ a2.toInt ∧ a2.toInt < (Fmh 6).toInt ∧ a2.toInt ≤ 5) ∨ r3.toInt = 0 := hr3
    refine lv_if_eq (tgt := 33) hx hb dX10_meant_13 (by decide) (fun c4 => ?_) (fun c4 => ?_)
    · have zc4 := eqK rfl (show (0 : Int32).toInt = 0 by decide) c4
      refine lv_bipush (v := (-2)) hx hb dX10_meant_33 (by decide) ?_
      exact retRi hx hb hr hlk hS dX10_meant_35 (trivial)
    · have zc4 := neK rfl (show (0 : Int32).toInt = 0 by decide) c4
      refine lv_iload_n hx hb dX10_meant_16 rfl (lv_at hl 1 rfl) ?_
      refine lv_iload_n hx hb dX10_meant_17 rfl (lv_at hl 2 rfl) ?_
      refine lv_ishr hx hb dX10_meant_18 ?_
      refine lv_topi (fun v5 ev5 => ?_)
      refine lv_iconst (v := 1) hx hb dX10_meant_19 (by decide) ?_
      refine lv_iand hx hb dX10_meant_20 ?_
      refine lv_topi (fun v6 ev6 => ?_)
      have tv6 : 0 ≤ v6.toInt ∧ v6.toInt ≤ 1 := by rw [ev6]; exact andT 1 (by decide) (by decide) (by decide)
      refine lv_if_eq (tgt := 33) hx hb dX10_meant_21 (by decide) (fun c7 => ?_) (fun c7 => ?_)
      · have zc7 := eqK rfl (show (0 : Int32).toInt = 0 by decide) c7
        refine lv_bipush (v := (-2)) hx hb dX10_meant_33 (by decide) ?_
        exact retRi hx hb hr hlk hS dX10_meant_35 (trivial)
      · have zc7 := neK rfl (show (0 : Int32).toInt = 0 by decide) c7
        refine lv_iload_n hx hb dX10_meant_24 rfl (lv_at hl 3 rfl) ?_
        refine lv_if_lt (tgt := 33) hx hb dX10_meant_25 (by decide) (fun c8 => ?_) (fun c8 => ?_)
        · have zc8 := ltK rfl (show (0 : Int32).toInt = 0 by decide) c8
          refine lv_bipush (v := (-2)) hx hb dX10_meant_33 (by decide) ?_
          exact retRi hx hb hr hlk hS dX10_meant_35 (trivial)
        · have zc8 := nltK rfl (show (0 : Int32).toInt = 0 by decide) c8
          refine lv_iload_n hx hb dX10_meant_28 rfl (lv_at hl 3 rfl) ?_
          refine lv_iconst (v := 1) hx hb dX10_meant_29 (by decide) ?_
          refine lv_icmp_le (tgt := 36) hx hb dX10_meant_30 (by decide) (fun c9 => ?_) (fun c9 => ?_)
          · have zc9 := leK rfl (show (1 : Int32).toInt = 1 by decide) c9
            refine lv_iconst (v := 0) hx hb dX10_meant_36 (by decide) ?_
            refine lv_istore (lv' := [(4, .int 0), (0, .ref adm), (1, .int a1), (2, .int a2), (3, .int a3)]) hx hb dX10_meant_37 hl (by decide) rfl (fun ls hl => ?_)
            refine lv_iconst (v := 0) hx hb dX10_meant_39 (by decide) ?_
            refine lv_istore (lv' := [(5, .int 0), (4, .int 0), (0, .ref adm), (1, .int a1), (2, .int a2), (3, .int a3)]) hx hb dX10_meant_40 hl (by decide) rfl (fun ls hl => ?_)
            have B42 : ∀ (n : Nat) (x42_4 : Int32) (x42_5 : Int32) (H : Heap) (locs : List Loc) (ls : Array Slot), (6 - x42_5.toInt).toNat < n → (0 : Int) ≤ x42_5.toInt ∧ x42_5.toInt ≤ 6 → va_P G vwCl ((uX10 cs adm qm Fm Am Bm Dm) ++ ((uX8 cs (qm 3) qms Fms Ams Bms Dms) ++ ((uX3 cs (qms 0) qmh Fmh Amh Bmh Dmh) ++ (uX4 cs (qm 10) qme Fme Ame Bme Dme)))) H → va_S (fun q => s.heap.size ≤ q) s.heap H locs → lv_has ls 6 [(0, .ref adm), (1, .int a1), (2, .int a2), (3, .int a3), (4, .int x42_4), (5, .int x42_5)] → W p l e (rmk 2 0 0) s m args below meth c H locs 0 0 (MQ below (QRi (fun r : Int32 => True) s.heap.size) args s 0 0 (fun q => s.heap.size ≤ q)) (F0 m 42 ls []) := by
              intro n
              induction n with
              | zero => intro x42_4 x42_5 H locs ls hmeas hx42_5 hP hS hl; exact absurd hmeas (Nat.not_lt_zero _)
              | succ n ih42 =>
                intro x42_4 x42_5 H locs ls hmeas hx42_5 hP hS hl
                refine lv_iload hx hb dX10_meant_42 (lv_at hl 5 rfl) ?_
                refine lv_aload_n hx hb dX10_meant_44 rfl (lv_at hl 0 rfl) ?_
                refine getF (v := .ref (qm 3)) hx hb ht hown hK hP iTX10 0 3 rfl rfl (by decide) fl_RX10_31 rfl dX10_meant_45 ?_
                refine getF (v := .ref (qms 0)) hx hb ht hown hK hP iTX8 3 0 rfl rfl (by decide) fl_RX10_98 rfl dX10_meant_48 ?_
                refine getF (v := .int (Fmh 6)) hx hb ht hown hK hP iTX3 5 6 rfl rfl (by decide) fl_RX10_283 rfl dX10_meant_51 ?_
                have zf24001 : (0 : Int) ≤ (Fmh 6).toInt ∧ (Fmh 6).toInt ≤ 6 := hImh.1 6
                refine lv_icmp_ge (tgt := 90) hx hb dX10_meant_54 (by decide) (fun c24002 => ?_) (fun c24002 => ?_)
                · have zc24002 := leK rfl rfl c24002
                  refine lv_aload_n hx hb dX10_meant_90 rfl (lv_at hl 0 rfl) ?_
                  refine getF (v := .ref (qm 10)) hx hb ht hown hK hP iTX10 0 10 rfl rfl (by decide) fl_RX10_72 rfl dX10_meant_91 ?_
                  refine lv_aload_n hx hb dX10_meant_94 rfl (lv_at hl 0 rfl) ?_
                  refine getF (v := .ref (qm 3)) hx hb ht hown hK hP iTX10 0 3 rfl rfl (by decide) fl_RX10_31 rfl dX10_meant_95 ?_
                  refine getF (v := .ref (qms 0)) hx hb ht hown hK hP iTX8 3 0 rfl rfl (by decide) fl_RX10_98 rfl dX10_meant_98 ?_
                  refine getF (v := .ref (qmh 11)) hx hb ht hown hK hP iTX3 5 11 rfl rfl (by decide) fl_RX10_131 rfl dX10_meant_101 ?_
                  refine lv_iload_n hx hb dX10_meant_104 rfl (lv_at hl 2 rfl) ?_
                  refine va_iald hx hb hK.1 hP 10 0 rfl rfl (inK rfl (by omega) (by decide)) dX10_meant_105 ?_
                  refine lv_topi (fun v24003 ev24003 => ?_)
                  refine lv_i2l hx hb dX10_meant_106 rfl ?_
                  have bb24004 := i32b v24003
                  refine lv_topl (fun v24005 ev24005 => ?_)
                  have tv24005 : v24005.toInt = v24003.toInt := by rw [ev24005]; exact Int32.toInt_toInt64 _
                  refine lv_iload hx hb dX10_meant_107 (lv_at hl 4 rfl) ?_
                  refine lv_i2l hx hb dX10_meant_109 rfl ?_
                  have bb24006 := i32b x42_4
                  refine lv_topl (fun v24007 ev24007 => ?_)
                  have tv24007 : v24007.toInt = x42_4.toInt := by rw [ev24007]; exact Int32.toInt_toInt64 _
                  refine lv_iload_n hx hb dX10_meant_110 rfl (lv_at hl 3 rfl) ?_
                  refine behRL (runVP (As := [.long v24005, .long v24007, .int a3]) (rest := []) ⟨hx, hb, hml, hown, ht⟩ (sX4_lowest l G cs (qm 10) qme Fme Ame Bme Dme hIme v24005 v24007 a3 ) okV_RX10_285 ⟨by decide, by decide⟩ hK hP [13, 14] rfl 13 rfl rfl hl.1 rfl (Nat.le_of_ble_eq_true rfl) dX10_meant_111 ⟨by decide, by decide⟩) hP hS (fun _ h => h) (fun r24008 H locs hr24008 hP hS => ?_)
                  refine lv_l2i hx hb dX10_meant_114 rfl ?_
                  refine lv_topi (fun v24009 ev24009 => ?_)
                  exact retRi hx hb hr hlk hS dX10_meant_115 (trivial)
                · have zc24002 := nleK rfl rfl c24002
                  refine lv_iload_n hx hb dX10_meant_57 rfl (lv_at hl 1 rfl) ?_
                  refine lv_iload hx hb dX10_meant_58 (lv_at hl 5 rfl) ?_
                  refine lv_ishr hx hb dX10_meant_60 ?_
                  refine lv_topi (fun v24010 ev24010 => ?_)
                  refine lv_iconst (v := 1) hx hb dX10_meant_61 (by decide) ?_
                  refine lv_iand hx hb dX10_meant_62 ?_
                  refine lv_topi (fun v24011 ev24011 => ?_)
                  have tv24011 : 0 ≤ v24011.toInt ∧ v24011.toInt ≤ 1 := by rw [ev24011]; exact andT 1 (by decide) (by decide) (by decide)
                  have B84 : ∀ (x84_4 : Int32) (H : Heap) (locs : List Loc) (ls : Array Slot), va_P G vwCl ((uX10 cs adm qm Fm Am Bm Dm) ++ ((uX8 cs (qm 3) qms Fms Ams Bms Dms) ++ ((uX3 cs (qms 0) qmh Fmh Amh Bmh Dmh) ++ (uX4 cs (qm 10) qme Fme Ame Bme Dme)))) H → va_S (fun q => s.heap.size ≤ q) s.heap H locs → lv_has ls 6 [(0, .ref adm), (1, .int a1), (2, .int a2), (3, .int a3), (4, .int x84_4), (5, .int x42_5)] → W p l e (rmk 2 0 0) s m args below meth c H locs 0 0 (MQ below (QRi (fun r : Int32 => True) s.heap.size) args s 0 0 (fun q => s.heap.size ≤ q)) (F0 m 84 ls []) := by
                    intro x84_4 H locs ls hP hS hl
                    obtain ⟨v45001, ev45001⟩ : ∃ z : Int32, z = x42_5 + 1 := ⟨_, rfl⟩
                    have tv45001 : v45001.toInt = x42_5.toInt + 1 := by rw [ev45001]; exact addT rfl (by decide) (by omega)
                    refine lv_iinc (v := v45001) (lv' := [(5, .int v45001), (0, .ref adm), (1, .int a1), (2, .int a2), (3, .int a3), (4, .int x84_4)]) hx hb dX10_meant_84 hl (k := 5) rfl (by rw [ev45001]; rfl) (by decide) rfl (fun ls hl => ?_)
                    refine lv_goto (tgt := 42) hx hb dX10_meant_87 (by decide) ?_
                    exact ih42 x84_4 v45001 H locs ls (by omega) (by omega) hP hS (lv_sub hl [1, 2, 3, 4, 5, 0] rfl)
                  refine lv_if_eq (tgt := 84) hx hb dX10_meant_63 (by decide) (fun c24012 => ?_) (fun c24012 => ?_)
                  · have zc24012 := eqK rfl (show (0 : Int32).toInt = 0 by decide) c24012
                    exact B84 x42_4 H locs ls hP hS (lv_sub hl [0, 1, 2, 3, 4, 5] rfl)
                  · have zc24012 := neK rfl (show (0 : Int32).toInt = 0 by decide) c24012
                    refine lv_iload hx hb dX10_meant_66 (lv_at hl 4 rfl) ?_
                    refine lv_aload_n hx hb dX10_meant_68 rfl (lv_at hl 0 rfl) ?_
                    refine getF (v := .ref (qm 3)) hx hb ht hown hK hP iTX10 0 3 rfl rfl (by decide) fl_RX10_31 rfl dX10_meant_69 ?_
                    refine getF (v := .ref (qms 0)) hx hb ht hown hK hP iTX8 3 0 rfl rfl (by decide) fl_RX10_98 rfl dX10_meant_72 ?_
                    refine getF (v := .ref (qmh 11)) hx hb ht hown hK hP iTX3 5 11 rfl rfl (by decide) fl_RX10_131 rfl dX10_meant_75 ?_
                    refine lv_iload hx hb dX10_meant_78 (lv_at hl 5 rfl) ?_
                    refine va_iald hx hb hK.1 hP 10 0 rfl rfl (inK rfl (by omega) (by decide)) dX10_meant_80 ?_
                    refine lv_topi (fun v24013 ev24013 => ?_)
                    refine lv_iadd hx hb dX10_meant_81 ?_
                    refine lv_topi (fun v24014 ev24014 => ?_)
                    refine lv_istore (lv' := [(4, .int v24014), (0, .ref adm), (1, .int a1), (2, .int a2), (3, .int a3), (5, .int x42_5)]) hx hb dX10_meant_82 hl (by decide) rfl (fun ls hl => ?_)
                    exact B84 v24014 H locs ls hP hS (lv_sub hl [1, 2, 3, 4, 0, 5] rfl)
            exact B42 _ 0 0 H locs ls (Nat.lt_succ_self _) (by decide) hP hS (lv_sub hl [2, 3, 4, 5, 1, 0] rfl)
          · have zc9 := nleK rfl (show (1 : Int32).toInt = 1 by decide) c9
            refine lv_bipush (v := (-2)) hx hb dX10_meant_33 (by decide) ?_
            exact retRi hx hb hr hlk hS dX10_meant_35 (trivial)

set_option maxRecDepth 100000 in
set_option maxHeartbeats 16000000 in
theorem sX10_read (l : Launch) (G : va_G) (cs : Nat → ClassId) (adm : Nat) (qm : Nat → Nat) (Fm : Nat → Int32) (Am : Nat → Nat → Int32) (Bm : Nat → Nat → Int64) (Dm : Int64) (hIm : IX10 Fm Am) (qms : Nat → Nat) (Fms : Nat → Int32) (Ams : Nat → Nat → Int32) (Bms : Nat → Nat → Int64) (Dms : Int64) (hIms : IX8 Fms Ams) (qmh : Nat → Nat) (Fmh : Nat → Int32) (Amh : Nat → Nat → Int32) (Bmh : Nat → Nat → Int64) (Dmh : Int64) (hImh : IX3 Fmh Amh) (qme : Nat → Nat) (Fme : Nat → Int32) (Ame : Nat → Nat → Int32) (Bme : Nat → Nat → Int64) (Dme : Int64) (hIme : IX4 Fme Ame) (a1 : Int32) (a2 : Int32) (a3 : Int32) : ∀ sz : Nat, Met l yX10_read (wk yX10_read cX10_read 4 (some .long)) (rmk 4 0 0) (PreP G (TY cs) [.ref adm, .int a1, .int a2, .int a3] ((uX10 cs adm qm Fm Am Bm Dm) ++ ((uX8 cs (qm 3) qms Fms Ams Bms Dms) ++ ((uX3 cs (qms 0) qmh Fmh Amh Bmh Dmh) ++ (uX4 cs (qm 10) qme Fme Ame Bme Dme)))) sz) (QRl (fun r : Int64 => True) sz) 0 0 (fun q => sz ≤ q) := by
  refine mkP (Qc := QRl (fun r : Int64 => True)) (by decide) (by simp [lg_sl, Value.category]) ?_
  intro p e s m args below meth c ls hx hb hml hr hlk hown ht hK hP hS hl
  have hl : lv_has ls 4 [(0, .ref adm), (1, .int a1), (2, .int a2), (3, .int a3)] := hl
  refine lv_aload_n hx hb dX10_read_0 rfl (lv_at hl 0 rfl) ?_
  refine lv_iload_n hx hb dX10_read_1 rfl (lv_at hl 1 rfl) ?_
  refine behR (runVP (As := [.int a1]) (rest := []) ⟨hx, hb, hml, hown, ht⟩ (sX10_isMan l G cs adm qm Fm Am Bm Dm hIm qms Fms Ams Bms Dms hIms qmh Fmh Amh Bmh Dmh hImh a1 ) okV_RX10_128 ⟨by decide, by decide⟩ hK hP [0, 1, 2, 3, 4, 5, 6, 7, 8, 9, 10, 11, 12] rfl 0 rfl rfl hl.1 rfl (Nat.le_of_ble_eq_true rfl) dX10_read_2 ⟨by decide, by decide⟩) hP hS (fun _ h => h) (fun r1 H locs hr1 hP hS => ?_)
  have hr1 : (r1.toInt = 1 ∧ 0 ≤ a1.toInt ∧ a1.toInt < (Fmh 6).toInt ∧ a1.toInt ≤ 5) ∨ r1.toInt = 0 := hr1
  refine lv_if_eq (tgt := 25) hx hb dX10_read_5 (by decide) (fun c2 => ?_) (fun c2 => ?_)
  · have zc2 := eqK rfl (show (0 : Int32).toInt = 0 by decide) c2
    refine lv_ldc2 hx hb hown (ht _ kl_RX10_289) dX10_read_25 ?_
    exact retRl hx hb hr hlk hS dX10_read_28 (trivial)
  · have zc2 := neK rfl (show (0 : Int32).toInt = 0 by decide) c2
    refine lv_aload_n hx hb dX10_read_8 rfl (lv_at hl 0 rfl) ?_
    refine lv_iload_n hx hb dX10_read_9 rfl (lv_at hl 2 rfl) ?_
    refine behR (runVP (As := [.int a2]) (rest := []) ⟨hx, hb, hml, hown, ht⟩ (sX10_isMan l G cs adm qm Fm Am Bm Dm hIm qms Fms Ams Bms Dms hIms qmh Fmh Amh Bmh Dmh hImh a2 ) okV_RX10_128 ⟨by decide, by decide⟩ hK hP [0, 1, 2, 3, 4, 5, 6, 7, 8, 9, 10, 11, 12] rfl 0 rfl rfl hl.1 rfl (Nat.le_of_ble_eq_true rfl) dX10_read_10 ⟨by decide, by decide⟩) hP hS (fun _ h => h) (fun r3 H locs hr3 hP hS => ?_)
    have hr3 : (r3.toInt = 1 ∧ 0 ≤ a2.toInt ∧ a2.toInt < (Fmh 6).toInt ∧ a2.toInt ≤ 5) ∨ r3.toInt = 0 := hr3
    refine lv_if_eq (tgt := 25) hx hb dX10_read_13 (by decide) (fun c4 => ?_) (fun c4 => ?_)
    · have zc4 := eqK rfl (show (0 : Int32).toInt = 0 by decide) c4
      refine lv_ldc2 hx hb hown (ht _ kl_RX10_289) dX10_read_25 ?_
      exact retRl hx hb hr hlk hS dX10_read_28 (trivial)
    · have zc4 := neK rfl (show (0 : Int32).toInt = 0 by decide) c4
      refine lv_iload_n hx hb dX10_read_16 rfl (lv_at hl 3 rfl) ?_
      refine lv_if_lt (tgt := 25) hx hb dX10_read_17 (by decide) (fun c5 => ?_) (fun c5 => ?_)
      · have zc5 := ltK rfl (show (0 : Int32).toInt = 0 by decide) c5
        refine lv_ldc2 hx hb hown (ht _ kl_RX10_289) dX10_read_25 ?_
        exact retRl hx hb hr hlk hS dX10_read_28 (trivial)
      · have zc5 := nltK rfl (show (0 : Int32).toInt = 0 by decide) c5
        refine lv_iload_n hx hb dX10_read_20 rfl (lv_at hl 3 rfl) ?_
        refine lv_iconst (v := 1) hx hb dX10_read_21 (by decide) ?_
        refine lv_icmp_le (tgt := 29) hx hb dX10_read_22 (by decide) (fun c6 => ?_) (fun c6 => ?_)
        · have zc6 := leK rfl (show (1 : Int32).toInt = 1 by decide) c6
          refine lv_aload_n hx hb dX10_read_29 rfl (lv_at hl 0 rfl) ?_
          refine getF (v := .ref (qm 10)) hx hb ht hown hK hP iTX10 0 10 rfl rfl (by decide) fl_RX10_72 rfl dX10_read_30 ?_
          refine lv_aload_n hx hb dX10_read_33 rfl (lv_at hl 0 rfl) ?_
          refine getF (v := .ref (qm 10)) hx hb ht hown hK hP iTX10 0 10 rfl rfl (by decide) fl_RX10_72 rfl dX10_read_34 ?_
          refine lv_aload_n hx hb dX10_read_37 rfl (lv_at hl 0 rfl) ?_
          refine getF (v := .ref (qm 3)) hx hb ht hown hK hP iTX10 0 3 rfl rfl (by decide) fl_RX10_31 rfl dX10_read_38 ?_
          refine getF (v := .ref (qms 0)) hx hb ht hown hK hP iTX8 3 0 rfl rfl (by decide) fl_RX10_98 rfl dX10_read_41 ?_
          refine lv_iload_n hx hb dX10_read_44 rfl (lv_at hl 1 rfl) ?_
          refine lv_iload_n hx hb dX10_read_45 rfl (lv_at hl 2 rfl) ?_
          refine behRL (runVP (As := [.ref (qms 0), .int a1, .int a2]) (rest := [.ref (qm 10)]) ⟨hx, hb, hml, hown, ht⟩ (sX4_share l G cs (qm 10) qme Fme Ame Bme Dme hIme (qms 0) qmh Fmh Amh Bmh Dmh hImh a1 a2 (by omega) (by omega)) okV_RX10_291 ⟨by decide, by decide⟩ hK hP [13, 14, 5, 6, 7, 8, 9, 10, 11, 12] rfl 13 rfl rfl hl.1 rfl (Nat.le_of_ble_eq_true rfl) dX10_read_46 ⟨by decide, by decide⟩) hP hS (fun _ h => h) (fun r7 H locs hr7 hP hS => ?_)
          refine lv_aload_n hx hb dX10_read_49 rfl (lv_at hl 0 rfl) ?_
          refine getF (v := .ref (qm 10)) hx hb ht hown hK hP iTX10 0 10 rfl rfl (by decide) fl_RX10_72 rfl dX10_read_50 ?_
          refine lv_aload_n hx hb dX10_read_53 rfl (lv_at hl 0 rfl) ?_
          refine getF (v := .ref (qm 3)) hx hb ht hown hK hP iTX10 0 3 rfl rfl (by decide) fl_RX10_31 rfl dX10_read_54 ?_
          refine getF (v := .ref (qms 0)) hx hb ht hown hK hP iTX8 3 0 rfl rfl (by decide) fl_RX10_98 rfl dX10_read_57 ?_
          refine lv_iload_n hx hb dX10_read_60 rfl (lv_at hl 2 rfl) ?_
          refine behRL (runVP (As := [.ref (qms 0), .int a2]) (rest := [.long r7, .ref (qm 10)]) ⟨hx, hb, hml, hown, ht⟩ (sX4_allRead l G cs (qm 10) qme Fme Ame Bme Dme hIme (qms 0) qmh Fmh Amh Bmh Dmh hImh a2 (by omega)) okV_RX10_295 ⟨by decide, by decide⟩ hK hP [13, 14, 5, 6, 7, 8, 9, 10, 11, 12] rfl 13 rfl rfl hl.1 rfl (Nat.le_of_ble_eq_true rfl) dX10_read_61 ⟨by decide, by decide⟩) hP hS (fun _ h => h) (fun r8 H locs hr8 hP hS => ?_)
          refine lv_iload_n hx hb dX10_read_64 rfl (lv_at hl 3 rfl) ?_
          refine behRL (runVP (As := [.long r7, .long r8, .int a3]) (rest := []) ⟨hx, hb, hml, hown, ht⟩ (sX4_lowest l G cs (qm 10) qme Fme Ame Bme Dme hIme r7 r8 a3 ) okV_RX10_285 ⟨by decide, by decide⟩ hK hP [13, 14] rfl 13 rfl rfl hl.1 rfl (Nat.le_of_ble_eq_true rfl) dX10_read_65 ⟨by decide, by decide⟩) hP hS (fun _ h => h) (fun r9 H locs hr9 hP hS => ?_)
          exact retRl hx hb hr hlk hS dX10_read_68 (trivial)
        · have zc6 := nleK rfl (show (1 : Int32).toInt = 1 by decide) c6
          refine lv_ldc2 hx hb hown (ht _ kl_RX10_289) dX10_read_25 ?_
          exact retRl hx hb hr hlk hS dX10_read_28 (trivial)

set_option maxRecDepth 100000 in
set_option maxHeartbeats 16000000 in
theorem sX10_guess (l : Launch) (G : va_G) (cs : Nat → ClassId) (adm : Nat) (qm : Nat → Nat) (Fm : Nat → Int32) (Am : Nat → Nat → Int32) (Bm : Nat → Nat → Int64) (Dm : Int64) (hIm : IX10 Fm Am) (qms : Nat → Nat) (Fms : Nat → Int32) (Ams : Nat → Nat → Int32) (Bms : Nat → Nat → Int64) (Dms : Int64) (hIms : IX8 Fms Ams) (qmh : Nat → Nat) (Fmh : Nat → Int32) (Amh : Nat → Nat → Int32) (Bmh : Nat → Nat → Int64) (Dmh : Int64) (hImh : IX3 Fmh Amh) (qme : Nat → Nat) (Fme : Nat → Int32) (Ame : Nat → Nat → Int32) (Bme : Nat → Nat → Int64) (Dme : Int64) (hIme : IX4 Fme Ame) (a1 : Int32) : ∀ sz : Nat, Met l yX10_guess (wk yX10_guess cX10_guess 8 (some .int)) (rmk 3 0 0) (PreP G (TY cs) [.ref adm, .int a1] ((uX10 cs adm qm Fm Am Bm Dm) ++ ((uX8 cs (qm 3) qms Fms Ams Bms Dms) ++ ((uX3 cs (qms 0) qmh Fmh Amh Bmh Dmh) ++ (uX4 cs (qm 10) qme Fme Ame Bme Dme)))) sz) (QRi (fun r : Int32 => True) sz) 0 0 (fun q => sz ≤ q) := by
  refine mkP (Qc := QRi (fun r : Int32 => True)) (by decide) (by simp [lg_sl, Value.category]) ?_
  intro p e s m args below meth c ls hx hb hml hr hlk hown ht hK hP hS hl
  have hl : lv_has ls 8 [(0, .ref adm), (1, .int a1)] := hl
  refine lv_aload_n hx hb dX10_guess_0 rfl (lv_at hl 0 rfl) ?_
  refine lv_iload_n hx hb dX10_guess_1 rfl (lv_at hl 1 rfl) ?_
  refine behR (runVP (As := [.int a1]) (rest := []) ⟨hx, hb, hml, hown, ht⟩ (sX10_isMan l G cs adm qm Fm Am Bm Dm hIm qms Fms Ams Bms Dms hIms qmh Fmh Amh Bmh Dmh hImh a1 ) okV_RX10_128 ⟨by decide, by decide⟩ hK hP [0, 1, 2, 3, 4, 5, 6, 7, 8, 9, 10, 11, 12] rfl 0 rfl rfl hl.1 rfl (Nat.le_of_ble_eq_true rfl) dX10_guess_2 ⟨by decide, by decide⟩) hP hS (fun _ h => h) (fun r1 H locs hr1 hP hS => ?_)
  have hr1 : (r1.toInt = 1 ∧ 0 ≤ a1.toInt ∧ a1.toInt < (Fmh 6).toInt ∧ a1.toInt ≤ 5) ∨ r1.toInt = 0 := hr1
  refine lv_if_ne (tgt := 11) hx hb dX10_guess_5 (by decide) (fun c2 => ?_) (fun c2 => ?_)
  · have zc2 := neK rfl (show (0 : Int32).toInt = 0 by decide) c2
    refine lv_iconst (v := (-1)) hx hb dX10_guess_11 (by decide) ?_
    refine lv_istore_n (lv' := [(2, .int (-1)), (0, .ref adm), (1, .int a1)]) hx hb dX10_guess_12 rfl hl (by decide) rfl (fun ls hl => ?_)
    refine lv_lconst (v := 0) hx hb dX10_guess_13 (by decide) ?_
    refine lv_lstore_n (lv' := [(3, .long 0), (2, .int (-1)), (0, .ref adm), (1, .int a1)]) hx hb dX10_guess_14 rfl hl (by decide) rfl (fun ls hl => ?_)
    refine lv_iconst (v := 0) hx hb dX10_guess_15 (by decide) ?_
    refine lv_istore (lv' := [(5, .int 0), (3, .long 0), (2, .int (-1)), (0, .ref adm), (1, .int a1)]) hx hb dX10_guess_16 hl (by decide) rfl (fun ls hl => ?_)
    have B18 : ∀ (n : Nat) (x18_2 : Int32) (x18_3 : Int64) (x18_5 : Int32) (H : Heap) (locs : List Loc) (ls : Array Slot), (6 - x18_5.toInt).toNat < n → (-1 : Int) ≤ x18_2.toInt ∧ x18_2.toInt ≤ 6 → (0 : Int) ≤ x18_3.toInt → (0 : Int) ≤ x18_5.toInt ∧ x18_5.toInt ≤ 6 → va_P G vwCl ((uX10 cs adm qm Fm Am Bm Dm) ++ ((uX8 cs (qm 3) qms Fms Ams Bms Dms) ++ ((uX3 cs (qms 0) qmh Fmh Amh Bmh Dmh) ++ (uX4 cs (qm 10) qme Fme Ame Bme Dme)))) H → va_S (fun q => s.heap.size ≤ q) s.heap H locs → lv_has ls 8 [(0, .ref adm), (1, .int a1), (2, .int x18_2), (3, .long x18_3), (5, .int x18_5)] → W p l e (rmk 3 0 0) s m args below meth c H locs 0 0 (MQ below (QRi (fun r : Int32 => True) s.heap.size) args s 0 0 (fun q => s.heap.size ≤ q)) (F0 m 18 ls []) := by
      intro n
      induction n with
      | zero => intro x18_2 x18_3 x18_5 H locs ls hmeas hx18_2 hx18_3 hx18_5 hP hS hl; exact absurd hmeas (Nat.not_lt_zero _)
      | succ n ih18 =>
        intro x18_2 x18_3 x18_5 H locs ls hmeas hx18_2 hx18_3 hx18_5 hP hS hl
        refine lv_iload hx hb dX10_guess_18 (lv_at hl 4 rfl) ?_
        refine lv_aload_n hx hb dX10_guess_20 rfl (lv_at hl 0 rfl) ?_
        refine getF (v := .ref (qm 3)) hx hb ht hown hK hP iTX10 0 3 rfl rfl (by decide) fl_RX10_31 rfl dX10_guess_21 ?_
        refine getF (v := .ref (qms 0)) hx hb ht hown hK hP iTX8 3 0 rfl rfl (by decide) fl_RX10_98 rfl dX10_guess_24 ?_
        refine getF (v := .int (Fmh 6)) hx hb ht hown hK hP iTX3 5 6 rfl rfl (by decide) fl_RX10_283 rfl dX10_guess_27 ?_
        have zf13001 : (0 : Int) ≤ (Fmh 6).toInt ∧ (Fmh 6).toInt ≤ 6 := hImh.1 6
        refine lv_icmp_ge (tgt := 71) hx hb dX10_guess_30 (by decide) (fun c13002 => ?_) (fun c13002 => ?_)
        · have zc13002 := leK rfl rfl c13002
          refine lv_iload_n hx hb dX10_guess_71 rfl (lv_at hl 2 rfl) ?_
          exact retRi hx hb hr hlk hS dX10_guess_72 (trivial)
        · have zc13002 := nleK rfl rfl c13002
          refine lv_aload_n hx hb dX10_guess_33 rfl (lv_at hl 0 rfl) ?_
          refine getF (v := .ref (qm 10)) hx hb ht hown hK hP iTX10 0 10 rfl rfl (by decide) fl_RX10_72 rfl dX10_guess_34 ?_
          refine lv_aload_n hx hb dX10_guess_37 rfl (lv_at hl 0 rfl) ?_
          refine getF (v := .ref (qm 3)) hx hb ht hown hK hP iTX10 0 3 rfl rfl (by decide) fl_RX10_31 rfl dX10_guess_38 ?_
          refine getF (v := .ref (qms 0)) hx hb ht hown hK hP iTX8 3 0 rfl rfl (by decide) fl_RX10_98 rfl dX10_guess_41 ?_
          refine lv_iload hx hb dX10_guess_44 (lv_at hl 4 rfl) ?_
          refine lv_iload_n hx hb dX10_guess_46 rfl (lv_at hl 1 rfl) ?_
          refine behRL (runVP (As := [.ref (qms 0), .int x18_5, .int a1]) (rest := []) ⟨hx, hb, hml, hown, ht⟩ (sX4_share l G cs (qm 10) qme Fme Ame Bme Dme hIme (qms 0) qmh Fmh Amh Bmh Dmh hImh x18_5 a1 (by omega) (by omega)) okV_RX10_291 ⟨by decide, by decide⟩ hK hP [13, 14, 5, 6, 7, 8, 9, 10, 11, 12] rfl 13 rfl rfl hl.1 rfl (Nat.le_of_ble_eq_true rfl) dX10_guess_47 ⟨by decide, by decide⟩) hP hS (fun _ h => h) (fun r13003 H locs hr13003 hP hS => ?_)
          refine lv_lstore (lv' := [(6, .long r13003), (0, .ref adm), (1, .int a1), (2, .int x18_2), (3, .long x18_3), (5, .int x18_5)]) hx hb dX10_guess_50 hl (by decide) rfl (fun ls hl => ?_)
          refine lv_lload hx hb dX10_guess_52 (lv_at hl 0 rfl) ?_
          refine lv_lload_n hx hb dX10_guess_54 rfl (lv_at hl 4 rfl) ?_
          refine W.lcmp hx hb dX10_guess_55 ?_
          refine lv_topi (fun v13004 ev13004 => ?_)
          have B65 : ∀ (x65_2 : Int32) (x65_3 : Int64) (H : Heap) (locs : List Loc) (ls : Array Slot), (-1 : Int) ≤ x65_2.toInt ∧ x65_2.toInt ≤ 6 → (0 : Int) ≤ x65_3.toInt → va_P G vwCl ((uX10 cs adm qm Fm Am Bm Dm) ++ ((uX8 cs (qm 3) qms Fms Ams Bms Dms) ++ ((uX3 cs (qms 0) qmh Fmh Amh Bmh Dmh) ++ (uX4 cs (qm 10) qme Fme Ame Bme Dme)))) H → va_S (fun q => s.heap.size ≤ q) s.heap H locs → lv_has ls 8 [(0, .ref adm), (1, .int a1), (2, .int x65_2), (3, .long x65_3), (5, .int x18_5)] → W p l e (rmk 3 0 0) s m args below meth c H locs 0 0 (MQ below (QRi (fun r : Int32 => True) s.heap.size) args s 0 0 (fun q => s.heap.size ≤ q)) (F0 m 65 ls []) := by
            intro x65_2 x65_3 H locs ls hx65_2 hx65_3 hP hS hl
            obtain ⟨v36001, ev36001⟩ : ∃ z : Int32, z = x18_5 + 1 := ⟨_, rfl⟩
            have tv36001 : v36001.toInt = x18_5.toInt + 1 := by rw [ev36001]; exact addT rfl (by decide) (by omega)
            refine lv_iinc (v := v36001) (lv' := [(5, .int v36001), (0, .ref adm), (1, .int a1), (2, .int x65_2), (3, .long x65_3)]) hx hb dX10_guess_65 hl (k := 4) rfl (by rw [ev36001]; rfl) (by decide) rfl (fun ls hl => ?_)
            refine lv_goto (tgt := 18) hx hb dX10_guess_68 (by decide) ?_
            exact ih18 x65_2 x65_3 v36001 H locs ls (by omega) (by omega) (by omega) (by omega) hP hS (lv_sub hl [1, 2, 3, 4, 0] rfl)
          refine lv_if_le (tgt := 65) hx hb dX10_guess_56 (by decide) (fun c13005 => ?_) (fun c13005 => ?_)
          · have zc13005 := leK rfl (show (0 : Int32).toInt = 0 by decide) c13005
            have yc13005 := cmpGTn rfl rfl ev13004 (by omega)
            exact B65 x18_2 x18_3 H locs ls (by omega) (by omega) hP hS (lv_sub hl [1, 2, 3, 4, 5] rfl)
          · have zc13005 := nleK rfl (show (0 : Int32).toInt = 0 by decide) c13005
            have yc13005 := cmpGT rfl rfl ev13004 (by omega)
            refine lv_lload hx hb dX10_guess_59 (lv_at hl 0 rfl) ?_
            refine lv_lstore_n (lv' := [(3, .long r13003), (6, .long r13003), (0, .ref adm), (1, .int a1), (2, .int x18_2), (5, .int x18_5)]) hx hb dX10_guess_61 rfl hl (by decide) rfl (fun ls hl => ?_)
            refine lv_iload hx hb dX10_guess_62 (lv_at hl 5 rfl) ?_
            refine lv_istore_n (lv' := [(2, .int x18_5), (3, .long r13003), (6, .long r13003), (0, .ref adm), (1, .int a1), (5, .int x18_5)]) hx hb dX10_guess_64 rfl hl (by decide) rfl (fun ls hl => ?_)
            exact B65 x18_5 r13003 H locs ls (by omega) (by omega) hP hS (lv_sub hl [3, 4, 0, 1, 5] rfl)
    exact B18 _ (-1) 0 0 H locs ls (Nat.lt_succ_self _) (by decide) (by decide) (by decide) hP hS (lv_sub hl [3, 4, 2, 1, 0] rfl)
  · have zc2 := eqK rfl (show (0 : Int32).toInt = 0 by decide) c2
    refine lv_bipush (v := (-2)) hx hb dX10_guess_8 (by decide) ?_
    exact retRi hx hb hr hlk hS dX10_guess_10 (trivial)

