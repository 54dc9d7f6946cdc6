set_option maxRecDepth 100000 in
set_option maxHeartbeats 16000000 in
theorem sX10_hangs_hi (l : Launch) (G : va_G) (cs : Nat → ClassId) (adm : Nat) (qm : Nat → Nat) (Fm : Nat → Int32) (Am : Nat → Nat → Int32) (Bm : Nat → Nat → Int64) (Dm : Int64) (hIm : IX10 Fm Am) (qms : Nat → Nat) (Fms : Nat → Int32) (Ams : Nat → Nat → Int32) (Bms : Nat → Nat → Int64) (Dms : Int64) (hIms : IX8 Fms Ams) (qmh : Nat → Nat) (Fmh : Nat → Int32) (Amh : Nat → Nat → Int32) (Bmh : Nat → Nat → Int64) (Dmh : Int64) (hImh : IX3 Fmh Amh) (qmn : Nat → Nat) (Fmn : Nat → Int32) (Amn : Nat → Nat → Int32) (Bmn : Nat → Nat → Int64) (Dmn : Int64) (hImn : IX5 Fmn Amn) (qmw : Nat → Nat) (Fmw : Nat → Int32) (Amw : Nat → Nat → Int32) (Bmw : Nat → Nat → Int64) (Dmw : Int64) (hImw : IX5 Fmw Amw) (a1 : Int32) (ha1 : (4 : Int) ≤ a1.toInt ∧ a1.toInt ≤ 2147483647) : ∀ sz : Nat, Met l yX10_hangs (wk yX10_hangs cX10_hangs 6 (some .int)) (rmk 3 0 0) (PreD G (TY cs) [.ref adm, .int a1] ((uX10 cs adm qm Fm Am Bm Dm) ++ ((uX8 cs (qm 3) qms Fms Ams Bms Dms) ++ ((uX3 cs (qms 0) qmh Fmh Amh Bmh Dmh) ++ ((uX5 cs (qm 6) qmn Fmn Amn Bmn Dmn) ++ (uX5 cs (qm 7) qmw Fmw Amw Bmw Dmw))))) sz) ((QDi G (fun (r : Int32) (u : Unit) => True) (fun u : Unit => ((uX10 cs adm qm Fm Am Bm Dm) ++ ((uX8 cs (qm 3) qms Fms Ams Bms Dms) ++ ((uX3 cs (qms 0) qmh Fmh Amh Bmh Dmh) ++ ((uX5 cs (qm 6) qmn Fmn Amn Bmn Dmn) ++ (uX5 cs (qm 7) qmw Fmw Amw Bmw Dmw))))))) (va_A ((uX10 cs adm qm Fm Am Bm Dm) ++ ((uX8 cs (qm 3) qms Fms Ams Bms Dms) ++ ((uX3 cs (qms 0) qmh Fmh Amh Bmh Dmh) ++ ((uX5 cs (qm 6) qmn Fmn Amn Bmn Dmn) ++ (uX5 cs (qm 7) qmw Fmw Amw Bmw Dmw))))) sz)) 0 0 (va_A ((uX10 cs adm qm Fm Am Bm Dm) ++ ((uX8 cs (qm 3) qms Fms Ams Bms Dms) ++ ((uX3 cs (qms 0) qmh Fmh Amh Bmh Dmh) ++ ((uX5 cs (qm 6) qmn Fmn Amn Bmn Dmn) ++ (uX5 cs (qm 7) qmw Fmw Amw Bmw Dmw))))) sz) := by
  refine mkD (Qc := (QDi G (fun (r : Int32) (u : Unit) => True) (fun u : Unit => ((uX10 cs adm qm Fm Am Bm Dm) ++ ((uX8 cs (qm 3) qms Fms Ams Bms Dms) ++ ((uX3 cs (qms 0) qmh Fmh Amh Bmh Dmh) ++ ((uX5 cs (qm 6) qmn Fmn Amn Bmn Dmn) ++ (uX5 cs (qm 7) qmw Fmw Amw Bmw Dmw)))))))) (by decide) (by simp [lg_sl, Value.category]) ?_
  intro p e s m args below meth c ls A0 hx hb hml hr hlk hown hmn ht hK hP hD hS hA hl
  have hl : lv_has ls 6 [(0, .ref adm), (1, .int a1)] := hl
  refine lv_aload_n hx hb dX10_hangs_0 rfl (lv_at hl 0 rfl) ?_
  refine lv_iload_n hx hb dX10_hangs_1 rfl (lv_at hl 1 rfl) ?_
  refine lv_iconst (v := 1) hx hb dX10_hangs_2 (by decide) ?_
  have bb1 := i32b a1
  refine behR (runVP (As := [.int a1, .int 1]) (rest := []) ⟨hx, hb, hml, hown, ht⟩ (sX10_askRound_hi l G cs adm qm Fm Am Bm Dm hIm qms Fms Ams Bms Dms hIms qmh Fmh Amh Bmh Dmh hImh a1 1 (by omega) (by decide)) okV_RX10_186 ⟨by decide, by decide⟩ hK hP [0, 1, 2, 3, 4, 5, 6, 7, 8, 9, 10, 11, 12] rfl 0 rfl rfl hl.1 rfl (Nat.le_of_ble_eq_true rfl) dX10_hangs_3 ⟨by decide, by decide⟩) hP hS hA (fun r2 H locs hr2 hP hS => ?_)
  have kk3 : (1 : Int32).toInt = 1 := by decide
  have hr2 : r2.toInt = -2 := hr2
  refine lv_istore_n (lv' := [(2, .int r2), (0, .ref adm), (1, .int a1)]) hx hb dX10_hangs_6 rfl hl (by decide) rfl (fun ls hl => ?_)
  refine lv_iload_n hx hb dX10_hangs_7 rfl (lv_at hl 0 rfl) ?_
  refine lv_if_eq (tgt := 13) hx hb dX10_hangs_8 (by decide) (fun c4 => False.elim (by have zz := eqK rfl (show (0 : Int32).toInt = 0 by decide) c4; omega)) (fun c4 => ?_)
  refine lv_iload_n hx hb dX10_hangs_11 rfl (lv_at hl 0 rfl) ?_
  exact retDi () hx hb hr hlk hP hD hS dX10_hangs_12 (trivial) (Nat.le_of_ble_eq_true rfl) (Nat.le_of_ble_eq_true rfl)

set_option maxRecDepth 100000 in
set_option maxHeartbeats 16000000 in
theorem sX10_habit_0 (l : Launch) (G : va_G) (cs : Nat → ClassId) (adm : Nat) (qm : Nat → Nat) (Fm : Nat → Int32) (Am : Nat → Nat → Int32) (Bm : Nat → Nat → Int64) (Dm : Int64) (hIm : IX10 Fm Am) (qms : Nat → Nat) (Fms : Nat → Int32) (Ams : Nat → Nat → Int32) (Bms : Nat → Nat → Int64) (Dms : Int64) (hIms : IX8 Fms Ams) (qmh : Nat → Nat) (Fmh : Nat → Int32) (Amh : Nat → Nat → Int32) (Bmh : Nat → Nat → Int64) (Dmh : Int64) (hImh : IX3 Fmh Amh) (qr0 : Nat → Nat) (Fr0 : Nat → Int32) (Ar0 : Nat → Nat → Int32) (Br0 : Nat → Nat → Int64) (Dr0 : Int64) (hIr0 : IX7 Fr0 Ar0) : ∀ sz : Nat, Met l yX10_habit (wk yX10_habit cX10_habit 3 (some .int)) (rmk 3 0 0) (PreP G (TY cs) [.ref adm, .int 0] ((uX10 cs adm qm Fm Am Bm Dm) ++ ((uX8 cs (qm 3) qms Fms Ams Bms Dms) ++ ((uX3 cs (qms 0) qmh Fmh Amh Bmh Dmh) ++ (uX7 cs (qm 20) qr0 Fr0 Ar0 Br0 Dr0)))) sz) (QRi (fun r : Int32 => True) sz) 0 0 (fun q => sz ≤ q) := by
  refine mkP (Qc := QRi (fun r : Int32 => True)) (by decide) (by simp [lg_sl, Value.category]) ?_
  intro p e s m args below meth c ls hx hb hml hr hlk hown ht hK hP hS hl
  have hl : lv_has ls 3 [(0, .ref adm), (1, .int 0)] := hl
  refine lv_aload_n hx hb dX10_habit_0 rfl (lv_at hl 0 rfl) ?_
  refine lv_iload_n hx hb dX10_habit_1 rfl (lv_at hl 1 rfl) ?_
  refine lv_iconst (v := 1) hx hb dX10_habit_2 (by decide) ?_
  refine behR (runVP (As := [.int 0, .int 1]) (rest := []) ⟨hx, hb, hml, hown, ht⟩ (sX10_askHabits_0 l G cs adm qm Fm Am Bm Dm hIm qms Fms Ams Bms Dms hIms qmh Fmh Amh Bmh Dmh hImh qr0 Fr0 Ar0 Br0 Dr0 hIr0 1 (by decide)) okV_RX10_299 ⟨by decide, by decide⟩ hK hP [0, 1, 2, 3, 4, 5, 6, 7, 8, 9, 10, 11, 12, 13, 14] rfl 0 rfl rfl hl.1 rfl (Nat.le_of_ble_eq_true rfl) dX10_habit_3 ⟨by decide, by decide⟩) hP hS (fun _ h => h) (fun r1 H locs hr1 hP hS => ?_)
  have kk2 : (0 : Int32).toInt = 0 := by decide
  have kk3 : (1 : Int32).toInt = 1 := by decide
  have hr1 : ((r1.toInt = 0 ∧ (1 : Int32).toInt = 1) ∨ r1.toInt = -2 ∨ r1.toInt = -6) ∧ RWk r1 0 (Br0 0) 0 ((Fmh 5).toInt - 1) (Fr0 3).toInt := hr1
  refine lv_istore_n (lv' := [(2, .int r1), (0, .ref adm), (1, .int 0)]) hx hb dX10_habit_6 rfl hl (by decide) rfl (fun ls hl => ?_)
  refine lv_iload_n hx hb dX10_habit_7 rfl (lv_at hl 0 rfl) ?_
  refine lv_if_eq (tgt := 13) hx hb dX10_habit_8 (by decide) (fun c4 => ?_) (fun c4 => ?_)
  · have zc4 := eqK rfl (show (0 : Int32).toInt = 0 by decide) c4
    refine lv_aload_n hx hb dX10_habit_13 rfl (lv_at hl 1 rfl) ?_
    refine lv_aload_n hx hb dX10_habit_14 rfl (lv_at hl 1 rfl) ?_
    refine getF (v := .ref (qm 5)) hx hb ht hown hK hP iTX10 0 5 rfl rfl (by decide) fl_RX10_41 rfl dX10_habit_15 ?_
    refine lv_iload_n hx hb dX10_habit_18 rfl (lv_at hl 2 rfl) ?_
    refine va_aldq hx hb hK.1 hP 2 5 rfl rfl (show ¬ (_ ∨ _) by decide) dX10_habit_19 ?_
    refine W.eq (g2 := F0 m 20 ls [.ref (qm 20), .ref adm]) rfl ?_
    refine lv_iconst (v := (-1)) hx hb dX10_habit_20 (by decide) ?_
    refine behR (runVP (As := [.ref (qm 20), .int (-1)]) (rest := []) ⟨hx, hb, hml, hown, ht⟩ (sX10_mostFrequent l G cs adm qm Fm Am Bm Dm hIm qms Fms Ams Bms Dms hIms qmh Fmh Amh Bmh Dmh hImh (qm 20) qr0 Fr0 Ar0 Br0 Dr0 hIr0 (-1) ) okV_RX10_302 ⟨by decide, by decide⟩ hK hP [0, 1, 2, 3, 4, 5, 6, 7, 8, 9, 10, 11, 12, 13, 14] rfl 0 rfl rfl hl.1 rfl (Nat.le_of_ble_eq_true rfl) dX10_habit_21 ⟨by decide, by decide⟩) hP hS (fun _ h => h) (fun r5 H locs hr5 hP hS => ?_)
    exact retRi hx hb hr hlk hS dX10_habit_24 (trivial)
  · have zc4 := neK rfl (show (0 : Int32).toInt = 0 by decide) c4
    refine lv_iload_n hx hb dX10_habit_11 rfl (lv_at hl 0 rfl) ?_
    exact retRi hx hb hr hlk hS dX10_habit_12 (trivial)

set_option maxRecDepth 100000 in
set_option maxHeartbeats 16000000 in
theorem sX10_habit_1 (l : Launch) (G : va_G) (cs : Nat → ClassId) (adm : Nat) (qm : Nat → Nat) (Fm : Nat → Int32) (Am : Nat → Nat → Int32) (Bm : Nat → Nat → Int64) (Dm : Int64) (hIm : IX10 Fm Am) (qms : Nat → Nat) (Fms : Nat → Int32) (Ams : Nat → Nat → Int32) (Bms : Nat → Nat → Int64) (Dms : Int64) (hIms : IX8 Fms Ams) (qmh : Nat → Nat) (Fmh : Nat → Int32) (Amh : Nat → Nat → Int32) (Bmh : Nat → Nat → Int64) (Dmh : Int64) (hImh : IX3 Fmh Amh) (qr1 : Nat → Nat) (Fr1 : Nat → Int32) (Ar1 : Nat → Nat → Int32) (Br1 : Nat → Nat → Int64) (Dr1 : Int64) (hIr1 : IX7 Fr1 Ar1) : ∀ sz : Nat, Met l yX10_habit (wk yX10_habit cX10_habit 3 (some .int)) (rmk 3 0 0) (PreP G (TY cs) [.ref adm, .int 1] ((uX10 cs adm qm Fm Am Bm Dm) ++ ((uX8 cs (qm 3) qms Fms Ams Bms Dms) ++ ((uX3 cs (qms 0) qmh Fmh Amh Bmh Dmh) ++ (uX7 cs (qm 21) qr1 Fr1 Ar1 Br1 Dr1)))) sz) (QRi (fun r : Int32 => True) sz) 0 0 (fun q => sz ≤ q) := by
  refine mkP (Qc := QRi (fun r : Int32 => True)) (by decide) (by simp [lg_sl, Value.category]) ?_
  intro p e s m args below meth c ls hx hb hml hr hlk hown ht hK hP hS hl
  have hl : lv_has ls 3 [(0, .ref adm), (1, .int 1)] := hl
  refine lv_aload_n hx hb dX10_habit_0 rfl (lv_at hl 0 rfl) ?_
  refine lv_iload_n hx hb dX10_habit_1 rfl (lv_at hl 1 rfl) ?_
  refine lv_iconst (v := 1) hx hb dX10_habit_2 (by decide) ?_
  refine behR (runVP (As := [.int 1, .int 1]) (rest := []) ⟨hx, hb, hml, hown, ht⟩ (sX10_askHabits_1 l G cs adm qm Fm Am Bm Dm hIm qms Fms Ams Bms Dms hIms qmh Fmh Amh Bmh Dmh hImh qr1 Fr1 Ar1 Br1 Dr1 hIr1 1 (by decide)) okV_RX10_299 ⟨by decide, by decide⟩ hK hP [0, 1, 2, 3, 4, 5, 6, 7, 8, 9, 10, 11, 12, 13, 14] rfl 0 rfl rfl hl.1 rfl (Nat.le_of_ble_eq_true rfl) dX10_habit_3 ⟨by decide, by decide⟩) hP hS (fun _ h => h) (fun r1 H locs hr1 hP hS => ?_)
  have kk2 : (1 : Int32).toInt = 1 := by decide
  have kk3 : (1 : Int32).toInt = 1 := by decide
  have hr1 : ((r1.toInt = 0 ∧ (1 : Int32).toInt = 1) ∨ r1.toInt = -2 ∨ r1.toInt = -6) ∧ RWk r1 0 (Br1 0) 0 ((Fmh 5).toInt - 1) (Fr1 3).toInt := hr1
  refine lv_istore_n (lv' := [(2, .int r1), (0, .ref adm), (1, .int 1)]) hx hb dX10_habit_6 rfl hl (by decide) rfl (fun ls hl => ?_)
  refine lv_iload_n hx hb dX10_habit_7 rfl (lv_at hl 0 rfl) ?_
  refine lv_if_eq (tgt := 13) hx hb dX10_habit_8 (by decide) (fun c4 => ?_) (fun c4 => ?_)
  · have zc4 := eqK rfl (show (0 : Int32).toInt = 0 by decide) c4
    refine lv_aload_n hx hb dX10_habit_13 rfl (lv_at hl 1 rfl) ?_
    refine lv_aload_n hx hb dX10_habit_14 rfl (lv_at hl 1 rfl) ?_
    refine getF (v := .ref (qm 5)) hx hb ht hown hK hP iTX10 0 5 rfl rfl (by decide) fl_RX10_41 rfl dX10_habit_15 ?_
    refine lv_iload_n hx hb dX10_habit_18 rfl (lv_at hl 2 rfl) ?_
    refine va_aldq hx hb hK.1 hP 2 5 rfl rfl (show ¬ (_ ∨ _) by decide) dX10_habit_19 ?_
    refine W.eq (g2 := F0 m 20 ls [.ref (qm 21), .ref adm]) rfl ?_
    refine lv_iconst (v := (-1)) hx hb dX10_habit_20 (by decide) ?_
    refine behR (runVP (As := [.ref (qm 21), .int (-1)]) (rest := []) ⟨hx, hb, hml, hown, ht⟩ (sX10_mostFrequent l G cs adm qm Fm Am Bm Dm hIm qms Fms Ams Bms Dms hIms qmh Fmh Amh Bmh Dmh hImh (qm 21) qr1 Fr1 Ar1 Br1 Dr1 hIr1 (-1) ) okV_RX10_302 ⟨by decide, by decide⟩ hK hP [0, 1, 2, 3, 4, 5, 6, 7, 8, 9, 10, 11, 12, 13, 14] rfl 0 rfl rfl hl.1 rfl (Nat.le_of_ble_eq_true rfl) dX10_habit_21 ⟨by decide, by decide⟩) hP hS (fun _ h => h) (fun r5 H locs hr5 hP hS => ?_)
    exact retRi hx hb hr hlk hS dX10_habit_24 (trivial)
  · have zc4 := neK rfl (show (0 : Int32).toInt = 0 by decide) c4
    refine lv_iload_n hx hb dX10_habit_11 rfl (lv_at hl 0 rfl) ?_
    exact retRi hx hb hr hlk hS dX10_habit_12 (trivial)

set_option maxRecDepth 100000 in
set_option maxHeartbeats 16000000 in
theorem sX10_habit_2 (l : Launch) (G : va_G) (cs : Nat → ClassId) (adm : Nat) (qm : Nat → Nat) (Fm : Nat → Int32) (Am : Nat → Nat → Int32) (Bm : Nat → Nat → Int64) (Dm : Int64) (hIm : IX10 Fm Am) (qms : Nat → Nat) (Fms : Nat → Int32) (Ams : Nat → Nat → Int32) (Bms : Nat → Nat → Int64) (Dms : Int64) (hIms : IX8 Fms Ams) (qmh : Nat → Nat) (Fmh : Nat → Int32) (Amh : Nat → Nat → Int32) (Bmh : Nat → Nat → Int64) (Dmh : Int64) (hImh : IX3 Fmh Amh) (qr2 : Nat → Nat) (Fr2 : Nat → Int32) (Ar2 : Nat → Nat → Int32) (Br2 : Nat → Nat → Int64) (Dr2 : Int64) (hIr2 : IX7 Fr2 Ar2) : ∀ sz : Nat, Met l yX10_habit (wk yX10_habit cX10_habit 3 (some .int)) (rmk 3 0 0) (PreP G (TY cs) [.ref adm, .int 2] ((uX10 cs adm qm Fm Am Bm Dm) ++ ((uX8 cs (qm 3) qms Fms Ams Bms Dms) ++ ((uX3 cs (qms 0) qmh Fmh Amh Bmh Dmh) ++ (uX7 cs (qm 22) qr2 Fr2 Ar2 Br2 Dr2)))) sz) (QRi (fun r : Int32 => True) sz) 0 0 (fun q => sz ≤ q) := by
  refine mkP (Qc := QRi (fun r : Int32 => True)) (by decide) (by simp [lg_sl, Value.category]) ?_
  intro p e s m args below meth c ls hx hb hml hr hlk hown ht hK hP hS hl
  have hl : lv_has ls 3 [(0, .ref adm), (1, .int 2)] := hl
  refine lv_aload_n hx hb dX10_habit_0 rfl (lv_at hl 0 rfl) ?_
  refine lv_iload_n hx hb dX10_habit_1 rfl (lv_at hl 1 rfl) ?_
  refine lv_iconst (v := 1) hx hb dX10_habit_2 (by decide) ?_
  refine behR (runVP (As := [.int 2, .int 1]) (rest := []) ⟨hx, hb, hml, hown, ht⟩ (sX10_askHabits_2 l G cs adm qm Fm Am Bm Dm hIm qms Fms Ams Bms Dms hIms qmh Fmh Amh Bmh Dmh hImh qr2 Fr2 Ar2 Br2 Dr2 hIr2 1 (by decide)) okV_RX10_299 ⟨by decide, by decide⟩ hK hP [0, 1, 2, 3, 4, 5, 6, 7, 8, 9, 10, 11, 12, 13, 14] rfl 0 rfl rfl hl.1 rfl (Nat.le_of_ble_eq_true rfl) dX10_habit_3 ⟨by decide, by decide⟩) hP hS (fun _ h => h) (fun r1 H locs hr1 hP hS => ?_)
  have kk2 : (2 : Int32).toInt = 2 := by decide
  have kk3 : (1 : Int32).toInt = 1 := by decide
  have hr1 : ((r1.toInt = 0 ∧ (1 : Int32).toInt = 1) ∨ r1.toInt = -2 ∨ r1.toInt = -6) ∧ RWk r1 0 (Br2 0) 0 ((Fmh 5).toInt - 1) (Fr2 3).toInt := hr1
  refine lv_istore_n (lv' := [(2, .int r1), (0, .ref adm), (1, .int 2)]) hx hb dX10_habit_6 rfl hl (by decide) rfl (fun ls hl => ?_)
  refine lv_iload_n hx hb dX10_habit_7 rfl (lv_at hl 0 rfl) ?_
  refine lv_if_eq (tgt := 13) hx hb dX10_habit_8 (by decide) (fun c4 => ?_) (fun c4 => ?_)
  · have zc4 := eqK rfl (show (0 : Int32).toInt = 0 by decide) c4
    refine lv_aload_n hx hb dX10_habit_13 rfl (lv_at hl 1 rfl) ?_
    refine lv_aload_n hx hb dX10_habit_14 rfl (lv_at hl 1 rfl) ?_
    refine getF (v := .ref (qm 5)) hx hb ht hown hK hP iTX10 0 5 rfl rfl (by decide) fl_RX10_41 rfl dX10_habit_15 ?_
    refine lv_iload_n hx hb dX10_habit_18 rfl (lv_at hl 2 rfl) ?_
    refine va_aldq hx hb hK.1 hP 2 5 rfl rfl (show ¬ (_ ∨ _) by decide) dX10_habit_19 ?_
    refine W.eq (g2 := F0 m 20 ls [.ref (qm 22), .ref adm]) rfl ?_
    refine lv_iconst (v := (-1)) hx hb dX10_habit_20 (by decide) ?_
    refine behR (runVP (As := [.ref (qm 22), .int (-1)]) (rest := []) ⟨hx, hb, hml, hown, ht⟩ (sX10_mostFrequent l G cs adm qm Fm Am Bm Dm hIm qms Fms Ams Bms Dms hIms qmh Fmh Amh Bmh Dmh hImh (qm 22) qr2 Fr2 Ar2 Br2 Dr2 hIr2 (-1) ) okV_RX10_302 ⟨by decide, by decide⟩ hK hP [0, 1, 2, 3, 4, 5, 6, 7, 8, 9, 10, 11, 12, 13, 14] rfl 0 rfl rfl hl.1 rfl (Nat.le_of_ble_eq_true rfl) dX10_habit_21 ⟨by decide, by decide⟩) hP hS (fun _ h => h) (fun r5 H locs hr5 hP hS => ?_)
    exact retRi hx hb hr hlk hS dX10_habit_24 (trivial)
  · have zc4 := neK rfl (show (0 : Int32).toInt = 0 by decide) c4
    refine lv_iload_n hx hb dX10_habit_11 rfl (lv_at hl 0 rfl) ?_
    exact retRi hx hb hr hlk hS dX10_habit_12 (trivial)

set_option maxRecDepth 100000 in
set_option maxHeartbeats 16000000 in
theorem sX10_habit_3 (l : Launch) (G : va_G) (cs : Nat → ClassId) (adm : Nat) (qm : Nat → Nat) (Fm : Nat → Int32) (Am : Nat → Nat → Int32) (Bm : Nat → Nat → Int64) (Dm : Int64) (hIm : IX10 Fm Am) (qms : Nat → Nat) (Fms : Nat → Int32) (Ams : Nat → Nat → Int32) (Bms : Nat → Nat → Int64) (Dms : Int64) (hIms : IX8 Fms Ams) (qmh : Nat → Nat) (Fmh : Nat → Int32) (Amh : Nat → Nat → Int32) (Bmh : Nat → Nat → Int64) (Dmh : Int64) (hImh : IX3 Fmh Amh) (qr3 : Nat → Nat) (Fr3 : Nat → Int32) (Ar3 : Nat → Nat → Int32) (Br3 : Nat → Nat → Int64) (Dr3 : Int64) (hIr3 : IX7 Fr3 Ar3) : ∀ sz : Nat, Met l yX10_habit (wk yX10_habit cX10_habit 3 (some .int)) (rmk 3 0 0) (PreP G (TY cs) [.ref adm, .int 3] ((uX10 cs adm qm Fm Am Bm Dm) ++ ((uX8 cs (qm 3) qms Fms Ams Bms Dms) ++ ((uX3 cs (qms 0) qmh Fmh Amh Bmh Dmh) ++ (uX7 cs (qm 23) qr3 Fr3 Ar3 Br3 Dr3)))) sz) (QRi (fun r : Int32 => True) sz) 0 0 (fun q => sz ≤ q) := by
  refine mkP (Qc := QRi (fun r : Int32 => True)) (by decide) (by simp [lg_sl, Value.category]) ?_
  intro p e s m args below meth c ls hx hb hml hr hlk hown ht hK hP hS hl
  have hl : lv_has ls 3 [(0, .ref adm), (1, .int 3)] := hl
  refine lv_aload_n hx hb dX10_habit_0 rfl (lv_at hl 0 rfl) ?_
  refine lv_iload_n hx hb dX10_habit_1 rfl (lv_at hl 1 rfl) ?_
  refine lv_iconst (v := 1) hx hb dX10_habit_2 (by decide) ?_
  refine behR (runVP (As := [.int 3, .int 1]) (rest := []) ⟨hx, hb, hml, hown, ht⟩ (sX10_askHabits_3 l G cs adm qm Fm Am Bm Dm hIm qms Fms Ams Bms Dms hIms qmh Fmh Amh Bmh Dmh hImh qr3 Fr3 Ar3 Br3 Dr3 hIr3 1 (by decide)) okV_RX10_299 ⟨by decide, by decide⟩ hK hP [0, 1, 2, 3, 4, 5, 6, 7, 8, 9, 10, 11, 12, 13, 14] rfl 0 rfl rfl hl.1 rfl (Nat.le_of_ble_eq_true rfl) dX10_habit_3 ⟨by decide, by decide⟩) hP hS (fun _ h => h) (fun r1 H locs hr1 hP hS => ?_)
  have kk2 : (3 : Int32).toInt = 3 := by decide
  have kk3 : (1 : Int32).toInt = 1 := by decide
  have hr1 : ((r1.toInt = 0 ∧ (1 : Int32).toInt = 1) ∨ r1.toInt = -2 ∨ r1.toInt = -6) ∧ RWk r1 0 (Br3 0) 0 ((Fmh 5).toInt - 1) (Fr3 3).toInt := hr1
  refine lv_istore_n (lv' := [(2, .int r1), (0, .ref adm), (1, .int 3)]) hx hb dX10_habit_6 rfl hl (by decide) rfl (fun ls hl => ?_)
  refine lv_iload_n hx hb dX10_habit_7 rfl (lv_at hl 0 rfl) ?_
  refine lv_if_eq (tgt := 13) hx hb dX10_habit_8 (by decide) (fun c4 => ?_) (fun c4 => ?_)
  · have zc4 := eqK rfl (show (0 : Int32).toInt = 0 by decide) c4
    refine lv_aload_n hx hb dX10_habit_13 rfl (lv_at hl 1 rfl) ?_
    refine lv_aload_n hx hb dX10_habit_14 rfl (lv_at hl 1 rfl) ?_
    refine getF (v := .ref (qm 5)) hx hb ht hown hK hP iTX10 0 5 rfl rfl (by decide) fl_RX10_41 rfl dX10_habit_15 ?_
    refine lv_iload_n hx hb dX10_habit_18 rfl (lv_at hl 2 rfl) ?_
    refine va_aldq hx hb hK.1 hP 2 5 rfl rfl (show ¬ (_ ∨ _) by decide) dX10_habit_19 ?_
    refine W.eq (g2 := F0 m 20 ls [.ref (qm 23), .ref adm]) rfl ?_
    refine lv_iconst (v := (-1)) hx hb dX10_habit_20 (by decide) ?_
    refine behR (runVP (As := [.ref (qm 23), .int (-1)]) (rest := []) ⟨hx, hb, hml, hown, ht⟩ (sX10_mostFrequent l G cs adm qm Fm Am Bm Dm hIm qms Fms Ams Bms Dms hIms qmh Fmh Amh Bmh Dmh hImh (qm 23) qr3 Fr3 Ar3 Br3 Dr3 hIr3 (-1) ) okV_RX10_302 ⟨by decide, by decide⟩ hK hP [0, 1, 2, 3, 4, 5, 6, 7, 8, 9, 10, 11, 12, 13, 14] rfl 0 rfl rfl hl.1 rfl (Nat.le_of_ble_eq_true rfl) dX10_habit_21 ⟨by decide, by decide⟩) hP hS (fun _ h => h) (fun r5 H locs hr5 hP hS => ?_)
    exact retRi hx hb hr hlk hS dX10_habit_24 (trivial)
  · have zc4 := neK rfl (show (0 : Int32).toInt = 0 by decide) c4
    refine lv_iload_n hx hb dX10_habit_11 rfl (lv_at hl 0 rfl) ?_
    exact retRi hx hb hr hlk hS dX10_habit_12 (trivial)

set_option maxRecDepth 100000 in
set_option maxHeartbeats 16000000 in
theorem sX10_habit_lo (l : Launch) (G : va_G) (cs : Nat → ClassId) (adm : Nat) (qm : Nat → Nat) (Fm : Nat → Int32) (Am : Nat → Nat → Int32) (Bm : Nat → Nat → Int64) (Dm : Int64) (hIm : IX10 Fm Am) (qms : Nat → Nat) (Fms : Nat → Int32) (Ams : Nat → Nat → Int32) (Bms : Nat → Nat → Int64) (Dms : Int64) (hIms : IX8 Fms Ams) (qmh : Nat → Nat) (Fmh : Nat → Int32) (Amh : Nat → Nat → Int32) (Bmh : Nat → Nat → Int64) (Dmh : Int64) (hImh : IX3 Fmh Amh) (a1 : Int32) (ha1 : (-2147483648 : Int) ≤ a1.toInt ∧ a1.toInt ≤ -1) : ∀ sz : Nat, Met l yX10_habit (wk yX10_habit cX10_habit 3 (some .int)) (rmk 3 0 0) (PreP G (TY cs) [.ref adm, .int a1] ((uX10 cs adm qm Fm Am Bm Dm) ++ ((uX8 cs (qm 3) qms Fms Ams Bms Dms) ++ (uX3 cs (qms 0) qmh Fmh Amh Bmh Dmh))) sz) (QRi (fun r : Int32 => True) sz) 0 0 (fun q => sz ≤ q) := by
  refine mkP (Qc := QRi (fun r : Int32 => True)) (by decide) (by simp [lg_sl, Value.category]) ?_
  intro p e s m args below meth c ls hx hb hml hr hlk hown ht hK hP hS hl
  have hl : lv_has ls 3 [(0, .ref adm), (1, .int a1)] := hl
  refine lv_aload_n hx hb dX10_habit_0 rfl (lv_at hl 0 rfl) ?_
  refine lv_iload_n hx hb dX10_habit_1 rfl (lv_at hl 1 rfl) ?_
  refine lv_iconst (v := 1) hx hb dX10_habit_2 (by decide) ?_
  have bb1 := i32b a1
  refine behR (runVP (As := [.int a1, .int 1]) (rest := []) ⟨hx, hb, hml, hown, ht⟩ (sX10_askHabits_lo l G cs adm qm Fm Am Bm Dm hIm qms Fms Ams Bms Dms hIms qmh Fmh Amh Bmh Dmh hImh a1 1 (by omega) (by decide)) okV_RX10_299 ⟨by decide, by decide⟩ hK hP [0, 1, 2, 3, 4, 5, 6, 7, 8, 9, 10, 11, 12] rfl 0 rfl rfl hl.1 rfl (Nat.le_of_ble_eq_true rfl) dX10_habit_3 ⟨by decide, by decide⟩) hP hS (fun _ h => h) (fun r2 H locs hr2 hP hS => ?_)
  have kk3 : (1 : Int32).toInt = 1 := by decide
  have hr2 : r2.toInt = -2 := hr2
  refine lv_istore_n (lv' := [(2, .int r2), (0, .ref adm), (1, .int a1)]) hx hb dX10_habit_6 rfl hl (by decide) rfl (fun ls hl => ?_)
  refine lv_iload_n hx hb dX10_habit_7 rfl (lv_at hl 0 rfl) ?_
  refine lv_if_eq (tgt := 13) hx hb dX10_habit_8 (by decide) (fun c4 => False.elim (by have zz := eqK rfl (show (0 : Int32).toInt = 0 by decide) c4; omega)) (fun c4 => ?_)
  refine lv_iload_n hx hb dX10_habit_11 rfl (lv_at hl 0 rfl) ?_
  exact retRi hx hb hr hlk hS dX10_habit_12 (trivial)

