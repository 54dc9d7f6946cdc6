set_option maxRecDepth 100000 in
set_option maxHeartbeats 16000000 in
theorem sX10_askRound_hi (l : Launch) (G : va_G) (cs : Nat → ClassId) (adm : Nat) (qm : Nat → Nat) (Fm : Nat → Int32) (Am : Nat → Nat → Int32) (Bm : Nat → Nat → Int64) (Dm : Int64) (hIm : IX10 Fm Am) (qms : Nat → Nat) (Fms : Nat → Int32) (Ams : Nat → Nat → Int32) (Bms : Nat → Nat → Int64) (Dms : Int64) (hIms : IX8 Fms Ams) (qmh : Nat → Nat) (Fmh : Nat → Int32) (Amh : Nat → Nat → Int32) (Bmh : Nat → Nat → Int64) (Dmh : Int64) (hImh : IX3 Fmh Amh) (a1 : Int32) (a2 : Int32) (ha1 : (4 : Int) ≤ a1.toInt ∧ a1.toInt ≤ 2147483647) (ha2 : (0 : Int) ≤ a2.toInt ∧ a2.toInt ≤ 1) : ∀ sz : Nat, Met l yX10_askRound (wk yX10_askRound cX10_askRound 3 (some .int)) (rmk 2 0 0) (PreP G (TY cs) [.ref adm, .int a1, .int a2] ((uX10 cs adm qm Fm Am Bm Dm) ++ ((uX8 cs (qm 3) qms Fms Ams Bms Dms) ++ (uX3 cs (qms 0) qmh Fmh Amh Bmh Dmh))) sz) (QRi (fun r : Int32 => r.toInt = -2) sz) 0 0 (fun q => sz ≤ q) := by
  refine mkP (Qc := QRi (fun r : Int32 => r.toInt = -2)) (by decide) (by simp [lg_sl, Value.category]) ?_
  intro p e s m args below meth c ls hx hb hml hr hlk hown ht hK hP hS hl
  have hl : lv_has ls 3 [(0, .ref adm), (1, .int a1), (2, .int a2)] := hl
  refine lv_aload_n hx hb dX10_askRound_0 rfl (lv_at hl 0 rfl) ?_
  refine lv_iload_n hx hb dX10_askRound_1 rfl (lv_at hl 1 rfl) ?_
  refine lv_iload_n hx hb dX10_askRound_2 rfl (lv_at hl 2 rfl) ?_
  refine lv_iconst (v := (-1)) hx hb dX10_askRound_3 (by decide) ?_
  have bb1 := i32b a1
  refine behR (runVP (As := [.int a1, .int a2, .int (-1)]) (rest := []) ⟨hx, hb, hml, hown, ht⟩ (sX10_askRow_hi l G cs adm qm Fm Am Bm Dm hIm qms Fms Ams Bms Dms hIms qmh Fmh Amh Bmh Dmh hImh a1 a2 (-1) (by omega) (by omega)) okV_RX10_381 ⟨by decide, by decide⟩ hK hP [0, 1, 2, 3, 4, 5, 6, 7, 8, 9, 10, 11, 12] rfl 0 rfl rfl hl.1 rfl (Nat.le_of_ble_eq_true rfl) dX10_askRound_4 ⟨by decide, by decide⟩) hP hS (fun _ h => h) (fun r2 H locs hr2 hP hS => ?_)
  have kk3 : (-1 : Int32).toInt = (-1) := by decide
  have hr2 : r2.toInt = -2 := hr2
  exact retRi hx hb hr hlk hS dX10_askRound_7 (show r2.toInt = -2 by omega)

set_option maxRecDepth 100000 in
set_option maxHeartbeats 16000000 in
theorem sX10_askHabits_0 (l : Launch) (G : va_G) (cs : Nat → ClassId) (adm : Nat) (qm : Nat → Nat) (Fm : Nat → Int32) (Am : Nat → Nat → Int32) (Bm : Nat → Nat → Int64) (Dm : Int64) (hIm : IX10 Fm Am) (qms : Nat → Nat) (Fms : Nat → Int32) (Ams : Nat → Nat → Int32) (Bms : Nat → Nat → Int64) (Dms : Int64) (hIms : IX8 Fms Ams) (qmh : Nat → Nat) (Fmh : Nat → Int32) (Amh : Nat → Nat → Int32) (Bmh : Nat → Nat → Int64) (Dmh : Int64) (hImh : IX3 Fmh Amh) (qr0 : Nat → Nat) (Fr0 : Nat → Int32) (Ar0 : Nat → Nat → Int32) (Br0 : Nat → Nat → Int64) (Dr0 : Int64) (hIr0 : IX7 Fr0 Ar0) (a2 : Int32) (ha2 : (0 : Int) ≤ a2.toInt ∧ a2.toInt ≤ 1) : ∀ sz : Nat, Met l yX10_askHabits (wk yX10_askHabits cX10_askHabits 3 (some .int)) (rmk 2 0 0) (PreP G (TY cs) [.ref adm, .int 0, .int a2] ((uX10 cs adm qm Fm Am Bm Dm) ++ ((uX8 cs (qm 3) qms Fms Ams Bms Dms) ++ ((uX3 cs (qms 0) qmh Fmh Amh Bmh Dmh) ++ (uX7 cs (qm 20) qr0 Fr0 Ar0 Br0 Dr0)))) sz) (QRi (fun r : Int32 => ((r.toInt = 0 ∧ a2.toInt = 1) ∨ r.toInt = -2 ∨ r.toInt = -6) ∧ RWk r 0 (Br0 0) 0 ((Fmh 5).toInt - 1) (Fr0 3).toInt) sz) 0 0 (fun q => sz ≤ q) := by
  refine mkP (Qc := QRi (fun r : Int32 => ((r.toInt = 0 ∧ a2.toInt = 1) ∨ r.toInt = -2 ∨ r.toInt = -6) ∧ RWk r 0 (Br0 0) 0 ((Fmh 5).toInt - 1) (Fr0 3).toInt)) (by decide) (by simp [lg_sl, Value.category]) ?_
  intro p e s m args below meth c ls hx hb hml hr hlk hown ht hK hP hS hl
  have hl : lv_has ls 3 [(0, .ref adm), (1, .int 0), (2, .int a2)] := hl
  refine lv_aload_n hx hb dX10_askHabits_0 rfl (lv_at hl 0 rfl) ?_
  refine lv_iload_n hx hb dX10_askHabits_1 rfl (lv_at hl 1 rfl) ?_
  refine lv_iload_n hx hb dX10_askHabits_2 rfl (lv_at hl 2 rfl) ?_
  refine lv_iconst (v := 0) hx hb dX10_askHabits_3 (by decide) ?_
  refine behR (runVP (As := [.int 0, .int a2, .int 0]) (rest := []) ⟨hx, hb, hml, hown, ht⟩ (sX10_askRow_0 l G cs adm qm Fm Am Bm Dm hIm qms Fms Ams Bms Dms hIms qmh Fmh Amh Bmh Dmh hImh qr0 Fr0 Ar0 Br0 Dr0 hIr0 a2 0 (by omega)) okV_RX10_381 ⟨by decide, by decide⟩ hK hP [0, 1, 2, 3, 4, 5, 6, 7, 8, 9, 10, 11, 12, 13, 14] rfl 0 rfl rfl hl.1 rfl (Nat.le_of_ble_eq_true rfl) dX10_askHabits_4 ⟨by decide, by decide⟩) hP hS (fun _ h => h) (fun r1 H locs hr1 hP hS => ?_)
  have kk2 : (0 : Int32).toInt = 0 := by decide
  have kk3 : (0 : Int32).toInt = 0 := by decide
  have hr1 : ((r1.toInt = 0 ∧ a2.toInt = 1) ∨ r1.toInt = -2 ∨ r1.toInt = -6) ∧ RWk r1 0 (Br0 0) (0 : Int32).toInt ((Fmh 5).toInt - 1) (Fr0 3).toInt := hr1
  exact retRi hx hb hr hlk hS dX10_askHabits_7 (⟨by omega, hr1.2⟩)

set_option maxRecDepth 100000 in
set_option maxHeartbeats 16000000 in
theorem sX10_askHabits_1 (l : Launch) (G : va_G) (cs : Nat → ClassId) (adm : Nat) (qm : Nat → Nat) (Fm : Nat → Int32) (Am : Nat → Nat → Int32) (Bm : Nat → Nat → Int64) (Dm : Int64) (hIm : IX10 Fm Am) (qms : Nat → Nat) (Fms : Nat → Int32) (Ams : Nat → Nat → Int32) (Bms : Nat → Nat → Int64) (Dms : Int64) (hIms : IX8 Fms Ams) (qmh : Nat → Nat) (Fmh : Nat → Int32) (Amh : Nat → Nat → Int32) (Bmh : Nat → Nat → Int64) (Dmh : Int64) (hImh : IX3 Fmh Amh) (qr1 : Nat → Nat) (Fr1 : Nat → Int32) (Ar1 : Nat → Nat → Int32) (Br1 : Nat → Nat → Int64) (Dr1 : Int64) (hIr1 : IX7 Fr1 Ar1) (a2 : Int32) (ha2 : (0 : Int) ≤ a2.toInt ∧ a2.toInt ≤ 1) : ∀ sz : Nat, Met l yX10_askHabits (wk yX10_askHabits cX10_askHabits 3 (some .int)) (rmk 2 0 0) (PreP G (TY cs) [.ref adm, .int 1, .int a2] ((uX10 cs adm qm Fm Am Bm Dm) ++ ((uX8 cs (qm 3) qms Fms Ams Bms Dms) ++ ((uX3 cs (qms 0) qmh Fmh Amh Bmh Dmh) ++ (uX7 cs (qm 21) qr1 Fr1 Ar1 Br1 Dr1)))) sz) (QRi (fun r : Int32 => ((r.toInt = 0 ∧ a2.toInt = 1) ∨ r.toInt = -2 ∨ r.toInt = -6) ∧ RWk r 0 (Br1 0) 0 ((Fmh 5).toInt - 1) (Fr1 3).toInt) sz) 0 0 (fun q => sz ≤ q) := by
  refine mkP (Qc := QRi (fun r : Int32 => ((r.toInt = 0 ∧ a2.toInt = 1) ∨ r.toInt = -2 ∨ r.toInt = -6) ∧ RWk r 0 (Br1 0) 0 ((Fmh 5).toInt - 1) (Fr1 3).toInt)) (by decide) (by simp [lg_sl, Value.category]) ?_
  intro p e s m args below meth c ls hx hb hml hr hlk hown ht hK hP hS hl
  have hl : lv_has ls 3 [(0, .ref adm), (1, .int 1), (2, .int a2)] := hl
  refine lv_aload_n hx hb dX10_askHabits_0 rfl (lv_at hl 0 rfl) ?_
  refine lv_iload_n hx hb dX10_askHabits_1 rfl (lv_at hl 1 rfl) ?_
  refine lv_iload_n hx hb dX10_askHabits_2 rfl (lv_at hl 2 rfl) ?_
  refine lv_iconst (v := 0) hx hb dX10_askHabits_3 (by decide) ?_
  refine behR (runVP (As := [.int 1, .int a2, .int 0]) (rest := []) ⟨hx, hb, hml, hown, ht⟩ (sX10_askRow_1 l G cs adm qm Fm Am Bm Dm hIm qms Fms Ams Bms Dms hIms qmh Fmh Amh Bmh Dmh hImh qr1 Fr1 Ar1 Br1 Dr1 hIr1 a2 0 (by omega)) okV_RX10_381 ⟨by decide, by decide⟩ hK hP [0, 1, 2, 3, 4, 5, 6, 7, 8, 9, 10, 11, 12, 13, 14] rfl 0 rfl rfl hl.1 rfl (Nat.le_of_ble_eq_true rfl) dX10_askHabits_4 ⟨by decide, by decide⟩) hP hS (fun _ h => h) (fun r1 H locs hr1 hP hS => ?_)
  have kk2 : (1 : Int32).toInt = 1 := by decide
  have kk3 : (0 : Int32).toInt = 0 := by decide
  have hr1 : ((r1.toInt = 0 ∧ a2.toInt = 1) ∨ r1.toInt = -2 ∨ r1.toInt = -6) ∧ RWk r1 0 (Br1 0) (0 : Int32).toInt ((Fmh 5).toInt - 1) (Fr1 3).toInt := hr1
  exact retRi hx hb hr hlk hS dX10_askHabits_7 (⟨by omega, hr1.2⟩)

set_option maxRecDepth 100000 in
set_option maxHeartbeats 16000000 in
theorem sX10_askHabits_2 (l : Launch) (G : va_G) (cs : Nat → ClassId) (adm : Nat) (qm : Nat → Nat) (Fm : Nat → Int32) (Am : Nat → Nat → Int32) (Bm : Nat → Nat → Int64) (Dm : Int64) (hIm : IX10 Fm Am) (qms : Nat → Nat) (Fms : Nat → Int32) (Ams : Nat → Nat → Int32) (Bms : Nat → Nat → Int64) (Dms : Int64) (hIms : IX8 Fms Ams) (qmh : Nat → Nat) (Fmh : Nat → Int32) (Amh : Nat → Nat → Int32) (Bmh : Nat → Nat → Int64) (Dmh : Int64) (hImh : IX3 Fmh Amh) (qr2 : Nat → Nat) (Fr2 : Nat → Int32) (Ar2 : Nat → Nat → Int32) (Br2 : Nat → Nat → Int64) (Dr2 : Int64) (hIr2 : IX7 Fr2 Ar2) (a2 : Int32) (ha2 : (0 : Int) ≤ a2.toInt ∧ a2.toInt ≤ 1) : ∀ sz : Nat, Met l yX10_askHabits (wk yX10_askHabits cX10_askHabits 3 (some .int)) (rmk 2 0 0) (PreP G (TY cs) [.ref adm, .int 2, .int a2] ((uX10 cs adm qm Fm Am Bm Dm) ++ ((uX8 cs (qm 3) qms Fms Ams Bms Dms) ++ ((uX3 cs (qms 0) qmh Fmh Amh Bmh Dmh) ++ (uX7 cs (qm 22) qr2 Fr2 Ar2 Br2 Dr2)))) sz) (QRi (fun r : Int32 => ((r.toInt = 0 ∧ a2.toInt = 1) ∨ r.toInt = -2 ∨ r.toInt = -6) ∧ RWk r 0 (Br2 0) 0 ((Fmh 5).toInt - 1) (Fr2 3).toInt) sz) 0 0 (fun q => sz ≤ q) := by
  refine mkP (Qc := QRi (fun r : Int32 => ((r.toInt = 0 ∧ a2.toInt = 1) ∨ r.toInt = -2 ∨ r.toInt = -6) ∧ RWk r 0 (Br2 0) 0 ((Fmh 5).toInt - 1) (Fr2 3).toInt)) (by decide) (by simp [lg_sl, Value.category]) ?_
  intro p e s m args below meth c ls hx hb hml hr hlk hown ht hK hP hS hl
  have hl : lv_has ls 3 [(0, .ref adm), (1, .int 2), (2, .int a2)] := hl
  refine lv_aload_n hx hb dX10_askHabits_0 rfl (lv_at hl 0 rfl) ?_
  refine lv_iload_n hx hb dX10_askHabits_1 rfl (lv_at hl 1 rfl) ?_
  refine lv_iload_n hx hb dX10_askHabits_2 rfl (lv_at hl 2 rfl) ?_
  refine lv_iconst (v := 0) hx hb dX10_askHabits_3 (by decide) ?_
  refine behR (runVP (As := [.int 2, .int a2, .int 0]) (rest := []) ⟨hx, hb, hml, hown, ht⟩ (sX10_askRow_2 l G cs adm qm Fm Am Bm Dm hIm qms Fms Ams Bms Dms hIms qmh Fmh Amh Bmh Dmh hImh qr2 Fr2 Ar2 Br2 Dr2 hIr2 a2 0 (by omega)) okV_RX10_381 ⟨by decide, by decide⟩ hK hP [0, 1, 2, 3, 4, 5, 6, 7, 8, 9, 10, 11, 12, 13, 14] rfl 0 rfl rfl hl.1 rfl (Nat.le_of_ble_eq_true rfl) dX10_askHabits_4 ⟨by decide, by decide⟩) hP hS (fun _ h => h) (fun r1 H locs hr1 hP hS => ?_)
  have kk2 : (2 : Int32).toInt = 2 := by decide
  have kk3 : (0 : Int32).toInt = 0 := by decide
  have hr1 : ((r1.toInt = 0 ∧ a2.toInt = 1) ∨ r1.toInt = -2 ∨ r1.toInt = -6) ∧ RWk r1 0 (Br2 0) (0 : Int32).toInt ((Fmh 5).toInt - 1) (Fr2 3).toInt := hr1
  exact retRi hx hb hr hlk hS dX10_askHabits_7 (⟨by omega, hr1.2⟩)

set_option maxRecDepth 100000 in
set_option maxHeartbeats 16000000 in
theorem sX10_askHabits_3 (l : Launch) (G : va_G) (cs : Nat → ClassId) (adm : Nat) (qm : Nat → Nat) (Fm : Nat → Int32) (Am : Nat → Nat → Int32) (Bm : Nat → Nat → Int64) (Dm : Int64) (hIm : IX10 Fm Am) (qms : Nat → Nat) (Fms : Nat → Int32) (Ams : Nat → Nat → Int32) (Bms : Nat → Nat → Int64) (Dms : Int64) (hIms : IX8 Fms Ams) (qmh : Nat → Nat) (Fmh : Nat → Int32) (Amh : Nat → Nat → Int32) (Bmh : Nat → Nat → Int64) (Dmh : Int64) (hImh : IX3 Fmh Amh) (qr3 : Nat → Nat) (Fr3 : Nat → Int32) (Ar3 : Nat → Nat → Int32) (Br3 : Nat → Nat → Int64) (Dr3 : Int64) (hIr3 : IX7 Fr3 Ar3) (a2 : Int32) (ha2 : (0 : Int) ≤ a2.toInt ∧ a2.toInt ≤ 1) : ∀ sz : Nat, Met l yX10_askHabits (wk yX10_askHabits cX10_askHabits 3 (some .int)) (rmk 2 0 0) (PreP G (TY cs) [.ref adm, .int 3, .int a2] ((uX10 cs adm qm Fm Am Bm Dm) ++ ((uX8 cs (qm 3) qms Fms Ams Bms Dms) ++ ((uX3 cs (qms 0) qmh Fmh Amh Bmh Dmh) ++ (uX7 cs (qm 23) qr3 Fr3 Ar3 Br3 Dr3)))) sz) (QRi (fun r : Int32 => ((r.toInt = 0 ∧ a2.toInt = 1) ∨ r.toInt = -2 ∨ r.toInt = -6) ∧ RWk r 0 (Br3 0) 0 ((Fmh 5).toInt - 1) (Fr3 3).toInt) sz) 0 0 (fun q => sz ≤ q) := by
  refine mkP (Qc := QRi (fun r : Int32 => ((r.toInt = 0 ∧ a2.toInt = 1) ∨ r.toInt = -2 ∨ r.toInt = -6) ∧ RWk r 0 (Br3 0) 0 ((Fmh 5).toInt - 1) (Fr3 3).toInt)) (by decide) (by simp [lg_sl, Value.category]) ?_
  intro p e s m args below meth c ls hx hb hml hr hlk hown ht hK hP hS hl
  have hl : lv_has ls 3 [(0, .ref adm), (1, .int 3), (2, .int a2)] := hl
  refine lv_aload_n hx hb dX10_askHabits_0 rfl (lv_at hl 0 rfl) ?_
  refine lv_iload_n hx hb dX10_askHabits_1 rfl (lv_at hl 1 rfl) ?_
  refine lv_iload_n hx hb dX10_askHabits_2 rfl (lv_at hl 2 rfl) ?_
  refine lv_iconst (v := 0) hx hb dX10_askHabits_3 (by decide) ?_
  refine behR (runVP (As := [.int 3, .int a2, .int 0]) (rest := []) ⟨hx, hb, hml, hown, ht⟩ (sX10_askRow_3 l G cs adm qm Fm Am Bm Dm hIm qms Fms Ams Bms Dms hIms qmh Fmh Amh Bmh Dmh hImh qr3 Fr3 Ar3 Br3 Dr3 hIr3 a2 0 (by omega)) okV_RX10_381 ⟨by decide, by decide⟩ hK hP [0, 1, 2, 3, 4, 5, 6, 7, 8, 9, 10, 11, 12, 13, 14] rfl 0 rfl rfl hl.1 rfl (Nat.le_of_ble_eq_true rfl) dX10_askHabits_4 ⟨by decide, by decide⟩) hP hS (fun _ h => h) (fun r1 H locs hr1 hP hS => ?_)
  have kk2 : (3 : Int32).toInt = 3 := by decide
  have kk3 : (0 : Int32).toInt = 0 := by decide
  have hr1 : ((r1.toInt = 0 ∧ a2.toInt = 1) ∨ r1.toInt = -2 ∨ r1.toInt = -6) ∧ RWk r1 0 (Br3 0) (0 : Int32).toInt ((Fmh 5).toInt - 1) (Fr3 3).toInt := hr1
  exact retRi hx hb hr hlk hS dX10_askHabits_7 (⟨by omega, hr1.2⟩)

set_option maxRecDepth 100000 in
set_option maxHeartbeats 16000000 in
theorem sX10_askHabits_lo (l : Launch) (G : va_G) (cs : Nat → ClassId) (adm : Nat) (qm : Nat → Nat) (Fm : Nat → Int32) (Am : Nat → Nat → Int32) (Bm : Nat → Nat → Int64) (Dm : Int64) (hIm : IX10 Fm Am) (qms : Nat → Nat) (Fms : Nat → Int32) (Ams : Nat → Nat → Int32) (Bms : Nat → Nat → Int64) (Dms : Int64) (hIms : IX8 Fms Ams) (qmh : Nat → Nat) (Fmh : Nat → Int32) (Amh : Nat → Nat → Int32) (Bmh : Nat → Nat → Int64) (Dmh : Int64) (hImh : IX3 Fmh Amh) (a1 : Int32) (a2 : Int32) (ha1 : (-2147483648 : Int) ≤ a1.toInt ∧ a1.toInt ≤ -1) (ha2 : (0 : Int) ≤ a2.toInt ∧ a2.toInt ≤ 1) : ∀ sz : Nat, Met l yX10_askHabits (wk yX10_askHabits cX10_askHabits 3 (some .int)) (rmk 2 0 0) (PreP G (TY cs) [.ref adm, .int a1, .int a2] ((uX10 cs adm qm Fm Am Bm Dm) ++ ((uX8 cs (qm 3) qms Fms Ams Bms Dms) ++ (uX3 cs (qms 0) qmh Fmh Amh Bmh Dmh))) sz) (QRi (fun r : Int32 => r.toInt = -2) sz) 0 0 (fun q => sz ≤ q) := by
  refine mkP (Qc := QRi (fun r : Int32 => r.toInt = -2)) (by decide) (by simp [lg_sl, Value.category]) ?_
  intro p e s m args below meth c ls hx hb hml hr hlk hown ht hK hP hS hl
  have hl : lv_has ls 3 [(0, .ref adm), (1, .int a1), (2, .int a2)] := hl
  refine lv_aload_n hx hb dX10_askHabits_0 rfl (lv_at hl 0 rfl) ?_
  refine lv_iload_n hx hb dX10_askHabits_1 rfl (lv_at hl 1 rfl) ?_
  refine lv_iload_n hx hb dX10_askHabits_2 rfl (lv_at hl 2 rfl) ?_
  refine lv_iconst (v := 0) hx hb dX10_askHabits_3 (by decide) ?_
  have bb1 := i32b a1
  refine behR (runVP (As := [.int a1, .int a2, .int 0]) (rest := []) ⟨hx, hb, hml, hown, ht⟩ (sX10_askRow_lo l G cs adm qm Fm Am Bm Dm hIm qms Fms Ams Bms Dms hIms qmh Fmh Amh Bmh Dmh hImh a1 a2 0 (by omega) (by omega)) okV_RX10_381 ⟨by decide, by decide⟩ hK hP [0, 1, 2, 3, 4, 5, 6, 7, 8, 9, 10, 11, 12] rfl 0 rfl rfl hl.1 rfl (Nat.le_of_ble_eq_true rfl) dX10_askHabits_4 ⟨by decide, by decide⟩) hP hS (fun _ h => h) (fun r2 H locs hr2 hP hS => ?_)
  have kk3 : (0 : Int32).toInt = 0 := by decide
  have hr2 : r2.toInt = -2 := hr2
  exact retRi hx hb hr hlk hS dX10_askHabits_7 (show r2.toInt = -2 by omega)

