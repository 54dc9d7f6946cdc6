set_option maxRecDepth 100000 in
set_option maxHeartbeats 16000000 in
theorem sX10_image_lo (l : Launch) (G : va_G) (cs : Nat → ClassId) (adm : Nat) (qm : Nat → Nat) (Fm : Nat → Int32) (Am : Nat → Nat → Int32) (Bm : Nat → Nat → Int64) (Dm : Int64) (hIm : IX10 Fm Am) (qms : Nat → Nat) (Fms : Nat → Int32) (Ams : Nat → Nat → Int32) (Bms : Nat → Nat → Int64) (Dms : Int64) (hIms : IX8 Fms Ams) (qmh : Nat → Nat) (Fmh : Nat → Int32) (Amh : Nat → Nat → Int32) (Bmh : Nat → Nat → Int64) (Dmh : Int64) (hImh : IX3 Fmh Amh) (a1 : Int32) (ha1 : (-2147483648 : Int) ≤ a1.toInt ∧ a1.toInt ≤ -1) : ∀ sz : Nat, Met l yX10_image (wk yX10_image cX10_image 2 (some .int)) (rmk 0 0 0) (PreP G (TY cs) [.ref adm, .int a1] ((uX10 cs adm qm Fm Am Bm Dm) ++ ((uX8 cs (qm 3) qms Fms Ams Bms Dms) ++ (uX3 cs (qms 0) qmh Fmh Amh Bmh Dmh))) sz) (QRi (fun r : Int32 => r.toInt = -2) sz) 0 0 (fun q => sz ≤ q) := by
  refine mkP (Qc := QRi (fun r : Int32 => r.toInt = -2)) (by decide) (by simp [lg_sl, Value.category]) ?_
  intro p e s m args below meth c ls hx hb hml hr hlk hown ht hK hP hS hl
  have hl : lv_has ls 2 [(0, .ref adm), (1, .int a1)] := hl
  refine lv_iload_n hx hb dX10_image_0 rfl (lv_at hl 1 rfl) ?_
  refine lv_if_lt (tgt := 9) hx hb dX10_image_1 (by decide) (fun c1 => ?_) (fun c1 => False.elim (by have zz := nltK rfl (show (0 : Int32).toInt = 0 by decide) c1; omega))
  refine lv_bipush (v := (-2)) hx hb dX10_image_9 (by decide) ?_
  exact retRi hx hb hr hlk hS dX10_image_11 (show (-2 : Int32).toInt = -2 by have kk : (-2 : Int32).toInt = -2 := (by decide); omega)

set_option maxRecDepth 100000 in
set_option maxHeartbeats 16000000 in
theorem sX10_back_lo (l : Launch) (G : va_G) (cs : Nat → ClassId) (adm : Nat) (qm : Nat → Nat) (Fm : Nat → Int32) (Am : Nat → Nat → Int32) (Bm : Nat → Nat → Int64) (Dm : Int64) (hIm : IX10 Fm Am) (qms : Nat → Nat) (Fms : Nat → Int32) (Ams : Nat → Nat → Int32) (Bms : Nat → Nat → Int64) (Dms : Int64) (hIms : IX8 Fms Ams) (qmh : Nat → Nat) (Fmh : Nat → Int32) (Amh : Nat → Nat → Int32) (Bmh : Nat → Nat → Int64) (Dmh : Int64) (hImh : IX3 Fmh Amh) (a1 : Int32) (ha1 : (-2147483648 : Int) ≤ a1.toInt ∧ a1.toInt ≤ -1) : ∀ sz : Nat, Met l yX10_back (wk yX10_back cX10_back 2 (some .int)) (rmk 0 0 0) (PreP G (TY cs) [.ref adm, .int a1] ((uX10 cs adm qm Fm Am Bm Dm) ++ ((uX8 cs (qm 3) qms Fms Ams Bms Dms) ++ (uX3 cs (qms 0) qmh Fmh Amh Bmh Dmh))) sz) (QRi (fun r : Int32 => r.toInt = -2) sz) 0 0 (fun q => sz ≤ q) := by
  refine mkP (Qc := QRi (fun r : Int32 => r.toInt = -2)) (by decide) (by simp [lg_sl, Value.category]) ?_
  intro p e s m args below meth c ls hx hb hml hr hlk hown ht hK hP hS hl
  have hl : lv_has ls 2 [(0, .ref adm), (1, .int a1)] := hl
  refine lv_iload_n hx hb dX10_back_0 rfl (lv_at hl 1 rfl) ?_
  refine lv_if_lt (tgt := 9) hx hb dX10_back_1 (by decide) (fun c1 => ?_) (fun c1 => False.elim (by have zz := nltK rfl (show (0 : Int32).toInt = 0 by decide) c1; omega))
  refine lv_bipush (v := (-2)) hx hb dX10_back_9 (by decide) ?_
  exact retRi hx hb hr hlk hS dX10_back_11 (show (-2 : Int32).toInt = -2 by have kk : (-2 : Int32).toInt = -2 := (by decide); omega)

set_option maxRecDepth 100000 in
set_option maxHeartbeats 16000000 in
theorem sX10_image_hi (l : Launch) (G : va_G) (cs : Nat → ClassId) (adm : Nat) (qm : Nat → Nat) (Fm : Nat → Int32) (Am : Nat → Nat → Int32) (Bm : Nat → Nat → Int64) (Dm : Int64) (hIm : IX10 Fm Am) (qms : Nat → Nat) (Fms : Nat → Int32) (Ams : Nat → Nat → Int32) (Bms : Nat → Nat → Int64) (Dms : Int64) (hIms : IX8 Fms Ams) (qmh : Nat → Nat) (Fmh : Nat → Int32) (Amh : Nat → Nat → Int32) (Bmh : Nat → Nat → Int64) (Dmh : Int64) (hImh : IX3 Fmh Amh) (a1 : Int32) (ha1 : (3 : Int) ≤ a1.toInt ∧ a1.toInt ≤ 2147483647) : ∀ sz : Nat, Met l yX10_image (wk yX10_image cX10_image 2 (some .int)) (rmk 0 0 0) (PreP G (TY cs) [.ref adm, .int a1] ((uX10 cs adm qm Fm Am Bm Dm) ++ ((uX8 cs (qm 3) qms Fms Ams Bms Dms) ++ (uX3 cs (qms 0) qmh Fmh Amh Bmh Dmh))) sz) (QRi (fun r : Int32 => r.toInt = -2) sz) 0 0 (fun q => sz ≤ q) := by
  refine mkP (Qc := QRi (fun r : Int32 => r.toInt = -2)) (by decide) (by simp [lg_sl, Value.category]) ?_
  intro p e s m args below meth c ls hx hb hml hr hlk hown ht hK hP hS hl
  have hl : lv_has ls 2 [(0, .ref adm), (1, .int a1)] := hl
  refine lv_iload_n hx hb dX10_image_0 rfl (lv_at hl 1 rfl) ?_
  refine lv_if_lt (tgt := 9) hx hb dX10_image_1 (by decide) (fun c1 => False.elim (by have zz := ltK rfl (show (0 : Int32).toInt = 0 by decide) c1; omega)) (fun c1 => ?_)
  refine lv_iload_n hx hb dX10_image_4 rfl (lv_at hl 1 rfl) ?_
  refine lv_iconst (v := 3) hx hb dX10_image_5 (by decide) ?_
  refine lv_icmp_lt (tgt := 12) hx hb dX10_image_6 (by decide) (fun c2 => False.elim (by have zz := ltK rfl (show (3 : Int32).toInt = 3 by decide) c2; omega)) (fun c2 => ?_)
  refine lv_bipush (v := (-2)) hx hb dX10_image_9 (by decide) ?_
  exact retRi hx hb hr hlk hS dX10_image_11 (show (-2 : Int32).toInt = -2 by have kk : (-2 : Int32).toInt = -2 := (by decide); omega)

set_option maxRecDepth 100000 in
set_option maxHeartbeats 16000000 in
theorem sX10_back_hi (l : Launch) (G : va_G) (cs : Nat → ClassId) (adm : Nat) (qm : Nat → Nat) (Fm : Nat → Int32) (Am : Nat → Nat → Int32) (Bm : Nat → Nat → Int64) (Dm : Int64) (hIm : IX10 Fm Am) (qms : Nat → Nat) (Fms : Nat → Int32) (Ams : Nat → Nat → Int32) (Bms : Nat → Nat → Int64) (Dms : Int64) (hIms : IX8 Fms Ams) (qmh : Nat → Nat) (Fmh : Nat → Int32) (Amh : Nat → Nat → Int32) (Bmh : Nat → Nat → Int64) (Dmh : Int64) (hImh : IX3 Fmh Amh) (a1 : Int32) (ha1 : (3 : Int) ≤ a1.toInt ∧ a1.toInt ≤ 2147483647) : ∀ sz : Nat, Met l yX10_back (wk yX10_back cX10_back 2 (some .int)) (rmk 0 0 0) (PreP G (TY cs) [.ref adm, .int a1] ((uX10 cs adm qm Fm Am Bm Dm) ++ ((uX8 cs (qm 3) qms Fms Ams Bms Dms) ++ (uX3 cs (qms 0) qmh Fmh Amh Bmh Dmh))) sz) (QRi (fun r : Int32 => r.toInt = -2) sz) 0 0 (fun q => sz ≤ q) := by
  refine mkP (Qc := QRi (fun r : Int32 => r.toInt = -2)) (by decide) (by simp [lg_sl, Value.category]) ?_
  intro p e s m args below meth c ls hx hb hml hr hlk hown ht hK hP hS hl
  have hl : lv_has ls 2 [(0, .ref adm), (1, .int a1)] := hl
  refine lv_iload_n hx hb dX10_back_0 rfl (lv_at hl 1 rfl) ?_
  refine lv_if_lt (tgt := 9) hx hb dX10_back_1 (by decide) (fun c1 => False.elim (by have zz := ltK rfl (show (0 : Int32).toInt = 0 by decide) c1; omega)) (fun c1 => ?_)
  refine lv_iload_n hx hb dX10_back_4 rfl (lv_at hl 1 rfl) ?_
  refine lv_iconst (v := 3) hx hb dX10_back_5 (by decide) ?_
  refine lv_icmp_lt (tgt := 12) hx hb dX10_back_6 (by decide) (fun c2 => False.elim (by have zz := ltK rfl (show (3 : Int32).toInt = 3 by decide) c2; omega)) (fun c2 => ?_)
  refine lv_bipush (v := (-2)) hx hb dX10_back_9 (by decide) ?_
  exact retRi hx hb hr hlk hS dX10_back_11 (show (-2 : Int32).toInt = -2 by have kk : (-2 : Int32).toInt = -2 := (by decide); omega)

set_option maxRecDepth 100000 in
set_option maxHeartbeats 16000000 in
theorem sX10_row_0 (l : Launch) (G : va_G) (cs : Nat → ClassId) (adm : Nat) (qm : Nat → Nat) (Fm : Nat → Int32) (Am : Nat → Nat → Int32) (Bm : Nat → Nat → Int64) (Dm : Int64) (hIm : IX10 Fm Am) (qr0 : Nat → Nat) (Fr0 : Nat → Int32) (Ar0 : Nat → Nat → Int32) (Br0 : Nat → Nat → Int64) (Dr0 : Int64) (hIr0 : IX7 Fr0 Ar0) (a2 : Int32) (a3 : Int32) : ∀ sz : Nat, Met l yX10_row (wk yX10_row cX10_row 4 (some .int)) (rmk 2 0 0) (PreD G (TY cs) [.ref adm, .int 0, .int a2, .int a3] ((uX10 cs adm qm Fm Am Bm Dm) ++ (uX7 cs (qm 20) qr0 Fr0 Ar0 Br0 Dr0)) sz) ((QDi G (fun (r : Int32) (u : Int32 × Int32 × Int32 × (Nat → Int64)) => ((0 : Int) ≤ u.1.toInt ∧ u.1.toInt ≤ 1) ∧ ((0 : Int) ≤ u.2.2.1.toInt ∧ u.2.2.1.toInt ≤ 60) ∧ ((r.toInt = -2 ∧ (a2.toInt < 0 ∨ 3 < a2.toInt ∨ 60 < a3.toInt) ∧ u.1.toInt = (Fr0 1).toInt ∧ u.2.1.toInt = (Fr0 2).toInt ∧ u.2.2.1.toInt = (Fr0 3).toInt) ∨ (r.toInt = -3 ∧ 0 ≤ a2.toInt ∧ a2.toInt ≤ 3 ∧ a3.toInt < 0 ∧ u.1.toInt = (Fr0 1).toInt ∧ u.2.1.toInt = (Fr0 2).toInt ∧ u.2.2.1.toInt = (Fr0 3).toInt) ∨ (r.toInt = 0 ∧ 0 ≤ a2.toInt ∧ a2.toInt ≤ 3 ∧ 0 ≤ a3.toInt ∧ a3.toInt ≤ 60 ∧ u.1.toInt = 1 ∧ u.2.1.toInt = a2.toInt ∧ u.2.2.1.toInt = a3.toInt))) (fun u : Int32 × Int32 × Int32 × (Nat → Int64) => ((uX10 cs adm qm Fm Am Bm Dm) ++ (uX7 cs (qm 20) qr0 (upd (upd (upd Fr0 1 u.1) 2 u.2.1) 3 u.2.2.1) Ar0 (vA Br0 0 u.2.2.2) Dr0)))) (va_A ((uX10 cs adm qm Fm Am Bm Dm) ++ (uX7 cs (qm 20) qr0 Fr0 Ar0 Br0 Dr0)) sz)) 0 0 (va_A ((uX10 cs adm qm Fm Am Bm Dm) ++ (uX7 cs (qm 20) qr0 Fr0 Ar0 Br0 Dr0)) sz) := by
  refine mkD (Qc := (QDi G (fun (r : Int32) (u : Int32 × Int32 × Int32 × (Nat → Int64)) => ((0 : Int) ≤ u.1.toInt ∧ u.1.toInt ≤ 1) ∧ ((0 : Int) ≤ u.2.2.1.toInt ∧ u.2.2.1.toInt ≤ 60) ∧ ((r.toInt = -2 ∧ (a2.toInt < 0 ∨ 3 < a2.toInt ∨ 60 < a3.toInt) ∧ u.1.toInt = (Fr0 1).toInt ∧ u.2.1.toInt = (Fr0 2).toInt ∧ u.2.2.1.toInt = (Fr0 3).toInt) ∨ (r.toInt = -3 ∧ 0 ≤ a2.toInt ∧ a2.toInt ≤ 3 ∧ a3.toInt < 0 ∧ u.1.toInt = (Fr0 1).toInt ∧ u.2.1.toInt = (Fr0 2).toInt ∧ u.2.2.1.toInt = (Fr0 3).toInt) ∨ (r.toInt = 0 ∧ 0 ≤ a2.toInt ∧ a2.toInt ≤ 3 ∧ 0 ≤ a3.toInt ∧ a3.toInt ≤ 60 ∧ u.1.toInt = 1 ∧ u.2.1.toInt = a2.toInt ∧ u.2.2.1.toInt = a3.toInt))) (fun u : Int32 × Int32 × Int32 × (Nat → Int64) => ((uX10 cs adm qm Fm Am Bm Dm) ++ (uX7 cs (qm 20) qr0 (upd (upd (upd Fr0 1 u.1) 2 u.2.1) 3 u.2.2.1) Ar0 (vA Br0 0 u.2.2.2) Dr0))))) (by decide) (by simp [lg_sl, Value.category]) ?_
  intro p e s m args below meth c ls A0 hx hb hml hr hlk hown hmn ht hK hP hD hS hA hl
  have hl : lv_has ls 4 [(0, .ref adm), (1, .int 0), (2, .int a2), (3, .int a3)] := hl
  refine lv_aload_n hx hb dX10_row_0 rfl (lv_at hl 0 rfl) ?_
  refine lv_iload_n hx hb dX10_row_1 rfl (lv_at hl 1 rfl) ?_
  refine behR (runVP (As := [.int 0]) (rest := []) ⟨hx, hb, hml, hown, ht⟩ (sX10_isSlot l G cs adm qm Fm Am Bm Dm hIm 0 ) okV_RX10_348 ⟨by decide, by decide⟩ hK hP [0, 1, 2] rfl 0 rfl rfl hl.1 rfl (Nat.le_of_ble_eq_true rfl) dX10_row_2 ⟨by decide, by decide⟩) hP hS hA (fun r1 H locs hr1 hP hS => ?_)
  have kk2 : (0 : Int32).toInt = 0 := by decide
  have hr1 : (r1.toInt = 1 ∧ 0 ≤ (0 : Int32).toInt ∧ (0 : Int32).toInt ≤ 3) ∨ (r1.toInt = 0 ∧ ((0 : Int32).toInt < 0 ∨ 3 < (0 : Int32).toInt)) := hr1
  refine lv_if_eq (tgt := 23) hx hb dX10_row_5 (by decide) (fun c3 => ?_) (fun c3 => ?_)
  · have zc3 := eqK rfl (show (0 : Int32).toInt = 0 by decide) c3
    refine lv_bipush (v := (-2)) hx hb dX10_row_23 (by decide) ?_
    exact retDi ((Fr0 1), (Fr0 2), (Fr0 3), (Br0 0)) hx hb hr hlk hP hD hS dX10_row_25 (⟨hIr0.1 1, hIr0.1 3, show ((-2 : Int32).toInt = -2 ∧ (a2.toInt < 0 ∨ 3 < a2.toInt ∨ 60 < a3.toInt) ∧ (Fr0 1).toInt = (Fr0 1).toInt ∧ (Fr0 2).toInt = (Fr0 2).toInt ∧ (Fr0 3).toInt = (Fr0 3).toInt) ∨ ((-2 : Int32).toInt = -3 ∧ 0 ≤ a2.toInt ∧ a2.toInt ≤ 3 ∧ a3.toInt < 0 ∧ (Fr0 1).toInt = (Fr0 1).toInt ∧ (Fr0 2).toInt = (Fr0 2).toInt ∧ (Fr0 3).toInt = (Fr0 3).toInt) ∨ ((-2 : Int32).toInt = 0 ∧ 0 ≤ a2.toInt ∧ a2.toInt ≤ 3 ∧ 0 ≤ a3.toInt ∧ a3.toInt ≤ 60 ∧ (Fr0 1).toInt = 1 ∧ (Fr0 2).toInt = a2.toInt ∧ (Fr0 3).toInt = a3.toInt) by have kk : (-2 : Int32).toInt = -2 := (by decide); omega⟩) (Nat.le_of_ble_eq_true rfl) (Nat.le_of_ble_eq_true rfl)
  · have zc3 := neK rfl (show (0 : Int32).toInt = 0 by decide) c3
    refine lv_iload_n hx hb dX10_row_8 rfl (lv_at hl 2 rfl) ?_
    refine lv_if_lt (tgt := 23) hx hb dX10_row_9 (by decide) (fun c4 => ?_) (fun c4 => ?_)
    · have zc4 := ltK rfl (show (0 : Int32).toInt = 0 by decide) c4
      refine lv_bipush (v := (-2)) hx hb dX10_row_23 (by decide) ?_
      exact retDi ((Fr0 1), (Fr0 2), (Fr0 3), (Br0 0)) hx hb hr hlk hP hD hS dX10_row_25 (⟨hIr0.1 1, hIr0.1 3, show ((-2 : Int32).toInt = -2 ∧ (a2.toInt < 0 ∨ 3 < a2.toInt ∨ 60 < a3.toInt) ∧ (Fr0 1).toInt = (Fr0 1).toInt ∧ (Fr0 2).toInt = (Fr0 2).toInt ∧ (Fr0 3).toInt = (Fr0 3).toInt) ∨ ((-2 : Int32).toInt = -3 ∧ 0 ≤ a2.toInt ∧ a2.toInt ≤ 3 ∧ a3.toInt < 0 ∧ (Fr0 1).toInt = (Fr0 1).toInt ∧ (Fr0 2).toInt = (Fr0 2).toInt ∧ (Fr0 3).toInt = (Fr0 3).toInt) ∨ ((-2 : Int32).toInt = 0 ∧ 0 ≤ a2.toInt ∧ a2.toInt ≤ 3 ∧ 0 ≤ a3.toInt ∧ a3.toInt ≤ 60 ∧ (Fr0 1).toInt = 1 ∧ (Fr0 2).toInt = a2.toInt ∧ (Fr0 3).toInt = a3.toInt) by have kk : (-2 : Int32).toInt = -2 := (by decide); omega⟩) (Nat.le_of_ble_eq_true rfl) (Nat.le_of_ble_eq_true rfl)
    · have zc4 := nltK rfl (show (0 : Int32).toInt = 0 by decide) c4
      refine lv_iload_n hx hb dX10_row_12 rfl (lv_at hl 2 rfl) ?_
      refine lv_iconst (v := 3) hx hb dX10_row_13 (by decide) ?_
      refine lv_icmp_gt (tgt := 23) hx hb dX10_row_14 (by decide) (fun c5 => ?_) (fun c5 => ?_)
      · have zc5 := ltK (show (3 : Int32).toInt = 3 by decide) rfl c5
        refine lv_bipush (v := (-2)) hx hb dX10_row_23 (by decide) ?_
        exact retDi ((Fr0 1), (Fr0 2), (Fr0 3), (Br0 0)) hx hb hr hlk hP hD hS dX10_row_25 (⟨hIr0.1 1, hIr0.1 3, show ((-2 : Int32).toInt = -2 ∧ (a2.toInt < 0 ∨ 3 < a2.toInt ∨ 60 < a3.toInt) ∧ (Fr0 1).toInt = (Fr0 1).toInt ∧ (Fr0 2).toInt = (Fr0 2).toInt ∧ (Fr0 3).toInt = (Fr0 3).toInt) ∨ ((-2 : Int32).toInt = -3 ∧ 0 ≤ a2.toInt ∧ a2.toInt ≤ 3 ∧ a3.toInt < 0 ∧ (Fr0 1).toInt = (Fr0 1).toInt ∧ (Fr0 2).toInt = (Fr0 2).toInt ∧ (Fr0 3).toInt = (Fr0 3).toInt) ∨ ((-2 : Int32).toInt = 0 ∧ 0 ≤ a2.toInt ∧ a2.toInt ≤ 3 ∧ 0 ≤ a3.toInt ∧ a3.toInt ≤ 60 ∧ (Fr0 1).toInt = 1 ∧ (Fr0 2).toInt = a2.toInt ∧ (Fr0 3).toInt = a3.toInt) by have kk : (-2 : Int32).toInt = -2 := (by decide); omega⟩) (Nat.le_of_ble_eq_true rfl) (Nat.le_of_ble_eq_true rfl)
      · have zc5 := nltK (show (3 : Int32).toInt = 3 by decide) rfl c5
        refine lv_iload_n hx hb dX10_row_17 rfl (lv_at hl 3 rfl) ?_
        refine lv_bipush (v := 60) hx hb dX10_row_18 (by decide) ?_
        refine lv_icmp_le (tgt := 26) hx hb dX10_row_20 (by decide) (fun c6 => ?_) (fun c6 => ?_)
        · have zc6 := leK rfl (show (60 : Int32).toInt = 60 by decide) c6
          refine lv_iload_n hx hb dX10_row_26 rfl (lv_at hl 3 rfl) ?_
          refine lv_if_ge (tgt := 33) hx hb dX10_row_27 (by decide) (fun c7 => ?_) (fun c7 => ?_)
          · have zc7 := leK (show (0 : Int32).toInt = 0 by decide) rfl c7
            refine lv_aload_n hx hb dX10_row_33 rfl (lv_at hl 0 rfl) ?_
            refine getF (v := .ref (qm 5)) hx hb ht hown hK hP iTX10 0 5 rfl rfl (by decide) fl_RX10_41 rfl dX10_row_34 ?_
            refine lv_iload_n hx hb dX10_row_37 rfl (lv_at hl 1 rfl) ?_
            refine va_aldq hx hb hK.1 hP 2 5 rfl rfl (show ¬ (_ ∨ _) by decide) dX10_row_38 ?_
            refine W.eq (g2 := F0 m 39 ls [.ref (qm 20)]) rfl ?_
            refine lv_iload_n hx hb dX10_row_39 rfl (lv_at hl 2 rfl) ?_
            refine lv_iload_n hx hb dX10_row_40 rfl (lv_at hl 3 rfl) ?_
            refine behDw (wr := (uX10 cs adm qm Fm Am Bm Dm)) (runVD (As := [.int a2, .int a3]) (rest := []) ⟨hx, hb, hml, hown, ht⟩ (sX7_make l G cs (qm 20) qr0 Fr0 Ar0 Br0 Dr0 hIr0 a2 a3 (by omega)) okV_RX10_351 ⟨by decide, by decide⟩ hK hP hD [3, 4] rfl (by decide) rfl 3 rfl rfl hl.1 rfl (Nat.le_of_ble_eq_true rfl) dX10_row_41 ⟨(Nat.le_of_ble_eq_true rfl), (Nat.le_of_ble_eq_true rfl)⟩) hP hD hS hA [3, 4] [0, 1, 2] rfl rfl (by decide) (by decide) (fun u H locs hu hP hD hS => ?_)
            obtain ⟨x8, x9, x10, y11⟩ := u
            obtain ⟨hbx8, hbx10, hr12⟩ := hu
            have hbx8 : (0 : Int) ≤ x8.toInt ∧ x8.toInt ≤ 1 := hbx8
            have hbx10 : (0 : Int) ≤ x10.toInt ∧ x10.toInt ≤ 60 := hbx10
            have hr12 : x8.toInt = 1 ∧ x9.toInt = a2.toInt ∧ x10.toInt = a3.toInt := hr12
            have hP : va_P G vwCl ((uX10 cs adm qm Fm Am Bm Dm) ++ (uX7 cs (qm 20) qr0 (upd (upd (upd Fr0 1 x8) 2 x9) 3 x10) Ar0 (vA Br0 0 y11) Dr0)) H := hP.sub [0, 1, 2, 3, 4] rfl
            have hD : va_D A0 ((uX10 cs adm qm Fm Am Bm Dm) ++ (uX7 cs (qm 20) qr0 (upd (upd (upd Fr0 1 x8) 2 x9) 3 x10) Ar0 (vA Br0 0 y11) Dr0)) := hD.sub [0, 1, 2, 3, 4] (by decide) rfl
            refine lv_iconst (v := 0) hx hb dX10_row_44 (by decide) ?_
            exact retDi (x8, x9, x10, y11) hx hb hr hlk hP hD hS dX10_row_45 (⟨show (0 : Int) ≤ x8.toInt ∧ x8.toInt ≤ 1 by omega, show (0 : Int) ≤ x10.toInt ∧ x10.toInt ≤ 60 by omega, show ((0 : Int32).toInt = -2 ∧ (a2.toInt < 0 ∨ 3 < a2.toInt ∨ 60 < a3.toInt) ∧ x8.toInt = (Fr0 1).toInt ∧ x9.toInt = (Fr0 2).toInt ∧ x10.toInt = (Fr0 3).toInt) ∨ ((0 : Int32).toInt = -3 ∧ 0 ≤ a2.toInt ∧ a2.toInt ≤ 3 ∧ a3.toInt < 0 ∧ x8.toInt = (Fr0 1).toInt ∧ x9.toInt = (Fr0 2).toInt ∧ x10.toInt = (Fr0 3).toInt) ∨ ((0 : Int32).toInt = 0 ∧ 0 ≤ a2.toInt ∧ a2.toInt ≤ 3 ∧ 0 ≤ a3.toInt ∧ a3.toInt ≤ 60 ∧ x8.toInt = 1 ∧ x9.toInt = a2.toInt ∧ x10.toInt = a3.toInt) by have kk : (0 : Int32).toInt = 0 := (by decide); omega⟩) (Nat.le_of_ble_eq_true rfl) (Nat.le_of_ble_eq_true rfl)
          · have zc7 := nleK (show (0 : Int32).toInt = 0 by decide) rfl c7
            refine lv_bipush (v := (-3)) hx hb dX10_row_30 (by decide) ?_
            exact retDi ((Fr0 1), (Fr0 2), (Fr0 3), (Br0 0)) hx hb hr hlk hP hD hS dX10_row_32 (⟨hIr0.1 1, hIr0.1 3, show ((-3 : Int32).toInt = -2 ∧ (a2.toInt < 0 ∨ 3 < a2.toInt ∨ 60 < a3.toInt) ∧ (Fr0 1).toInt = (Fr0 1).toInt ∧ (Fr0 2).toInt = (Fr0 2).toInt ∧ (Fr0 3).toInt = (Fr0 3).toInt) ∨ ((-3 : Int32).toInt = -3 ∧ 0 ≤ a2.toInt ∧ a2.toInt ≤ 3 ∧ a3.toInt < 0 ∧ (Fr0 1).toInt = (Fr0 1).toInt ∧ (Fr0 2).toInt = (Fr0 2).toInt ∧ (Fr0 3).toInt = (Fr0 3).toInt) ∨ ((-3 : Int32).toInt = 0 ∧ 0 ≤ a2.toInt ∧ a2.toInt ≤ 3 ∧ 0 ≤ a3.toInt ∧ a3.toInt ≤ 60 ∧ (Fr0 1).toInt = 1 ∧ (Fr0 2).toInt = a2.toInt ∧ (Fr0 3).toInt = a3.toInt) by have kk : (-3 : Int32).toInt = -3 := (by decide); omega⟩) (Nat.le_of_ble_eq_true rfl) (Nat.le_of_ble_eq_true rfl)
        · have zc6 := nleK rfl (show (60 : Int32).toInt = 60 by decide) c6
          refine lv_bipush (v := (-2)) hx hb dX10_row_23 (by decide) ?_
          exact retDi ((Fr0 1), (Fr0 2), (Fr0 3), (Br0 0)) hx hb hr hlk hP hD hS dX10_row_25 (⟨hIr0.1 1, hIr0.1 3, show ((-2 : Int32).toInt = -2 ∧ (a2.toInt < 0 ∨ 3 < a2.toInt ∨ 60 < a3.toInt) ∧ (Fr0 1).toInt = (Fr0 1).toInt ∧ (Fr0 2).toInt = (Fr0 2).toInt ∧ (Fr0 3).toInt = (Fr0 3).toInt) ∨ ((-2 : Int32).toInt = -3 ∧ 0 ≤ a2.toInt ∧ a2.toInt ≤ 3 ∧ a3.toInt < 0 ∧ (Fr0 1).toInt = (Fr0 1).toInt ∧ (Fr0 2).toInt = (Fr0 2).toInt ∧ (Fr0 3).toInt = (Fr0 3).toInt) ∨ ((-2 : Int32).toInt = 0 ∧ 0 ≤ a2.toInt ∧ a2.toInt ≤ 3 ∧ 0 ≤ a3.toInt ∧ a3.toInt ≤ 60 ∧ (Fr0 1).toInt = 1 ∧ (Fr0 2).toInt = a2.toInt ∧ (Fr0 3).toInt = a3.toInt) by have kk : (-2 : Int32).toInt = -2 := (by decide); omega⟩) (Nat.le_of_ble_eq_true rfl) (Nat.le_of_ble_eq_true rfl)

set_option maxRecDepth 100000 in
set_option maxHeartbeats 16000000 in
theorem sX10_write_0 (l : Launch) (G : va_G) (cs : Nat → ClassId) (adm : Nat) (qm : Nat → Nat) (Fm : Nat → Int32) (Am : Nat → Nat → Int32) (Bm : Nat → Nat → Int64) (Dm : Int64) (hIm : IX10 Fm Am) (qr0 : Nat → Nat) (Fr0 : Nat → Int32) (Ar0 : Nat → Nat → Int32) (Br0 : Nat → Nat → Int64) (Dr0 : Int64) (hIr0 : IX7 Fr0 Ar0) (a2 : Int32) (a3 : Int64) : ∀ sz : Nat, Met l yX10_write (wk yX10_write cX10_write 6 (some .int)) (rmk 1 0 0) (PreD G (TY cs) [.ref adm, .int 0, .int a2, .long a3] ((uX10 cs adm qm Fm Am Bm Dm) ++ (uX7 cs (qm 20) qr0 Fr0 Ar0 Br0 Dr0)) sz) ((QDi G (fun (r : Int32) (u : (Nat → Int64)) => ((Fr0 1).toInt = 0 ∧ r.toInt = -6) ∨ (¬ (Fr0 1).toInt = 0 ∧ (a2.toInt < 0 ∨ (Fr0 3).toInt ≤ a2.toInt) ∧ r.toInt = -7) ∨ (¬ (Fr0 1).toInt = 0 ∧ 0 ≤ a2.toInt ∧ a2.toInt < (Fr0 3).toInt ∧ r.toInt = 0)) (fun u : (Nat → Int64) => ((uX10 cs adm qm Fm Am Bm Dm) ++ (uX7 cs (qm 20) qr0 Fr0 Ar0 (vA Br0 0 u) Dr0)))) (va_A ((uX10 cs adm qm Fm Am Bm Dm) ++ (uX7 cs (qm 20) qr0 Fr0 Ar0 Br0 Dr0)) sz)) 0 0 (va_A ((uX10 cs adm qm Fm Am Bm Dm) ++ (uX7 cs (qm 20) qr0 Fr0 Ar0 Br0 Dr0)) sz) := by
  refine mkD (Qc := (QDi G (fun (r : Int32) (u : (Nat → Int64)) => ((Fr0 1).toInt = 0 ∧ r.toInt = -6) ∨ (¬ (Fr0 1).toInt = 0 ∧ (a2.toInt < 0 ∨ (Fr0 3).toInt ≤ a2.toInt) ∧ r.toInt = -7) ∨ (¬ (Fr0 1).toInt = 0 ∧ 0 ≤ a2.toInt ∧ a2.toInt < (Fr0 3).toInt ∧ r.toInt = 0)) (fun u : (Nat → Int64) => ((uX10 cs adm qm Fm Am Bm Dm) ++ (uX7 cs (qm 20) qr0 Fr0 Ar0 (vA Br0 0 u) Dr0))))) (by decide) (by simp [lg_sl, Value.category]) ?_
  intro p e s m args below meth c ls A0 hx hb hml hr hlk hown hmn ht hK hP hD hS hA hl
  have hl : lv_has ls 6 [(0, .ref adm), (1, .int 0), (2, .int a2), (3, .long a3)] := hl
  refine lv_aload_n hx hb dX10_write_0 rfl (lv_at hl 0 rfl) ?_
  refine lv_iload_n hx hb dX10_write_1 rfl (lv_at hl 1 rfl) ?_
  refine behR (runVP (As := [.int 0]) (rest := []) ⟨hx, hb, hml, hown, ht⟩ (sX10_isSlot l G cs adm qm Fm Am Bm Dm hIm 0 ) okV_RX10_348 ⟨by decide, by decide⟩ hK hP [0, 1, 2] rfl 0 rfl rfl hl.1 rfl (Nat.le_of_ble_eq_true rfl) dX10_write_2 ⟨by decide, by decide⟩) hP hS hA (fun r1 H locs hr1 hP hS => ?_)
  have kk2 : (0 : Int32).toInt = 0 := by decide
  have hr1 : (r1.toInt = 1 ∧ 0 ≤ (0 : Int32).toInt ∧ (0 : Int32).toInt ≤ 3) ∨ (r1.toInt = 0 ∧ ((0 : Int32).toInt < 0 ∨ 3 < (0 : Int32).toInt)) := hr1
  refine lv_if_ne (tgt := 11) hx hb dX10_write_5 (by decide) (fun c3 => ?_) (fun c3 => ?_)
  · have zc3 := neK rfl (show (0 : Int32).toInt = 0 by decide) c3
    refine lv_aload_n hx hb dX10_write_11 rfl (lv_at hl 0 rfl) ?_
    refine getF (v := .ref (qm 5)) hx hb ht hown hK hP iTX10 0 5 rfl rfl (by decide) fl_RX10_41 rfl dX10_write_12 ?_
    refine lv_iload_n hx hb dX10_write_15 rfl (lv_at hl 1 rfl) ?_
    refine va_aldq hx hb hK.1 hP 2 5 rfl rfl (show ¬ (_ ∨ _) by decide) dX10_write_16 ?_
    refine W.eq (g2 := F0 m 17 ls [.ref (qm 20)]) rfl ?_
    refine lv_astore (lv' := [(5, .ref (qm 20)), (0, .ref adm), (1, .int 0), (2, .int a2), (3, .long a3)]) hx hb dX10_write_17 hl (by decide) rfl (fun ls hl => ?_)
    refine lv_aload hx hb dX10_write_19 (lv_at hl 0 rfl) ?_
    refine getF (v := .int (Fr0 1)) hx hb ht hown hK hP iTX7 3 1 rfl rfl (by decide) fl_RX10_354 rfl dX10_write_21 ?_
    have zf4 : (0 : Int) ≤ (Fr0 1).toInt ∧ (Fr0 1).toInt ≤ 1 := hIr0.1 1
    refine lv_if_ne (tgt := 30) hx hb dX10_write_24 (by decide) (fun c5 => ?_) (fun c5 => ?_)
    · have zc5 := neK rfl (show (0 : Int32).toInt = 0 by decide) c5
      refine lv_iload_n hx hb dX10_write_30 rfl (lv_at hl 3 rfl) ?_
      refine lv_if_lt (tgt := 43) hx hb dX10_write_31 (by decide) (fun c6 => ?_) (fun c6 => ?_)
      · have zc6 := ltK rfl (show (0 : Int32).toInt = 0 by decide) c6
        refine lv_bipush (v := (-7)) hx hb dX10_write_43 (by decide) ?_
        exact retDi (Br0 0) hx hb hr hlk hP hD hS dX10_write_45 (show ((Fr0 1).toInt = 0 ∧ (-7 : Int32).toInt = -6) ∨ (¬ (Fr0 1).toInt = 0 ∧ (a2.toInt < 0 ∨ (Fr0 3).toInt ≤ a2.toInt) ∧ (-7 : Int32).toInt = -7) ∨ (¬ (Fr0 1).toInt = 0 ∧ 0 ≤ a2.toInt ∧ a2.toInt < (Fr0 3).toInt ∧ (-7 : Int32).toInt = 0) by have kk : (-7 : Int32).toInt = -7 := (by decide); omega) (Nat.le_of_ble_eq_true rfl) (Nat.le_of_ble_eq_true rfl)
      · have zc6 := nltK rfl (show (0 : Int32).toInt = 0 by decide) c6
        refine lv_iload_n hx hb dX10_write_34 rfl (lv_at hl 3 rfl) ?_
        refine lv_aload hx hb dX10_write_35 (lv_at hl 0 rfl) ?_
        refine getF (v := .int (Fr0 3)) hx hb ht hown hK hP iTX7 3 3 rfl rfl (by decide) fl_RX10_194 rfl dX10_write_37 ?_
        have zf7 : (0 : Int) ≤ (Fr0 3).toInt ∧ (Fr0 3).toInt ≤ 60 := hIr0.1 3
        refine lv_icmp_lt (tgt := 46) hx hb dX10_write_40 (by decide) (fun c8 => ?_) (fun c8 => ?_)
        · have zc8 := ltK rfl rfl c8
          refine lv_aload hx hb dX10_write_46 (lv_at hl 0 rfl) ?_
          refine getF (v := .ref (qr0 0)) hx hb ht hown hK hP iTX7 3 0 rfl rfl (by decide) fl_RX10_357 rfl dX10_write_48 ?_
          refine lv_iload_n hx hb dX10_write_51 rfl (lv_at hl 3 rfl) ?_
          refine lv_aload hx hb dX10_write_52 (lv_at hl 0 rfl) ?_
          refine lv_lload_n hx hb dX10_write_54 rfl (lv_at hl 4 rfl) ?_
          refine behRL (runVP (As := [.long a3]) (rest := [.int a2, .ref (qr0 0)]) ⟨hx, hb, hml, hown, ht⟩ (sX7_cut l G cs (qm 20) qr0 Fr0 Ar0 Br0 Dr0 hIr0 a3 ) okV_RX10_361 ⟨by decide, by decide⟩ hK hP [3, 4] rfl 3 rfl rfl hl.1 rfl (Nat.le_of_ble_eq_true rfl) dX10_write_55 ⟨by decide, by decide⟩) hP hS hA (fun r9 H locs hr9 hP hS => ?_)
          refine va_last hx hb hK.1 hP hD hS 4 2 rfl rfl (inK rfl (by omega) (by decide)) dX10_write_58 (fun H locs hP hD hS => ?_)
          obtain ⟨g10, hP, hD⟩ : ∃ g10 : Nat → Int64, va_P G vwCl ((uX10 cs adm qm Fm Am Bm Dm) ++ (uX7 cs (qm 20) qr0 Fr0 Ar0 (vA Br0 0 g10) Dr0)) H ∧ va_D A0 ((uX10 cs adm qm Fm Am Bm Dm) ++ (uX7 cs (qm 20) qr0 Fr0 Ar0 (vA Br0 0 g10) Dr0)) := ⟨vp_updL (Br0 0) a2.toNatClampNeg r9, hP, hD⟩
          refine lv_iconst (v := 0) hx hb dX10_write_59 (by decide) ?_
          exact retDi g10 hx hb hr hlk hP hD hS dX10_write_60 (show ((Fr0 1).toInt = 0 ∧ (0 : Int32).toInt = -6) ∨ (¬ (Fr0 1).toInt = 0 ∧ (a2.toInt < 0 ∨ (Fr0 3).toInt ≤ a2.toInt) ∧ (0 : Int32).toInt = -7) ∨ (¬ (Fr0 1).toInt = 0 ∧ 0 ≤ a2.toInt ∧ a2.toInt < (Fr0 3).toInt ∧ (0 : Int32).toInt = 0) by have kk : (0 : Int32).toInt = 0 := (by decide); omega) (Nat.le_of_ble_eq_true rfl) (Nat.le_of_ble_eq_true rfl)
        · have zc8 := nltK rfl rfl c8
          refine lv_bipush (v := (-7)) hx hb dX10_write_43 (by decide) ?_
          exact retDi (Br0 0) hx hb hr hlk hP hD hS dX10_write_45 (show ((Fr0 1).toInt = 0 ∧ (-7 : Int32).toInt = -6) ∨ (¬ (Fr0 1).toInt = 0 ∧ (a2.toInt < 0 ∨ (Fr0 3).toInt ≤ a2.toInt) ∧ (-7 : Int32).toInt = -7) ∨ (¬ (Fr0 1).toInt = 0 ∧ 0 ≤ a2.toInt ∧ a2.toInt < (Fr0 3).toInt ∧ (-7 : Int32).toInt = 0) by have kk : (-7 : Int32).toInt = -7 := (by decide); omega) (Nat.le_of_ble_eq_true rfl) (Nat.le_of_ble_eq_true rfl)
    · have zc5 := eqK rfl (show (0 : Int32).toInt = 0 by decide) c5
      refine lv_bipush (v := (-6)) hx hb dX10_write_27 (by decide) ?_
      exact retDi (Br0 0) hx hb hr hlk hP hD hS dX10_write_29 (show ((Fr0 1).toInt = 0 ∧ (-6 : Int32).toInt = -6) ∨ (¬ (Fr0 1).toInt = 0 ∧ (a2.toInt < 0 ∨ (Fr0 3).toInt ≤ a2.toInt) ∧ (-6 : Int32).toInt = -7) ∨ (¬ (Fr0 1).toInt = 0 ∧ 0 ≤ a2.toInt ∧ a2.toInt < (Fr0 3).toInt ∧ (-6 : Int32).toInt = 0) by have kk : (-6 : Int32).toInt = -6 := (by decide); omega) (Nat.le_of_ble_eq_true rfl) (Nat.le_of_ble_eq_true rfl)
  · have zc3 := eqK rfl (show (0 : Int32).toInt = 0 by decide) c3
    refine lv_bipush (v := (-2)) hx hb dX10_write_8 (by decide) ?_
    exact retDi (Br0 0) hx hb hr hlk hP hD hS dX10_write_10 (show ((Fr0 1).toInt = 0 ∧ (-2 : Int32).toInt = -6) ∨ (¬ (Fr0 1).toInt = 0 ∧ (a2.toInt < 0 ∨ (Fr0 3).toInt ≤ a2.toInt) ∧ (-2 : Int32).toInt = -7) ∨ (¬ (Fr0 1).toInt = 0 ∧ 0 ≤ a2.toInt ∧ a2.toInt < (Fr0 3).toInt ∧ (-2 : Int32).toInt = 0) by have kk : (-2 : Int32).toInt = -2 := (by decide); omega) (Nat.le_of_ble_eq_true rfl) (Nat.le_of_ble_eq_true rfl)

