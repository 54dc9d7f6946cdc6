set_option maxRecDepth 100000 in
set_option maxHeartbeats 16000000 in
theorem sX10_image_lo (l : Launch) (G : va_G) (cs : Nat → ClassId) (adm : Nat) (qm : Nat → Nat) (Fm : Nat → Int32) (Am : Nat → Nat → Int32) (Bm : Nat → Nat → Int64) (Dm : Int64) (hIm : IX10 Fm Am) (qms : Nat → Nat) (Fms : Nat → Int32) (Ams : Nat → Nat → Int32) (Bms : Nat → Nat → Int64) (Dms : Int64) (hIms : IX8 Fms Ams) (qmh : Nat → Nat) (Fmh : Nat → Int32) (Amh : Nat → Nat → Int32) (Bmh : Nat → Nat → Int64) (Dmh : Int64) (hImh : IX3 Fmh Amh) (a1 : Int32) (ha1 : (-2147483648 : Int) ≤ a1.toInt ∧ a1.toInt ≤ -1) : ∀ sz : Nat, Met l yX10_image (wk yX10_image cX10_image 2 (some .int)) (rmk 0 0 0) (PreP G (TY cs) [.ref adm, .int a1] ((uX10 cs adm qm Fm Am Bm Dm) ++ ((uX8 cs (qm 3) qms Fms Ams Bms Dms) ++ (uX3 cs (qms 0) qmh Fmh Amh Bmh Dmh))) sz) (QRi (fun r : Int32 => True) sz) 0 0 (fun q => sz ≤ q) := by
  refine mkP (Qc := QRi (fun r : Int32 => True)) (by decide) (by simp [lg_sl, Value.category]) ?_
  intro p e s m args below meth c ls hx hb hml hr hlk hown ht hK hP hS hl
  have hl : lv_has ls 2 [(0, .ref adm), (1, .int a1)] := hl
  refine lv_iload_n hx hb dX10_image_0 rfl (lv_at hl 1 rfl) ?_
  refine lv_if_lt (tgt := 9) hx hb dX10_image_1 (by decide) (fun c1 => ?_) (fun c1 => False.elim (by have zz := nltK rfl (show (0 : Int32).toInt = 0 by decide) c1; omega))
  refine lv_bipush (v := (-2)) hx hb dX10_image_9 (by decide) ?_
  exact retRi hx hb hr hlk hS dX10_image_11 (trivial)

set_option maxRecDepth 100000 in
set_option maxHeartbeats 16000000 in
theorem sX10_back_lo (l : Launch) (G : va_G) (cs : Nat → ClassId) (adm : Nat) (qm : Nat → Nat) (Fm : Nat → Int32) (Am : Nat → Nat → Int32) (Bm : Nat → Nat → Int64) (Dm : Int64) (hIm : IX10 Fm Am) (qms : Nat → Nat) (Fms : Nat → Int32) (Ams : Nat → Nat → Int32) (Bms : Nat → Nat → Int64) (Dms : Int64) (hIms : IX8 Fms Ams) (qmh : Nat → Nat) (Fmh : Nat → Int32) (Amh : Nat → Nat → Int32) (Bmh : Nat → Nat → Int64) (Dmh : Int64) (hImh : IX3 Fmh Amh) (a1 : Int32) (ha1 : (-2147483648 : Int) ≤ a1.toInt ∧ a1.toInt ≤ -1) : ∀ sz : Nat, Met l yX10_back (wk yX10_back cX10_back 2 (some .int)) (rmk 0 0 0) (PreP G (TY cs) [.ref adm, .int a1] ((uX10 cs adm qm Fm Am Bm Dm) ++ ((uX8 cs (qm 3) qms Fms Ams Bms Dms) ++ (uX3 cs (qms 0) qmh Fmh Amh Bmh Dmh))) sz) (QRi (fun r : Int32 => True) sz) 0 0 (fun q => sz ≤ q) := by
  refine mkP (Qc := QRi (fun r : Int32 => True)) (by decide) (by simp [lg_sl, Value.category]) ?_
  intro p e s m args below meth c ls hx hb hml hr hlk hown ht hK hP hS hl
  have hl : lv_has ls 2 [(0, .ref adm), (1, .int a1)] := hl
  refine lv_iload_n hx hb dX10_back_0 rfl (lv_at hl 1 rfl) ?_
  refine lv_if_lt (tgt := 9) hx hb dX10_back_1 (by decide) (fun c1 => ?_) (fun c1 => False.elim (by have zz := nltK rfl (show (0 : Int32).toInt = 0 by decide) c1; omega))
  refine lv_bipush (v := (-2)) hx hb dX10_back_9 (by decide) ?_
  exact retRi hx hb hr hlk hS dX10_back_11 (trivial)

set_option maxRecDepth 100000 in
set_option maxHeartbeats 16000000 in
theorem sX10_image_hi (l : Launch) (G : va_G) (cs : Nat → ClassId) (adm : Nat) (qm : Nat → Nat) (Fm : Nat → Int32) (Am : Nat → Nat → Int32) (Bm : Nat → Nat → Int64) (Dm : Int64) (hIm : IX10 Fm Am) (qms : Nat → Nat) (Fms : Nat → Int32) (Ams : Nat → Nat → Int32) (Bms : Nat → Nat → Int64) (Dms : Int64) (hIms : IX8 Fms Ams) (qmh : Nat → Nat) (Fmh : Nat → Int32) (Amh : Nat → Nat → Int32) (Bmh : Nat → Nat → Int64) (Dmh : Int64) (hImh : IX3 Fmh Amh) (a1 : Int32) (ha1 : (3 : Int) ≤ a1.toInt ∧ a1.toInt ≤ 2147483647) : ∀ sz : Nat, Met l yX10_image (wk yX10_image cX10_image 2 (some .int)) (rmk 0 0 0) (PreP G (TY cs) [.ref adm, .int a1] ((uX10 cs adm qm Fm Am Bm Dm) ++ ((uX8 cs (qm 3) qms Fms Ams Bms Dms) ++ (uX3 cs (qms 0) qmh Fmh Amh Bmh Dmh))) sz) (QRi (fun r : Int32 => True) sz) 0 0 (fun q => sz ≤ q) := by
  refine mkP (Qc := QRi (fun r : Int32 => True)) (by decide) (by simp [lg_sl, Value.category]) ?_
  intro p e s m args below meth c ls hx hb hml hr hlk hown ht hK hP hS hl
  have hl : lv_has ls 2 [(0, .ref adm), (1, .int a1)] := hl
  refine lv_iload_n hx hb dX10_image_0 rfl (lv_at hl 1 rfl) ?_
  refine lv_if_lt (tgt := 9) hx hb dX10_image_1 (by decide) (fun c1 => False.elim (by have zz := ltK rfl (show (0 : Int32).toInt = 0 by decide) c1; omega)) (fun c1 => ?_)
  refine lv_iload_n hx hb dX10_image_4 rfl (lv_at hl 1 rfl) ?_
  refine lv_iconst (v := 3) hx hb dX10_image_5 (by decide) ?_
  refine lv_icmp_lt (tgt := 12) hx hb dX10_image_6 (by decide) (fun c2 => False.elim (by have zz := ltK rfl (show (3 : Int32).toInt = 3 by decide) c2; omega)) (fun c2 => ?_)
  refine lv_bipush (v := (-2)) hx hb dX10_image_9 (by decide) ?_
  exact retRi hx hb hr hlk hS dX10_image_11 (trivial)

set_option maxRecDepth 100000 in
set_option maxHeartbeats 16000000 in
theorem sX10_back_hi (l : Launch) (G : va_G) (cs : Nat → ClassId) (adm : Nat) (qm : Nat → Nat) (Fm : Nat → Int32) (Am : Nat → Nat → Int32) (Bm : Nat → Nat → Int64) (Dm : Int64) (hIm : IX10 Fm Am) (qms : Nat → Nat) (Fms : Nat → Int32) (Ams : Nat → Nat → Int32) (Bms : Nat → Nat → Int64) (Dms : Int64) (hIms : IX8 Fms Ams) (qmh : Nat → Nat) (Fmh : Nat → Int32) (Amh : Nat → Nat → Int32) (Bmh : Nat → Nat → Int64) (Dmh : Int64) (hImh : IX3 Fmh Amh) (a1 : Int32) (ha1 : (3 : Int) ≤ a1.toInt ∧ a1.toInt ≤ 2147483647) : ∀ sz : Nat, Met l yX10_back (wk yX10_back cX10_back 2 (some .int)) (rmk 0 0 0) (PreP G (TY cs) [.ref adm, .int a1] ((uX10 cs adm qm Fm Am Bm Dm) ++ ((uX8 cs (qm 3) qms Fms Ams Bms Dms) ++ (uX3 cs (qms 0) qmh Fmh Amh Bmh Dmh))) sz) (QRi (fun r : Int32 => True) sz) 0 0 (fun q => sz ≤ q) := by
  refine mkP (Qc := QRi (fun r : Int32 => True)) (by decide) (by simp [lg_sl, Value.category]) ?_
  intro p e s m args below meth c ls hx hb hml hr hlk hown ht hK hP hS hl
  have hl : lv_has ls 2 [(0, .ref adm), (1, .int a1)] := hl
  refine lv_iload_n hx hb dX10_back_0 rfl (lv_at hl 1 rfl) ?_
  refine lv_if_lt (tgt := 9) hx hb dX10_back_1 (by decide) (fun c1 => False.elim (by have zz := ltK rfl (show (0 : Int32).toInt = 0 by decide) c1; omega)) (fun c1 => ?_)
  refine lv_iload_n hx hb dX10_back_4 rfl (lv_at hl 1 rfl) ?_
  refine lv_iconst (v := 3) hx hb dX10_back_5 (by decide) ?_
  refine lv_icmp_lt (tgt := 12) hx hb dX10_back_6 (by decide) (fun c2 => False.elim (by have zz := ltK rfl (show (3 : Int32).toInt = 3 by decide) c2; omega)) (fun c2 => ?_)
  refine lv_bipush (v := (-2)) hx hb dX10_back_9 (by decide) ?_
  exact retRi hx hb hr hlk hS dX10_back_11 (trivial)

set_option maxRecDepth 100000 in
set_option maxHeartbeats 16000000 in
theorem sX10_row_0 (l : Launch) (G : va_G) (cs : Nat → ClassId) (adm : Nat) (qm : Nat → Nat) (Fm : Nat → Int32) (Am : Nat → Nat → Int32) (Bm : Nat → Nat → Int64) (Dm : Int64) (hIm : IX10 Fm Am) (qr0 : Nat → Nat) (Fr0 : Nat → Int32) (Ar0 : Nat → Nat → Int32) (Br0 : Nat → Nat → Int64) (Dr0 : Int64) (hIr0 : IX7 Fr0 Ar0) (a2 : Int32) (a3 : Int32) : ∀ sz : Nat, Met l yX10_row (wk yX10_row cX10_row 4 (some .int)) (rmk 2 0 0) (PreD G (TY cs) [.ref adm, .int 0, .int a2, .int a3] ((uX10 cs adm qm Fm Am Bm Dm) ++ (uX7 cs (qm 20) qr0 Fr0 Ar0 Br0 Dr0)) sz) ((QDi G (fun (r : Int32) (u : Int32 × Int32 × Int32 × (Nat → Int64)) => ((0 : Int) ≤ u.1.toInt ∧ u.1.toInt ≤ 1) ∧ ((0 : Int) ≤ u.2.2.1.toInt ∧ u.2.2.1.toInt ≤ 60) ∧ (True)) (fun u : Int32 × Int32 × Int32 × (Nat → Int64) => ((uX10 cs adm qm Fm Am Bm Dm) ++ (uX7 cs (qm 20) qr0 (upd (upd (upd Fr0 1 u.1) 2 u.2.1) 3 u.2.2.1) Ar0 (vA Br0 0 u.2.2.2) Dr0)))) (va_A ((uX10 cs adm qm Fm Am Bm Dm) ++ (uX7 cs (qm 20) qr0 Fr0 Ar0 Br0 Dr0)) sz)) 0 0 (va_A ((uX10 cs adm qm Fm Am Bm Dm) ++ (uX7 cs (qm 20) qr0 Fr0 Ar0 Br0 Dr0)) sz) := by
  refine mkD (Qc := (QDi G (fun (r : Int32) (u : Int32 × Int32 × Int32 × (Nat → Int64)) => ((0 : Int) ≤ u.1.toInt ∧ u.1.toInt ≤ 1) ∧ ((0 : Int) ≤ u.2.2.1.toInt ∧ u.2.2.1.toInt ≤ 60) ∧ (True)) (fun u : Int32 × Int32 × Int32 × (Nat → Int64) => ((uX10 cs adm qm Fm Am Bm Dm) ++ (uX7 cs (qm 20) qr0 (upd (upd (upd Fr0 1 u.1) 2 u.2.1) 3 u.2.2.1) Ar0 (vA Br0 0 u.2.2.2) Dr0))))) (by decide) (by simp [lg_sl, Value.category]) ?_
  intro p e s m args below meth c ls A0 hx hb hml hr hlk hown hmn ht hK hP hD hS hA hl
  have hl : lv_has ls 4 [(0, .ref adm), (1, .int 0), (2, .int a2), (3, .int a3)] := hl
  refine lv_aload_n hx hb dX10_row_0 rfl (lv_at hl 0 rfl) ?_
  refine lv_iload_n hx hb dX10_row_1 rfl (lv_at hl 1 rfl) ?_
  refine behR (runVP (As := [.int 0]) (rest := []) ⟨hx, hb, hml, hown, ht⟩ (sX10_isSlot l G cs adm qm Fm Am Bm Dm hIm 0 ) okV_RX10_348 ⟨by decide, by decide⟩ hK hP [0, 1, 2] rfl 0 rfl rfl hl.1 rfl (Nat.le_of_ble_eq_true rfl) dX10_row_2 ⟨by decide, by decide⟩) hP hS hA (fun r1 H locs hr1 hP hS => ?_)
  have kk2 : (0 : Int32).toInt = 0 := by decide
  have hr1 : (r1.toInt = 1 ∧ 0 ≤ (0 : Int32).toInt ∧ (0 : Int32).toInt ≤ 3) ∨ (r1.toInt = 0 ∧ ((0 : Int32).toInt < 0 ∨ 3 < (0 : Int32).toInt)) := hr1
  refine lv_if_eq (tgt := 23) hx hb dX10_row_5 (by decide) (fun c3 => ?_) (fun c3 => ?_)
  · have zc3 := eqK rfl (show (0 : Int32).toInt = 0 by decide) c3
    refine lv_bipush (v := (-2)) hx hb dX10_row_23 (by decide) ?_
    exact retDi ((Fr0 1), (Fr0 2), (Fr0 3), (Br0 0)) hx hb hr hlk hP hD hS dX10_row_25 (⟨hIr0.1 1, hIr0.1 3, trivial⟩) (Nat.le_of_ble_eq_true rfl) (Nat.le_of_ble_eq_true rfl)
  · have zc3 := neK rfl (show (0 : Int32).toInt = 0 by decide) c3
    refine lv_iload_n hx hb dX10_row_8 rfl (lv_at hl 2 rfl) ?_
    refine lv_if_lt (tgt := 23) hx hb dX10_row_9 (by decide) (fun c4 => ?_) (fun c4 => ?_)
    · have zc4 := ltK rfl (show (0 : Int32).toInt = 0 by decide) c4
      refine lv_bipush (v := (-2)) hx hb dX10_row_23 (by decide) ?_
      exact retDi ((Fr0 1), (Fr0 2), (Fr0 3), (Br0 0)) hx hb hr hlk hP hD hS dX10_row_25 (⟨hIr0.1 1, hIr0.1 3, trivial⟩) (Nat.le_of_ble_eq_true rfl) (Nat.le_of_ble_eq_true rfl)
    · have zc4 := nltK rfl (show (0 : Int32).toInt = 0 by decide) c4
      refine lv_iload_n hx hb dX10_row_12 rfl (lv_at hl 2 rfl) ?_
      refine lv_iconst (v := 3) hx hb dX10_row_13 (by decide) ?_
      refine lv_icmp_gt (tgt := 23) hx hb dX10_row_14 (by decide) (fun c5 => ?_) (fun c5 => ?_)
      · have zc5 := ltK (show (3 : Int32).toInt = 3 by decide) rfl c5
        refine lv_bipush (v := (-2)) hx hb dX10_row_23 (by decide) ?_
        exact retDi ((Fr0 1), (Fr0 2), (Fr0 3), (Br0 0)) hx hb hr hlk hP hD hS dX10_row_25 (⟨hIr0.1 1, hIr0.1 3, trivial⟩) (Nat.le_of_ble_eq_true rfl) (Nat.le_of_ble_eq_true rfl)
      · have zc5 := nltK (show (3 : Int32).toInt = 3 by decide) rfl c5
        refine lv_iload_n hx hb dX10_row_17 rfl (lv_at hl 3 rfl) ?_
        refine lv_bipush (v := 60) hx hb dX10_row_18 (by decide) ?_
        refine lv_icmp_le (tgt := 26) hx hb dX10_row_20 (by decide) (fun c6 => ?_) (fun c6 => ?_)
        · have zc6 := leK rfl (show (60 : Int32).toInt = 60 by decide) c6
          refine lv_iload_n hx hb dX10_row_26 rfl (lv_at hl 3 rfl) ?_
          refine lv_if_ge (tgt := 33) hx hb dX10_row_27 (by decide) (fun c7 => ?_) (fun c7 => ?_)
          · have zc7 := leK (show (0 : Int32).toInt = 0 by decide) rfl c7
            refine lv_aload_n hx hb dX10_row_33 rfl (lv_at hl 0 rfl) ?_
            refine getF (v := .ref (qm 5)) hx hb ht hown hK hP iTX10 0 5 rfl rfl (by decide) fl_RX10_41 rfl dX10_row_34 ?_
            refine lv_iload_n hx hb dX10_row_37 rfl (lv_at hl 1 rfl) ?_
            refine va_aldq hx hb hK.1 hP 2 5 rfl rfl (show ¬ (_ ∨ _) by decide) dX10_row_38 ?_
            refine W.eq (g2 := F0 m 39 ls [.ref (qm 20)]) rfl ?_
            refine lv_iload_n hx hb dX10_row_39 rfl (lv_at hl 2 rfl) ?_
            refine lv_iload_n hx hb dX10_row_40 rfl (lv_at hl 3 rfl) ?_
            refine behDw (wr := (uX10 cs adm qm Fm Am Bm Dm)) (runVD (As := [.int a2, .int a3]) (rest := []) ⟨hx, hb, hml, hown, ht⟩ (sX7_make l G cs (qm 20) qr0 Fr0 Ar0 Br0 Dr0 hIr0 a2 a3 (by omega)) okV_RX10_351 ⟨by decide, by decide⟩ hK hP hD [3, 4] rfl (by decide) rfl 3 rfl rfl hl.1 rfl (Nat.le_of_ble_eq_true rfl) dX10_row_41 ⟨(Nat.le_of_ble_eq_true rfl), (Nat.le_of_ble_eq_true rfl)⟩) hP hD hS hA [3, 4] [0, 1, 2] rfl rfl (by decide) (by decide) (fun u H locs hu hP hD hS => ?_)
            obtain ⟨x8, x9, x10, y11⟩ := u
            obtain ⟨hbx8, hbx10, hr12⟩ := hu
            have hbx8 : (0 : Int) ≤ x8.toInt ∧ x8.toInt ≤ 1 := hbx8
            have hbx10 : (0 : Int) ≤ x10.toInt ∧ x10.toInt ≤ 60 := hbx10
            have hP : va_P G vwCl ((uX10 cs adm qm Fm Am Bm Dm) ++ (uX7 cs (qm 20) qr0 (upd (upd (upd Fr0 1 x8) 2 x9) 3 x10) Ar0 (vA Br0 0 y11) Dr0)) H := hP.sub [0, 1, 2, 3, 4] rfl
            have hD : va_D A0 ((uX10 cs adm qm Fm Am Bm Dm) ++ (uX7 cs (qm 20) qr0 (upd (upd (upd Fr0 1 x8) 2 x9) 3 x10) Ar0 (vA Br0 0 y11) Dr0)) := hD.sub [0, 1, 2, 3, 4] (by decide) rfl
            refine lv_iconst (v := 0) hx hb dX10_row_44 (by decide) ?_
            exact retDi (x8, x9, x10, y11) hx hb hr hlk hP hD hS dX10_row_45 (⟨show (0 : Int) ≤ x8.toInt ∧ x8.toInt ≤ 1 by omega, show (0 : Int) ≤ x10.toInt ∧ x10.toInt ≤ 60 by omega, trivial⟩) (Nat.le_of_ble_eq_true rfl) (Nat.le_of_ble_eq_true rfl)
          · have zc7 := nleK (show (0 : Int32).toInt = 0 by decide) rfl c7
            refine lv_bipush (v := (-3)) hx hb dX10_row_30 (by decide) ?_
            exact retDi ((Fr0 1), (Fr0 2), (Fr0 3), (Br0 0)) hx hb hr hlk hP hD hS dX10_row_32 (⟨hIr0.1 1, hIr0.1 3, trivial⟩) (Nat.le_of_ble_eq_true rfl) (Nat.le_of_ble_eq_true rfl)
        · have zc6 := nleK rfl (show (60 : Int32).toInt = 60 by decide) c6
          refine lv_bipush (v := (-2)) hx hb dX10_row_23 (by decide) ?_
          exact retDi ((Fr0 1), (Fr0 2), (Fr0 3), (Br0 0)) hx hb hr hlk hP hD hS dX10_row_25 (⟨hIr0.1 1, hIr0.1 3, trivial⟩) (Nat.le_of_ble_eq_true rfl) (Nat.le_of_ble_eq_true rfl)

set_option maxRecDepth 100000 in
set_option maxHeartbeats 16000000 in
theorem sX10_row_1 (l : Launch) (G : va_G) (cs : Nat → ClassId) (adm : Nat) (qm : Nat → Nat) (Fm : Nat → Int32) (Am : Nat → Nat → Int32) (Bm : Nat → Nat → Int64) (Dm : Int64) (hIm : IX10 Fm Am) (qr1 : Nat → Nat) (Fr1 : Nat → Int32) (Ar1 : Nat → Nat → Int32) (Br1 : Nat → Nat → Int64) (Dr1 : Int64) (hIr1 : IX7 Fr1 Ar1) (a2 : Int32) (a3 : Int32) : ∀ sz : Nat, Met l yX10_row (wk yX10_row cX10_row 4 (some .int)) (rmk 2 0 0) (PreD G (TY cs) [.ref adm, .int 1, .int a2, .int a3] ((uX10 cs adm qm Fm Am Bm Dm) ++ (uX7 cs (qm 21) qr1 Fr1 Ar1 Br1 Dr1)) sz) ((QDi G (fun (r : Int32) (u : Int32 × Int32 × Int32 × (Nat → Int64)) => ((0 : Int) ≤ u.1.toInt ∧ u.1.toInt ≤ 1) ∧ ((0 : Int) ≤ u.2.2.1.toInt ∧ u.2.2.1.toInt ≤ 60) ∧ (True)) (fun u : Int32 × Int32 × Int32 × (Nat → Int64) => ((uX10 cs adm qm Fm Am Bm Dm) ++ (uX7 cs (qm 21) qr1 (upd (upd (upd Fr1 1 u.1) 2 u.2.1) 3 u.2.2.1) Ar1 (vA Br1 0 u.2.2.2) Dr1)))) (va_A ((uX10 cs adm qm Fm Am Bm Dm) ++ (uX7 cs (qm 21) qr1 Fr1 Ar1 Br1 Dr1)) sz)) 0 0 (va_A ((uX10 cs adm qm Fm Am Bm Dm) ++ (uX7 cs (qm 21) qr1 Fr1 Ar1 Br1 Dr1)) sz) := by
  refine mkD (Qc := (QDi G (fun (r : Int32) (u : Int32 × Int32 × Int32 × (Nat → Int64)) => ((0 : Int) ≤ u.1.toInt ∧ u.1.toInt ≤ 1) ∧ ((0 : Int) ≤ u.2.2.1.toInt ∧ u.2.2.1.toInt ≤ 60) ∧ (True)) (fun u : Int32 × Int32 × Int32 × (Nat → Int64) => ((uX10 cs adm qm Fm Am Bm Dm) ++ (uX7 cs (qm 21) qr1 (upd (upd (upd Fr1 1 u.1) 2 u.2.1) 3 u.2.2.1) Ar1 (vA Br1 0 u.2.2.2) Dr1))))) (by decide) (by simp [lg_sl, Value.category]) ?_
  intro p e s m args below meth c ls A0 hx hb hml hr hlk hown hmn ht hK hP hD hS hA hl
  have hl : lv_has ls 4 [(0, .ref adm), (1, .int 1), (2, .int a2), (3, .int a3)] := hl
  refine lv_aload_n hx hb dX10_row_0 rfl (lv_at hl 0 rfl) ?_
  refine lv_iload_n hx hb dX10_row_1 rfl (lv_at hl 1 rfl) ?_
  refine behR (runVP (As := [.int 1]) (rest := []) ⟨hx, hb, hml, hown, ht⟩ (sX10_isSlot l G cs adm qm Fm Am Bm Dm hIm 1 ) okV_RX10_348 ⟨by decide, by decide⟩ hK hP [0, 1, 2] rfl 0 rfl rfl hl.1 rfl (Nat.le_of_ble_eq_true rfl) dX10_row_2 ⟨by decide, by decide⟩) hP hS hA (fun r1 H locs hr1 hP hS => ?_)
  have kk2 : (1 : Int32).toInt = 1 := by decide
  have hr1 : (r1.toInt = 1 ∧ 0 ≤ (1 : Int32).toInt ∧ (1 : Int32).toInt ≤ 3) ∨ (r1.toInt = 0 ∧ ((1 : Int32).toInt < 0 ∨ 3 < (1 : Int32).toInt)) := hr1
  refine lv_if_eq (tgt := 23) hx hb dX10_row_5 (by decide) (fun c3 => ?_) (fun c3 => ?_)
  · have zc3 := eqK rfl (show (0 : Int32).toInt = 0 by decide) c3
    refine lv_bipush (v := (-2)) hx hb dX10_row_23 (by decide) ?_
    exact retDi ((Fr1 1), (Fr1 2), (Fr1 3), (Br1 0)) hx hb hr hlk hP hD hS dX10_row_25 (⟨hIr1.1 1, hIr1.1 3, trivial⟩) (Nat.le_of_ble_eq_true rfl) (Nat.le_of_ble_eq_true rfl)
  · have zc3 := neK rfl (show (0 : Int32).toInt = 0 by decide) c3
    refine lv_iload_n hx hb dX10_row_8 rfl (lv_at hl 2 rfl) ?_
    refine lv_if_lt (tgt := 23) hx hb dX10_row_9 (by decide) (fun c4 => ?_) (fun c4 => ?_)
    · have zc4 := ltK rfl (show (0 : Int32).toInt = 0 by decide) c4
      refine lv_bipush (v := (-2)) hx hb dX10_row_23 (by decide) ?_
      exact retDi ((Fr1 1), (Fr1 2), (Fr1 3), (Br1 0)) hx hb hr hlk hP hD hS dX10_row_25 (⟨hIr1.1 1, hIr1.1 3, trivial⟩) (Nat.le_of_ble_eq_true rfl) (Nat.le_of_ble_eq_true rfl)
    · have zc4 := nltK rfl (show (0 : Int32).toInt = 0 by decide) c4
      refine lv_iload_n hx hb dX10_row_12 rfl (lv_at hl 2 rfl) ?_
      refine lv_iconst (v := 3) hx hb dX10_row_13 (by decide) ?_
      refine lv_icmp_gt (tgt := 23) hx hb dX10_row_14 (by decide) (fun c5 => ?_) (fun c5 => ?_)
      · have zc5 := ltK (show (3 : Int32).toInt = 3 by decide) rfl c5
        refine lv_bipush (v := (-2)) hx hb dX10_row_23 (by decide) ?_
        exact retDi ((Fr1 1), (Fr1 2), (Fr1 3), (Br1 0)) hx hb hr hlk hP hD hS dX10_row_25 (⟨hIr1.1 1, hIr1.1 3, trivial⟩) (Nat.le_of_ble_eq_true rfl) (Nat.le_of_ble_eq_true rfl)
      · have zc5 := nltK (show (3 : Int32).toInt = 3 by decide) rfl c5
        refine lv_iload_n hx hb dX10_row_17 rfl (lv_at hl 3 rfl) ?_
        refine lv_bipush (v := 60) hx hb dX10_row_18 (by decide) ?_
        refine lv_icmp_le (tgt := 26) hx hb dX10_row_20 (by decide) (fun c6 => ?_) (fun c6 => ?_)
        · have zc6 := leK rfl (show (60 : Int32).toInt = 60 by decide) c6
          refine lv_iload_n hx hb dX10_row_26 rfl (lv_at hl 3 rfl) ?_
          refine lv_if_ge (tgt := 33) hx hb dX10_row_27 (by decide) (fun c7 => ?_) (fun c7 => ?_)
          · have zc7 := leK (show (0 : Int32).toInt = 0 by decide) rfl c7
            refine lv_aload_n hx hb dX10_row_33 rfl (lv_at hl 0 rfl) ?_
            refine getF (v := .ref (qm 5)) hx hb ht hown hK hP iTX10 0 5 rfl rfl (by decide) fl_RX10_41 rfl dX10_row_34 ?_
            refine lv_iload_n hx hb dX10_row_37 rfl (lv_at hl 1 rfl) ?_
            refine va_aldq hx hb hK.1 hP 2 5 rfl rfl (show ¬ (_ ∨ _) by decide) dX10_row_38 ?_
            refine W.eq (g2 := F0 m 39 ls [.ref (qm 21)]) rfl ?_
            refine lv_iload_n hx hb dX10_row_39 rfl (lv_at hl 2 rfl) ?_
            refine lv_iload_n hx hb dX10_row_40 rfl (lv_at hl 3 rfl) ?_
            refine behDw (wr := (uX10 cs adm qm Fm Am Bm Dm)) (runVD (As := [.int a2, .int a3]) (rest := []) ⟨hx, hb, hml, hown, ht⟩ (sX7_make l G cs (qm 21) qr1 Fr1 Ar1 Br1 Dr1 hIr1 a2 a3 (by omega)) okV_RX10_351 ⟨by decide, by decide⟩ hK hP hD [3, 4] rfl (by decide) rfl 3 rfl rfl hl.1 rfl (Nat.le_of_ble_eq_true rfl) dX10_row_41 ⟨(Nat.le_of_ble_eq_true rfl), (Nat.le_of_ble_eq_true rfl)⟩) hP hD hS hA [3, 4] [0, 1, 2] rfl rfl (by decide) (by decide) (fun u H locs hu hP hD hS => ?_)
            obtain ⟨x8, x9, x10, y11⟩ := u
            obtain ⟨hbx8, hbx10, hr12⟩ := hu
            have hbx8 : (0 : Int) ≤ x8.toInt ∧ x8.toInt ≤ 1 := hbx8
            have hbx10 : (0 : Int) ≤ x10.toInt ∧ x10.toInt ≤ 60 := hbx10
            have hP : va_P G vwCl ((uX10 cs adm qm Fm Am Bm Dm) ++ (uX7 cs (qm 21) qr1 (upd (upd (upd Fr1 1 x8) 2 x9) 3 x10) Ar1 (vA Br1 0 y11) Dr1)) H := hP.sub [0, 1, 2, 3, 4] rfl
            have hD : va_D A0 ((uX10 cs adm qm Fm Am Bm Dm) ++ (uX7 cs (qm 21) qr1 (upd (upd (upd Fr1 1 x8) 2 x9) 3 x10) Ar1 (vA Br1 0 y11) Dr1)) := hD.sub [0, 1, 2, 3, 4] (by decide) rfl
            refine lv_iconst (v := 0) hx hb dX10_row_44 (by decide) ?_
            exact retDi (x8, x9, x10, y11) hx hb hr hlk hP hD hS dX10_row_45 (⟨show (0 : Int) ≤ x8.toInt ∧ x8.toInt ≤ 1 by omega, show (0 : Int) ≤ x10.toInt ∧ x10.toInt ≤ 60 by omega, trivial⟩) (Nat.le_of_ble_eq_true rfl) (Nat.le_of_ble_eq_true rfl)
          · have zc7 := nleK (show (0 : Int32).toInt = 0 by decide) rfl c7
            refine lv_bipush (v := (-3)) hx hb dX10_row_30 (by decide) ?_
            exact retDi ((Fr1 1), (Fr1 2), (Fr1 3), (Br1 0)) hx hb hr hlk hP hD hS dX10_row_32 (⟨hIr1.1 1, hIr1.1 3, trivial⟩) (Nat.le_of_ble_eq_true rfl) (Nat.le_of_ble_eq_true rfl)
        · have zc6 := nleK rfl (show (60 : Int32).toInt = 60 by decide) c6
          refine lv_bipush (v := (-2)) hx hb dX10_row_23 (by decide) ?_
          exact retDi ((Fr1 1), (Fr1 2), (Fr1 3), (Br1 0)) hx hb hr hlk hP hD hS dX10_row_25 (⟨hIr1.1 1, hIr1.1 3, trivial⟩) (Nat.le_of_ble_eq_true rfl) (Nat.le_of_ble_eq_true rfl)

