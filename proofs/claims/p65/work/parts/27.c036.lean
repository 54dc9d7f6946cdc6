set_option maxRecDepth 100000 in
set_option maxHeartbeats 16000000 in
theorem sX10_disturbs_hi (l : Launch) (G : va_G) (cs : Nat → ClassId) (adm : Nat) (qm : Nat → Nat) (Fm : Nat → Int32) (Am : Nat → Nat → Int32) (Bm : Nat → Nat → Int64) (Dm : Int64) (hIm : IX10 Fm Am) (qms : Nat → Nat) (Fms : Nat → Int32) (Ams : Nat → Nat → Int32) (Bms : Nat → Nat → Int64) (Dms : Int64) (hIms : IX8 Fms Ams) (qmh : Nat → Nat) (Fmh : Nat → Int32) (Amh : Nat → Nat → Int32) (Bmh : Nat → Nat → Int64) (Dmh : Int64) (hImh : IX3 Fmh Amh) (a1 : Int32) (ha1 : (4 : Int) ≤ a1.toInt ∧ a1.toInt ≤ 2147483647) : ∀ sz : Nat, Met l yX10_disturbs (wk yX10_disturbs cX10_disturbs 7 (some .int)) (rmk 3 0 0) (PreP G (TY cs) [.ref adm, .int a1] ((uX10 cs adm qm Fm Am Bm Dm) ++ ((uX8 cs (qm 3) qms Fms Ams Bms Dms) ++ (uX3 cs (qms 0) qmh Fmh Amh Bmh Dmh))) sz) (QRi (fun r : Int32 => True) sz) 0 0 (fun q => sz ≤ q) := by
  refine mkP (Qc := QRi (fun r : Int32 => True)) (by decide) (by simp [lg_sl, Value.category]) ?_
  intro p e s m args below meth c ls hx hb hml hr hlk hown ht hK hP hS hl
  have hl : lv_has ls 7 [(0, .ref adm), (1, .int a1)] := hl
  refine lv_aload_n hx hb dX10_disturbs_0 rfl (lv_at hl 0 rfl) ?_
  refine lv_iload_n hx hb dX10_disturbs_1 rfl (lv_at hl 1 rfl) ?_
  refine lv_iconst (v := 1) hx hb dX10_disturbs_2 (by decide) ?_
  have bb1 := i32b a1
  refine behR (runVP (As := [.int a1, .int 1]) (rest := []) ⟨hx, hb, hml, hown, ht⟩ (sX10_askRound_hi l G cs adm qm Fm Am Bm Dm hIm qms Fms Ams Bms Dms hIms qmh Fmh Amh Bmh Dmh hImh a1 1 (by omega) (by decide)) okV_RX10_186 ⟨by decide, by decide⟩ hK hP [0, 1, 2, 3, 4, 5, 6, 7, 8, 9, 10, 11, 12] rfl 0 rfl rfl hl.1 rfl (Nat.le_of_ble_eq_true rfl) dX10_disturbs_3 ⟨by decide, by decide⟩) hP hS (fun _ h => h) (fun r2 H locs hr2 hP hS => ?_)
  have kk3 : (1 : Int32).toInt = 1 := by decide
  have hr2 : r2.toInt = -2 := hr2
  refine lv_istore_n (lv' := [(2, .int r2), (0, .ref adm), (1, .int a1)]) hx hb dX10_disturbs_6 rfl hl (by decide) rfl (fun ls hl => ?_)
  refine lv_iload_n hx hb dX10_disturbs_7 rfl (lv_at hl 0 rfl) ?_
  refine lv_if_eq (tgt := 13) hx hb dX10_disturbs_8 (by decide) (fun c4 => False.elim (by have zz := eqK rfl (show (0 : Int32).toInt = 0 by decide) c4; omega)) (fun c4 => ?_)
  refine lv_iload_n hx hb dX10_disturbs_11 rfl (lv_at hl 0 rfl) ?_
  exact retRi hx hb hr hlk hS dX10_disturbs_12 (trivial)

set_option maxRecDepth 100000 in
set_option maxHeartbeats 16000000 in
theorem sX10_gain_0 (l : Launch) (G : va_G) (cs : Nat → ClassId) (adm : Nat) (qm : Nat → Nat) (Fm : Nat → Int32) (Am : Nat → Nat → Int32) (Bm : Nat → Nat → Int64) (Dm : Int64) (hIm : IX10 Fm Am) (qms : Nat → Nat) (Fms : Nat → Int32) (Ams : Nat → Nat → Int32) (Bms : Nat → Nat → Int64) (Dms : Int64) (hIms : IX8 Fms Ams) (qmh : Nat → Nat) (Fmh : Nat → Int32) (Amh : Nat → Nat → Int32) (Bmh : Nat → Nat → Int64) (Dmh : Int64) (hImh : IX3 Fmh Amh) (qmn : Nat → Nat) (Fmn : Nat → Int32) (Amn : Nat → Nat → Int32) (Bmn : Nat → Nat → Int64) (Dmn : Int64) (hImn : IX5 Fmn Amn) (qmw : Nat → Nat) (Fmw : Nat → Int32) (Amw : Nat → Nat → Int32) (Bmw : Nat → Nat → Int64) (Dmw : Int64) (hImw : IX5 Fmw Amw) (qr0 : Nat → Nat) (Fr0 : Nat → Int32) (Ar0 : Nat → Nat → Int32) (Br0 : Nat → Nat → Int64) (Dr0 : Int64) (hIr0 : IX7 Fr0 Ar0) : ∀ sz : Nat, Met l yX10_gain (wk yX10_gain cX10_gain 3 (some .int)) (rmk 5 0 0) (PreD G (TY cs) [.ref adm, .int 0] ((uX10 cs adm qm Fm Am Bm Dm) ++ ((uX8 cs (qm 3) qms Fms Ams Bms Dms) ++ ((uX3 cs (qms 0) qmh Fmh Amh Bmh Dmh) ++ ((uX5 cs (qm 6) qmn Fmn Amn Bmn Dmn) ++ ((uX5 cs (qm 7) qmw Fmw Amw Bmw Dmw) ++ (uX7 cs (qm 20) qr0 Fr0 Ar0 Br0 Dr0)))))) sz) ((QDi G (fun (r : Int32) (u : Int32 × Int32 × (Nat → Int32) × (Nat → Int32)) => True) (fun u : Int32 × Int32 × (Nat → Int32) × (Nat → Int32) => ((uX10 cs adm qm Fm Am Bm Dm) ++ ((uX8 cs (qm 3) qms Fms Ams Bms Dms) ++ ((uX3 cs (qms 0) qmh Fmh Amh Bmh Dmh) ++ ((uX5 cs (qm 6) qmn Fmn Amn Bmn Dmn) ++ ((wX5 cs (qm 7) qmw (upd (upd Fmw 2 u.1) 3 u.2.1) (vA (vA Amw 0 u.2.2.1) 1 u.2.2.2) Bmw Dmw) ++ (uX7 cs (qm 20) qr0 Fr0 Ar0 Br0 Dr0)))))))) (va_A ((uX10 cs adm qm Fm Am Bm Dm) ++ ((uX8 cs (qm 3) qms Fms Ams Bms Dms) ++ ((uX3 cs (qms 0) qmh Fmh Amh Bmh Dmh) ++ ((uX5 cs (qm 6) qmn Fmn Amn Bmn Dmn) ++ ((uX5 cs (qm 7) qmw Fmw Amw Bmw Dmw) ++ (uX7 cs (qm 20) qr0 Fr0 Ar0 Br0 Dr0)))))) sz)) 0 0 (va_A ((uX10 cs adm qm Fm Am Bm Dm) ++ ((uX8 cs (qm 3) qms Fms Ams Bms Dms) ++ ((uX3 cs (qms 0) qmh Fmh Amh Bmh Dmh) ++ ((uX5 cs (qm 6) qmn Fmn Amn Bmn Dmn) ++ ((uX5 cs (qm 7) qmw Fmw Amw Bmw Dmw) ++ (uX7 cs (qm 20) qr0 Fr0 Ar0 Br0 Dr0)))))) sz) := by
  refine mkD (Qc := (QDi G (fun (r : Int32) (u : Int32 × Int32 × (Nat → Int32) × (Nat → Int32)) => True) (fun u : Int32 × Int32 × (Nat → Int32) × (Nat → Int32) => ((uX10 cs adm qm Fm Am Bm Dm) ++ ((uX8 cs (qm 3) qms Fms Ams Bms Dms) ++ ((uX3 cs (qms 0) qmh Fmh Amh Bmh Dmh) ++ ((uX5 cs (qm 6) qmn Fmn Amn Bmn Dmn) ++ ((wX5 cs (qm 7) qmw (upd (upd Fmw 2 u.1) 3 u.2.1) (vA (vA Amw 0 u.2.2.1) 1 u.2.2.2) Bmw Dmw) ++ (uX7 cs (qm 20) qr0 Fr0 Ar0 Br0 Dr0))))))))) (by decide) (by simp [lg_sl, Value.category]) ?_
  intro p e s m args below meth c ls A0 hx hb hml hr hlk hown hmn ht hK hP hD hS hA hl
  have hl : lv_has ls 3 [(0, .ref adm), (1, .int 0)] := hl
  refine lv_aload_n hx hb dX10_gain_0 rfl (lv_at hl 0 rfl) ?_
  refine lv_iload_n hx hb dX10_gain_1 rfl (lv_at hl 1 rfl) ?_
  refine lv_iconst (v := 1) hx hb dX10_gain_2 (by decide) ?_
  refine behR (runVP (As := [.int 0, .int 1]) (rest := []) ⟨hx, hb, hml, hown, ht⟩ (sX10_askRound_0 l G cs adm qm Fm Am Bm Dm hIm qms Fms Ams Bms Dms hIms qmh Fmh Amh Bmh Dmh hImh qr0 Fr0 Ar0 Br0 Dr0 hIr0 1 (by decide)) okV_RX10_186 ⟨by decide, by decide⟩ hK hP [0, 1, 2, 3, 4, 5, 6, 7, 8, 9, 10, 11, 12, 19, 20] rfl 0 rfl rfl hl.1 rfl (Nat.le_of_ble_eq_true rfl) dX10_gain_3 ⟨by decide, by decide⟩) hP hS hA (fun r1 H locs hr1 hP hS => ?_)
  have kk2 : (0 : Int32).toInt = 0 := by decide
  have kk3 : (1 : Int32).toInt = 1 := by decide
  have hr1 : ((r1.toInt = 0 ∧ (1 : Int32).toInt = 1) ∨ r1.toInt = -2 ∨ r1.toInt = -6) ∧ RWk r1 0 (Br0 0) (-1) ((Fmh 5).toInt - 1) (Fr0 3).toInt := hr1
  refine lv_istore_n (lv' := [(2, .int r1), (0, .ref adm), (1, .int 0)]) hx hb dX10_gain_6 rfl hl (by decide) rfl (fun ls hl => ?_)
  refine lv_iload_n hx hb dX10_gain_7 rfl (lv_at hl 0 rfl) ?_
  refine lv_if_eq (tgt := 16) hx hb dX10_gain_8 (by decide) (fun c4 => ?_) (fun c4 => ?_)
  · have zc4 := eqK rfl (show (0 : Int32).toInt = 0 by decide) c4
    refine lv_aload_n hx hb dX10_gain_16 rfl (lv_at hl 1 rfl) ?_
    refine lv_aload_n hx hb dX10_gain_17 rfl (lv_at hl 1 rfl) ?_
    refine lv_aload_n hx hb dX10_gain_18 rfl (lv_at hl 1 rfl) ?_
    refine getF (v := .ref (qm 5)) hx hb ht hown hK hP iTX10 0 5 rfl rfl (by decide) fl_RX10_41 rfl dX10_gain_19 ?_
    refine lv_iload_n hx hb dX10_gain_22 rfl (lv_at hl 2 rfl) ?_
    refine va_aldq hx hb hK.1 hP 2 5 rfl rfl (show ¬ (_ ∨ _) by decide) dX10_gain_23 ?_
    refine W.eq (g2 := F0 m 24 ls [.ref (qm 20), .ref adm, .ref adm]) rfl ?_
    refine lv_iconst (v := 0) hx hb dX10_gain_24 (by decide) ?_
    refine behDi (wr := ([] : va_W)) (runVD (As := [.ref (qm 20), .int 0]) (rest := [.ref adm]) ⟨hx, hb, hml, hown, ht⟩ (sX10_foundIn l G cs adm qm Fm Am Bm Dm hIm qms Fms Ams Bms Dms hIms qmh Fmh Amh Bmh Dmh hImh qmn Fmn Amn Bmn Dmn hImn qmw Fmw Amw Bmw Dmw hImw (qm 20) qr0 Fr0 Ar0 Br0 Dr0 hIr0 0 (by decide)) okV_RX10_190 ⟨by decide, by decide⟩ hK hP hD [0, 1, 2, 3, 4, 5, 6, 7, 8, 9, 10, 11, 12, 13, 14, 15, 16, 17, 18, 19, 20] rfl (by decide) rfl 0 rfl rfl hl.1 rfl (Nat.le_of_ble_eq_true rfl) dX10_gain_25 ⟨(Nat.le_of_ble_eq_true rfl), (Nat.le_of_ble_eq_true rfl)⟩) hP hD hS hA [0, 1, 2, 3, 4, 5, 6, 7, 8, 9, 10, 11, 12, 13, 14, 15, 16, 17, 18, 19, 20] [] rfl rfl (by decide) (by decide) (fun r9 u H locs hu hP hD hS => ?_)
    obtain ⟨x5, x6, g7, g8⟩ := u
    obtain ⟨r9, rfl⟩ : ∃ z, z = r9 := ⟨_, rfl⟩
    have hr9 := hu
    have hP : va_P G vwCl ((uX10 cs adm qm Fm Am Bm Dm) ++ ((uX8 cs (qm 3) qms Fms Ams Bms Dms) ++ ((uX3 cs (qms 0) qmh Fmh Amh Bmh Dmh) ++ ((uX5 cs (qm 6) qmn Fmn Amn Bmn Dmn) ++ ((uX5 cs (qm 7) qmw (upv 3 x6 (upv 2 x5 Fmw)) (vB 1 g8 (vB 0 g7 Amw)) Bmw Dmw) ++ (uX7 cs (qm 20) qr0 Fr0 Ar0 Br0 Dr0)))))) H := hP.sub [0, 1, 2, 3, 4, 5, 6, 7, 8, 9, 10, 11, 12, 13, 14, 15, 16, 17, 18, 19, 20] rfl
    have hD : va_D A0 ((uX10 cs adm qm Fm Am Bm Dm) ++ ((uX8 cs (qm 3) qms Fms Ams Bms Dms) ++ ((uX3 cs (qms 0) qmh Fmh Amh Bmh Dmh) ++ ((uX5 cs (qm 6) qmn Fmn Amn Bmn Dmn) ++ ((uX5 cs (qm 7) qmw (upv 3 x6 (upv 2 x5 Fmw)) (vB 1 g8 (vB 0 g7 Amw)) Bmw Dmw) ++ (uX7 cs (qm 20) qr0 Fr0 Ar0 Br0 Dr0)))))) := hD.sub [0, 1, 2, 3, 4, 5, 6, 7, 8, 9, 10, 11, 12, 13, 14, 15, 16, 17, 18, 19, 20] (by decide) rfl
    refine lv_aload_n hx hb dX10_gain_28 rfl (lv_at hl 1 rfl) ?_
    refine getF (v := .ref (qm 5)) hx hb ht hown hK hP iTX10 0 5 rfl rfl (by decide) fl_RX10_41 rfl dX10_gain_29 ?_
    refine lv_iload_n hx hb dX10_gain_32 rfl (lv_at hl 2 rfl) ?_
    refine va_aldq hx hb hK.1 hP 2 5 rfl rfl (show ¬ (_ ∨ _) by decide) dX10_gain_33 ?_
    refine W.eq (g2 := F0 m 34 ls [.ref (qm 20), .int r9, .ref adm]) rfl ?_
    refine getF (v := .int (Fr0 3)) hx hb ht hown hK hP iTX7 19 3 rfl rfl (by decide) fl_RX10_194 rfl dX10_gain_34 ?_
    have zf10 : (0 : Int) ≤ (Fr0 3).toInt ∧ (Fr0 3).toInt ≤ 60 := hIr0.1 3
    refine behR (runVP (As := [.int r9, .int (Fr0 3)]) (rest := []) ⟨hx, hb, hml, hown, ht⟩ (sX10_gainOf l G cs adm qm Fm Am Bm Dm hIm qms Fms Ams Bms Dms hIms qmh Fmh Amh Bmh Dmh hImh r9 (Fr0 3) ) okV_RX10_202 ⟨by decide, by decide⟩ hK hP [0, 1, 2, 3, 4, 5, 6, 7, 8, 9, 10, 11, 12] rfl 0 rfl rfl hl.1 rfl (Nat.le_of_ble_eq_true rfl) dX10_gain_37 ⟨by decide, by decide⟩) hP hS hA (fun r11 H locs hr11 hP hS => ?_)
    exact retDi (x5, x6, g7, g8) hx hb hr hlk hP hD hS dX10_gain_40 (trivial) (Nat.le_of_ble_eq_true rfl) (Nat.le_of_ble_eq_true rfl)
  · have zc4 := neK rfl (show (0 : Int32).toInt = 0 by decide) c4
    refine lv_iload_n hx hb dX10_gain_11 rfl (lv_at hl 0 rfl) ?_
    refine lv_ldc hx hb hown (ht _ ki_RX10_201) dX10_gain_12 ?_
    refine lv_imul hx hb dX10_gain_14 ?_
    refine lv_topi (fun v12 ev12 => ?_)
    have tv12 : v12.toInt = r1.toInt * 1000000 := by rw [ev12]; exact mulT rfl (show (1000000 : Int32).toInt = 1000000 by decide) (by omega)
    exact retDi ((Fmw 2), (Fmw 3), (Amw 0), (Amw 1)) hx hb hr hlk hP hD hS dX10_gain_15 (trivial) (Nat.le_of_ble_eq_true rfl) (Nat.le_of_ble_eq_true rfl)

set_option maxRecDepth 100000 in
set_option maxHeartbeats 16000000 in
theorem sX10_gain_1 (l : Launch) (G : va_G) (cs : Nat → ClassId) (adm : Nat) (qm : Nat → Nat) (Fm : Nat → Int32) (Am : Nat → Nat → Int32) (Bm : Nat → Nat → Int64) (Dm : Int64) (hIm : IX10 Fm Am) (qms : Nat → Nat) (Fms : Nat → Int32) (Ams : Nat → Nat → Int32) (Bms : Nat → Nat → Int64) (Dms : Int64) (hIms : IX8 Fms Ams) (qmh : Nat → Nat) (Fmh : Nat → Int32) (Amh : Nat → Nat → Int32) (Bmh : Nat → Nat → Int64) (Dmh : Int64) (hImh : IX3 Fmh Amh) (qmn : Nat → Nat) (Fmn : Nat → Int32) (Amn : Nat → Nat → Int32) (Bmn : Nat → Nat → Int64) (Dmn : Int64) (hImn : IX5 Fmn Amn) (qmw : Nat → Nat) (Fmw : Nat → Int32) (Amw : Nat → Nat → Int32) (Bmw : Nat → Nat → Int64) (Dmw : Int64) (hImw : IX5 Fmw Amw) (qr1 : Nat → Nat) (Fr1 : Nat → Int32) (Ar1 : Nat → Nat → Int32) (Br1 : Nat → Nat → Int64) (Dr1 : Int64) (hIr1 : IX7 Fr1 Ar1) : ∀ sz : Nat, Met l yX10_gain (wk yX10_gain cX10_gain 3 (some .int)) (rmk 5 0 0) (PreD G (TY cs) [.ref adm, .int 1] ((uX10 cs adm qm Fm Am Bm Dm) ++ ((uX8 cs (qm 3) qms Fms Ams Bms Dms) ++ ((uX3 cs (qms 0) qmh Fmh Amh Bmh Dmh) ++ ((uX5 cs (qm 6) qmn Fmn Amn Bmn Dmn) ++ ((uX5 cs (qm 7) qmw Fmw Amw Bmw Dmw) ++ (uX7 cs (qm 21) qr1 Fr1 Ar1 Br1 Dr1)))))) sz) ((QDi G (fun (r : Int32) (u : Int32 × Int32 × (Nat → Int32) × (Nat → Int32)) => True) (fun u : Int32 × Int32 × (Nat → Int32) × (Nat → Int32) => ((uX10 cs adm qm Fm Am Bm Dm) ++ ((uX8 cs (qm 3) qms Fms Ams Bms Dms) ++ ((uX3 cs (qms 0) qmh Fmh Amh Bmh Dmh) ++ ((uX5 cs (qm 6) qmn Fmn Amn Bmn Dmn) ++ ((wX5 cs (qm 7) qmw (upd (upd Fmw 2 u.1) 3 u.2.1) (vA (vA Amw 0 u.2.2.1) 1 u.2.2.2) Bmw Dmw) ++ (uX7 cs (qm 21) qr1 Fr1 Ar1 Br1 Dr1)))))))) (va_A ((uX10 cs adm qm Fm Am Bm Dm) ++ ((uX8 cs (qm 3) qms Fms Ams Bms Dms) ++ ((uX3 cs (qms 0) qmh Fmh Amh Bmh Dmh) ++ ((uX5 cs (qm 6) qmn Fmn Amn Bmn Dmn) ++ ((uX5 cs (qm 7) qmw Fmw Amw Bmw Dmw) ++ (uX7 cs (qm 21) qr1 Fr1 Ar1 Br1 Dr1)))))) sz)) 0 0 (va_A ((uX10 cs adm qm Fm Am Bm Dm) ++ ((uX8 cs (qm 3) qms Fms Ams Bms Dms) ++ ((uX3 cs (qms 0) qmh Fmh Amh Bmh Dmh) ++ ((uX5 cs (qm 6) qmn Fmn Amn Bmn Dmn) ++ ((uX5 cs (qm 7) qmw Fmw Amw Bmw Dmw) ++ (uX7 cs (qm 21) qr1 Fr1 Ar1 Br1 Dr1)))))) sz) := by
  refine mkD (Qc := (QDi G (fun (r : Int32) (u : Int32 × Int32 × (Nat → Int32) × (Nat → Int32)) => True) (fun u : Int32 × Int32 × (Nat → Int32) × (Nat → Int32) => ((uX10 cs adm qm Fm Am Bm Dm) ++ ((uX8 cs (qm 3) qms Fms Ams Bms Dms) ++ ((uX3 cs (qms 0) qmh Fmh Amh Bmh Dmh) ++ ((uX5 cs (qm 6) qmn Fmn Amn Bmn Dmn) ++ ((wX5 cs (qm 7) qmw (upd (upd Fmw 2 u.1) 3 u.2.1) (vA (vA Amw 0 u.2.2.1) 1 u.2.2.2) Bmw Dmw) ++ (uX7 cs (qm 21) qr1 Fr1 Ar1 Br1 Dr1))))))))) (by decide) (by simp [lg_sl, Value.category]) ?_
  intro p e s m args below meth c ls A0 hx hb hml hr hlk hown hmn ht hK hP hD hS hA hl
  have hl : lv_has ls 3 [(0, .ref adm), (1, .int 1)] := hl
  refine lv_aload_n hx hb dX10_gain_0 rfl (lv_at hl 0 rfl) ?_
  refine lv_iload_n hx hb dX10_gain_1 rfl (lv_at hl 1 rfl) ?_
  refine lv_iconst (v := 1) hx hb dX10_gain_2 (by decide) ?_
  refine behR (runVP (As := [.int 1, .int 1]) (rest := []) ⟨hx, hb, hml, hown, ht⟩ (sX10_askRound_1 l G cs adm qm Fm Am Bm Dm hIm qms Fms Ams Bms Dms hIms qmh Fmh Amh Bmh Dmh hImh qr1 Fr1 Ar1 Br1 Dr1 hIr1 1 (by decide)) okV_RX10_186 ⟨by decide, by decide⟩ hK hP [0, 1, 2, 3, 4, 5, 6, 7, 8, 9, 10, 11, 12, 19, 20] rfl 0 rfl rfl hl.1 rfl (Nat.le_of_ble_eq_true rfl) dX10_gain_3 ⟨by decide, by decide⟩) hP hS hA (fun r1 H locs hr1 hP hS => ?_)
  have kk2 : (1 : Int32).toInt = 1 := by decide
  have kk3 : (1 : Int32).toInt = 1 := by decide
  have hr1 : ((r1.toInt = 0 ∧ (1 : Int32).toInt = 1) ∨ r1.toInt = -2 ∨ r1.toInt = -6) ∧ RWk r1 0 (Br1 0) (-1) ((Fmh 5).toInt - 1) (Fr1 3).toInt := hr1
  refine lv_istore_n (lv' := [(2, .int r1), (0, .ref adm), (1, .int 1)]) hx hb dX10_gain_6 rfl hl (by decide) rfl (fun ls hl => ?_)
  refine lv_iload_n hx hb dX10_gain_7 rfl (lv_at hl 0 rfl) ?_
  refine lv_if_eq (tgt := 16) hx hb dX10_gain_8 (by decide) (fun c4 => ?_) (fun c4 => ?_)
  · have zc4 := eqK rfl (show (0 : Int32).toInt = 0 by decide) c4
    refine lv_aload_n hx hb dX10_gain_16 rfl (lv_at hl 1 rfl) ?_
    refine lv_aload_n hx hb dX10_gain_17 rfl (lv_at hl 1 rfl) ?_
    refine lv_aload_n hx hb dX10_gain_18 rfl (lv_at hl 1 rfl) ?_
    refine getF (v := .ref (qm 5)) hx hb ht hown hK hP iTX10 0 5 rfl rfl (by decide) fl_RX10_41 rfl dX10_gain_19 ?_
    refine lv_iload_n hx hb dX10_gain_22 rfl (lv_at hl 2 rfl) ?_
    refine va_aldq hx hb hK.1 hP 2 5 rfl rfl (show ¬ (_ ∨ _) by decide) dX10_gain_23 ?_
    refine W.eq (g2 := F0 m 24 ls [.ref (qm 21), .ref adm, .ref adm]) rfl ?_
    refine lv_iconst (v := 0) hx hb dX10_gain_24 (by decide) ?_
    refine behDi (wr := ([] : va_W)) (runVD (As := [.ref (qm 21), .int 0]) (rest := [.ref adm]) ⟨hx, hb, hml, hown, ht⟩ (sX10_foundIn l G cs adm qm Fm Am Bm Dm hIm qms Fms Ams Bms Dms hIms qmh Fmh Amh Bmh Dmh hImh qmn Fmn Amn Bmn Dmn hImn qmw Fmw Amw Bmw Dmw hImw (qm 21) qr1 Fr1 Ar1 Br1 Dr1 hIr1 0 (by decide)) okV_RX10_190 ⟨by decide, by decide⟩ hK hP hD [0, 1, 2, 3, 4, 5, 6, 7, 8, 9, 10, 11, 12, 13, 14, 15, 16, 17, 18, 19, 20] rfl (by decide) rfl 0 rfl rfl hl.1 rfl (Nat.le_of_ble_eq_true rfl) dX10_gain_25 ⟨(Nat.le_of_ble_eq_true rfl), (Nat.le_of_ble_eq_true rfl)⟩) hP hD hS hA [0, 1, 2, 3, 4, 5, 6, 7, 8, 9, 10, 11, 12, 13, 14, 15, 16, 17, 18, 19, 20] [] rfl rfl (by decide) (by decide) (fun r9 u H locs hu hP hD hS => ?_)
    obtain ⟨x5, x6, g7, g8⟩ := u
    obtain ⟨r9, rfl⟩ : ∃ z, z = r9 := ⟨_, rfl⟩
    have hr9 := hu
    have hP : va_P G vwCl ((uX10 cs adm qm Fm Am Bm Dm) ++ ((uX8 cs (qm 3) qms Fms Ams Bms Dms) ++ ((uX3 cs (qms 0) qmh Fmh Amh Bmh Dmh) ++ ((uX5 cs (qm 6) qmn Fmn Amn Bmn Dmn) ++ ((uX5 cs (qm 7) qmw (upv 3 x6 (upv 2 x5 Fmw)) (vB 1 g8 (vB 0 g7 Amw)) Bmw Dmw) ++ (uX7 cs (qm 21) qr1 Fr1 Ar1 Br1 Dr1)))))) H := hP.sub [0, 1, 2, 3, 4, 5, 6, 7, 8, 9, 10, 11, 12, 13, 14, 15, 16, 17, 18, 19, 20] rfl
    have hD : va_D A0 ((uX10 cs adm qm Fm Am Bm Dm) ++ ((uX8 cs (qm 3) qms Fms Ams Bms Dms) ++ ((uX3 cs (qms 0) qmh Fmh Amh Bmh Dmh) ++ ((uX5 cs (qm 6) qmn Fmn Amn Bmn Dmn) ++ ((uX5 cs (qm 7) qmw (upv 3 x6 (upv 2 x5 Fmw)) (vB 1 g8 (vB 0 g7 Amw)) Bmw Dmw) ++ (uX7 cs (qm 21) qr1 Fr1 Ar1 Br1 Dr1)))))) := hD.sub [0, 1, 2, 3, 4, 5, 6, 7, 8, 9, 10, 11, 12, 13, 14, 15, 16, 17, 18, 19, 20] (by decide) rfl
    refine lv_aload_n hx hb dX10_gain_28 rfl (lv_at hl 1 rfl) ?_
    refine getF (v := .ref (qm 5)) hx hb ht hown hK hP iTX10 0 5 rfl rfl (by decide) fl_RX10_41 rfl dX10_gain_29 ?_
    refine lv_iload_n hx hb dX10_gain_32 rfl (lv_at hl 2 rfl) ?_
    refine va_aldq hx hb hK.1 hP 2 5 rfl rfl (show ¬ (_ ∨ _) by decide) dX10_gain_33 ?_
    refine W.eq (g2 := F0 m 34 ls [.ref (qm 21), .int r9, .ref adm]) rfl ?_
    refine getF (v := .int (Fr1 3)) hx hb ht hown hK hP iTX7 19 3 rfl rfl (by decide) fl_RX10_194 rfl dX10_gain_34 ?_
    have zf10 : (0 : Int) ≤ (Fr1 3).toInt ∧ (Fr1 3).toInt ≤ 60 := hIr1.1 3
    refine behR (runVP (As := [.int r9, .int (Fr1 3)]) (rest := []) ⟨hx, hb, hml, hown, ht⟩ (sX10_gainOf l G cs adm qm Fm Am Bm Dm hIm qms Fms Ams Bms Dms hIms qmh Fmh Amh Bmh Dmh hImh r9 (Fr1 3) ) okV_RX10_202 ⟨by decide, by decide⟩ hK hP [0, 1, 2, 3, 4, 5, 6, 7, 8, 9, 10, 11, 12] rfl 0 rfl rfl hl.1 rfl (Nat.le_of_ble_eq_true rfl) dX10_gain_37 ⟨by decide, by decide⟩) hP hS hA (fun r11 H locs hr11 hP hS => ?_)
    exact retDi (x5, x6, g7, g8) hx hb hr hlk hP hD hS dX10_gain_40 (trivial) (Nat.le_of_ble_eq_true rfl) (Nat.le_of_ble_eq_true rfl)
  · have zc4 := neK rfl (show (0 : Int32).toInt = 0 by decide) c4
    refine lv_iload_n hx hb dX10_gain_11 rfl (lv_at hl 0 rfl) ?_
    refine lv_ldc hx hb hown (ht _ ki_RX10_201) dX10_gain_12 ?_
    refine lv_imul hx hb dX10_gain_14 ?_
    refine lv_topi (fun v12 ev12 => ?_)
    have tv12 : v12.toInt = r1.toInt * 1000000 := by rw [ev12]; exact mulT rfl (show (1000000 : Int32).toInt = 1000000 by decide) (by omega)
    exact retDi ((Fmw 2), (Fmw 3), (Amw 0), (Amw 1)) hx hb hr hlk hP hD hS dX10_gain_15 (trivial) (Nat.le_of_ble_eq_true rfl) (Nat.le_of_ble_eq_true rfl)

set_option maxRecDepth 100000 in
set_option maxHeartbeats 16000000 in
theorem sX10_gain_2 (l : Launch) (G : va_G) (cs : Nat → ClassId) (adm : Nat) (qm : Nat → Nat) (Fm : Nat → Int32) (Am : Nat → Nat → Int32) (Bm : Nat → Nat → Int64) (Dm : Int64) (hIm : IX10 Fm Am) (qms : Nat → Nat) (Fms : Nat → Int32) (Ams : Nat → Nat → Int32) (Bms : Nat → Nat → Int64) (Dms : Int64) (hIms : IX8 Fms Ams) (qmh : Nat → Nat) (Fmh : Nat → Int32) (Amh : Nat → Nat → Int32) (Bmh : Nat → Nat → Int64) (Dmh : Int64) (hImh : IX3 Fmh Amh) (qmn : Nat → Nat) (Fmn : Nat → Int32) (Amn : Nat → Nat → Int32) (Bmn : Nat → Nat → Int64) (Dmn : Int64) (hImn : IX5 Fmn Amn) (qmw : Nat → Nat) (Fmw : Nat → Int32) (Amw : Nat → Nat → Int32) (Bmw : Nat → Nat → Int64) (Dmw : Int64) (hImw : IX5 Fmw Amw) (qr2 : Nat → Nat) (Fr2 : Nat → Int32) (Ar2 : Nat → Nat → Int32) (Br2 : Nat → Nat → Int64) (Dr2 : Int64) (hIr2 : IX7 Fr2 Ar2) : ∀ sz : Nat, Met l yX10_gain (wk yX10_gain cX10_gain 3 (some .int)) (rmk 5 0 0) (PreD G (TY cs) [.ref adm, .int 2] ((uX10 cs adm qm Fm Am Bm Dm) ++ ((uX8 cs (qm 3) qms Fms Ams Bms Dms) ++ ((uX3 cs (qms 0) qmh Fmh Amh Bmh Dmh) ++ ((uX5 cs (qm 6) qmn Fmn Amn Bmn Dmn) ++ ((uX5 cs (qm 7) qmw Fmw Amw Bmw Dmw) ++ (uX7 cs (qm 22) qr2 Fr2 Ar2 Br2 Dr2)))))) sz) ((QDi G (fun (r : Int32) (u : Int32 × Int32 × (Nat → Int32) × (Nat → Int32)) => True) (fun u : Int32 × Int32 × (Nat → Int32) × (Nat → Int32) => ((uX10 cs adm qm Fm Am Bm Dm) ++ ((uX8 cs (qm 3) qms Fms Ams Bms Dms) ++ ((uX3 cs (qms 0) qmh Fmh Amh Bmh Dmh) ++ ((uX5 cs (qm 6) qmn Fmn Amn Bmn Dmn) ++ ((wX5 cs (qm 7) qmw (upd (upd Fmw 2 u.1) 3 u.2.1) (vA (vA Amw 0 u.2.2.1) 1 u.2.2.2) Bmw Dmw) ++ (uX7 cs (qm 22) qr2 Fr2 Ar2 Br2 Dr2)))))))) (va_A ((uX10 cs adm qm Fm Am Bm Dm) ++ ((uX8 cs (qm 3) qms Fms Ams Bms Dms) ++ ((uX3 cs (qms 0) qmh Fmh Amh Bmh Dmh) ++ ((uX5 cs (qm 6) qmn Fmn Amn Bmn Dmn) ++ ((uX5 cs (qm 7) qmw Fmw Amw Bmw Dmw) ++ (uX7 cs (qm 22) qr2 Fr2 Ar2 Br2 Dr2)))))) sz)) 0 0 (va_A ((uX10 cs adm qm Fm Am Bm Dm) ++ ((uX8 cs (qm 3) qms Fms Ams Bms Dms) ++ ((uX3 cs (qms 0) qmh Fmh Amh Bmh Dmh) ++ ((uX5 cs (qm 6) qmn Fmn Amn Bmn Dmn) ++ ((uX5 cs (qm 7) qmw Fmw Amw Bmw Dmw) ++ (uX7 cs (qm 22) qr2 Fr2 Ar2 Br2 Dr2)))))) sz) := by
  refine mkD (Qc := (QDi G (fun (r : Int32) (u : Int32 × Int32 × (Nat → Int32) × (Nat → Int32)) => True) (fun u : Int32 × Int32 × (Nat → Int32) × (Nat → Int32) => ((uX10 cs adm qm Fm Am Bm Dm) ++ ((uX8 cs (qm 3) qms Fms Ams Bms Dms) ++ ((uX3 cs (qms 0) qmh Fmh Amh Bmh Dmh) ++ ((uX5 cs (qm 6) qmn Fmn Amn Bmn Dmn) ++ ((wX5 cs (qm 7) qmw (upd (upd Fmw 2 u.1) 3 u.2.1) (vA (vA Amw 0 u.2.2.1) 1 u.2.2.2) Bmw Dmw) ++ (uX7 cs (qm 22) qr2 Fr2 Ar2 Br2 Dr2))))))))) (by decide) (by simp [lg_sl, Value.category]) ?_
  intro p e s m args below meth c ls A0 hx hb hml hr hlk hown hmn ht hK hP hD hS hA hl
  have hl : lv_has ls 3 [(0, .ref adm), (1, .int 2)] := hl
  refine lv_aload_n hx hb dX10_gain_0 rfl (lv_at hl 0 rfl) ?_
  refine lv_iload_n hx hb dX10_gain_1 rfl (lv_at hl 1 rfl) ?_
  refine lv_iconst (v := 1) hx hb dX10_gain_2 (by decide) ?_
  refine behR (runVP (As := [.int 2, .int 1]) (rest := []) ⟨hx, hb, hml, hown, ht⟩ (sX10_askRound_2 l G cs adm qm Fm Am Bm Dm hIm qms Fms Ams Bms Dms hIms qmh Fmh Amh Bmh Dmh hImh qr2 Fr2 Ar2 Br2 Dr2 hIr2 1 (by decide)) okV_RX10_186 ⟨by decide, by decide⟩ hK hP [0, 1, 2, 3, 4, 5, 6, 7, 8, 9, 10, 11, 12, 19, 20] rfl 0 rfl rfl hl.1 rfl (Nat.le_of_ble_eq_true rfl) dX10_gain_3 ⟨by decide, by decide⟩) hP hS hA (fun r1 H locs hr1 hP hS => ?_)
  have kk2 : (2 : Int32).toInt = 2 := by decide
  have kk3 : (1 : Int32).toInt = 1 := by decide
  have hr1 : ((r1.toInt = 0 ∧ (1 : Int32).toInt = 1) ∨ r1.toInt = -2 ∨ r1.toInt = -6) ∧ RWk r1 0 (Br2 0) (-1) ((Fmh 5).toInt - 1) (Fr2 3).toInt := hr1
  refine lv_istore_n (lv' := [(2, .int r1), (0, .ref adm), (1, .int 2)]) hx hb dX10_gain_6 rfl hl (by decide) rfl (fun ls hl => ?_)
  refine lv_iload_n hx hb dX10_gain_7 rfl (lv_at hl 0 rfl) ?_
  refine lv_if_eq (tgt := 16) hx hb dX10_gain_8 (by decide) (fun c4 => ?_) (fun c4 => ?_)
  · have zc4 := eqK rfl (show (0 : Int32).toInt = 0 by decide) c4
    refine lv_aload_n hx hb dX10_gain_16 rfl (lv_at hl 1 rfl) ?_
    refine lv_aload_n hx hb dX10_gain_17 rfl (lv_at hl 1 rfl) ?_
    refine lv_aload_n hx hb dX10_gain_18 rfl (lv_at hl 1 rfl) ?_
    refine getF (v := .ref (qm 5)) hx hb ht hown hK hP iTX10 0 5 rfl rfl (by decide) fl_RX10_41 rfl dX10_gain_19 ?_
    refine lv_iload_n hx hb dX10_gain_22 rfl (lv_at hl 2 rfl) ?_
    refine va_aldq hx hb hK.1 hP 2 5 rfl rfl (show ¬ (_ ∨ _) by decide) dX10_gain_23 ?_
    refine W.eq (g2 := F0 m 24 ls [.ref (qm 22), .ref adm, .ref adm]) rfl ?_
    refine lv_iconst (v := 0) hx hb dX10_gain_24 (by decide) ?_
    refine behDi (wr := ([] : va_W)) (runVD (As := [.ref (qm 22), .int 0]) (rest := [.ref adm]) ⟨hx, hb, hml, hown, ht⟩ (sX10_foundIn l G cs adm qm Fm Am Bm Dm hIm qms Fms Ams Bms Dms hIms qmh Fmh Amh Bmh Dmh hImh qmn Fmn Amn Bmn Dmn hImn qmw Fmw Amw Bmw Dmw hImw (qm 22) qr2 Fr2 Ar2 Br2 Dr2 hIr2 0 (by decide)) okV_RX10_190 ⟨by decide, by decide⟩ hK hP hD [0, 1, 2, 3, 4, 5, 6, 7, 8, 9, 10, 11, 12, 13, 14, 15, 16, 17, 18, 19, 20] rfl (by decide) rfl 0 rfl rfl hl.1 rfl (Nat.le_of_ble_eq_true rfl) dX10_gain_25 ⟨(Nat.le_of_ble_eq_true rfl), (Nat.le_of_ble_eq_true rfl)⟩) hP hD hS hA [0, 1, 2, 3, 4, 5, 6, 7, 8, 9, 10, 11, 12, 13, 14, 15, 16, 17, 18, 19, 20] [] rfl rfl (by decide) (by decide) (fun r9 u H locs hu hP hD hS => ?_)
    obtain ⟨x5, x6, g7, g8⟩ := u
    obtain ⟨r9, rfl⟩ : ∃ z, z = r9 := ⟨_, rfl⟩
    have hr9 := hu
    have hP : va_P G vwCl ((uX10 cs adm qm Fm Am Bm Dm) ++ ((uX8 cs (qm 3) qms Fms Ams Bms Dms) ++ ((uX3 cs (qms 0) qmh Fmh Amh Bmh Dmh) ++ ((uX5 cs (qm 6) qmn Fmn Amn Bmn Dmn) ++ ((uX5 cs (qm 7) qmw (upv 3 x6 (upv 2 x5 Fmw)) (vB 1 g8 (vB 0 g7 Amw)) Bmw Dmw) ++ (uX7 cs (qm 22) qr2 Fr2 Ar2 Br2 Dr2)))))) H := hP.sub [0, 1, 2, 3, 4, 5, 6, 7, 8, 9, 10, 11, 12, 13, 14, 15, 16, 17, 18, 19, 20] rfl
    have hD : va_D A0 ((uX10 cs adm qm Fm Am Bm Dm) ++ ((uX8 cs (qm 3) qms Fms Ams Bms Dms) ++ ((uX3 cs (qms 0) qmh Fmh Amh Bmh Dmh) ++ ((uX5 cs (qm 6) qmn Fmn Amn Bmn Dmn) ++ ((uX5 cs (qm 7) qmw (upv 3 x6 (upv 2 x5 Fmw)) (vB 1 g8 (vB 0 g7 Amw)) Bmw Dmw) ++ (uX7 cs (qm 22) qr2 Fr2 Ar2 Br2 Dr2)))))) := hD.sub [0, 1, 2, 3, 4, 5, 6, 7, 8, 9, 10, 11, 12, 13, 14, 15, 16, 17, 18, 19, 20] (by decide) rfl
    refine lv_aload_n hx hb dX10_gain_28 rfl (lv_at hl 1 rfl) ?_
    refine getF (v := .ref (qm 5)) hx hb ht hown hK hP iTX10 0 5 rfl rfl (by decide) fl_RX10_41 rfl dX10_gain_29 ?_
    refine lv_iload_n hx hb dX10_gain_32 rfl (lv_at hl 2 rfl) ?_
    refine va_aldq hx hb hK.1 hP 2 5 rfl rfl (show ¬ (_ ∨ _) by decide) dX10_gain_33 ?_
    refine W.eq (g2 := F0 m 34 ls [.ref (qm 22), .int r9, .ref adm]) rfl ?_
    refine getF (v := .int (Fr2 3)) hx hb ht hown hK hP iTX7 19 3 rfl rfl (by decide) fl_RX10_194 rfl dX10_gain_34 ?_
    have zf10 : (0 : Int) ≤ (Fr2 3).toInt ∧ (Fr2 3).toInt ≤ 60 := hIr2.1 3
    refine behR (runVP (As := [.int r9, .int (Fr2 3)]) (rest := []) ⟨hx, hb, hml, hown, ht⟩ (sX10_gainOf l G cs adm qm Fm Am Bm Dm hIm qms Fms Ams Bms Dms hIms qmh Fmh Amh Bmh Dmh hImh r9 (Fr2 3) ) okV_RX10_202 ⟨by decide, by decide⟩ hK hP [0, 1, 2, 3, 4, 5, 6, 7, 8, 9, 10, 11, 12] rfl 0 rfl rfl hl.1 rfl (Nat.le_of_ble_eq_true rfl) dX10_gain_37 ⟨by decide, by decide⟩) hP hS hA (fun r11 H locs hr11 hP hS => ?_)
    exact retDi (x5, x6, g7, g8) hx hb hr hlk hP hD hS dX10_gain_40 (trivial) (Nat.le_of_ble_eq_true rfl) (Nat.le_of_ble_eq_true rfl)
  · have zc4 := neK rfl (show (0 : Int32).toInt = 0 by decide) c4
    refine lv_iload_n hx hb dX10_gain_11 rfl (lv_at hl 0 rfl) ?_
    refine lv_ldc hx hb hown (ht _ ki_RX10_201) dX10_gain_12 ?_
    refine lv_imul hx hb dX10_gain_14 ?_
    refine lv_topi (fun v12 ev12 => ?_)
    have tv12 : v12.toInt = r1.toInt * 1000000 := by rw [ev12]; exact mulT rfl (show (1000000 : Int32).toInt = 1000000 by decide) (by omega)
    exact retDi ((Fmw 2), (Fmw 3), (Amw 0), (Amw 1)) hx hb hr hlk hP hD hS dX10_gain_15 (trivial) (Nat.le_of_ble_eq_true rfl) (Nat.le_of_ble_eq_true rfl)

set_option maxRecDepth 100000 in
set_option maxHeartbeats 16000000 in
theorem sX10_gain_3 (l : Launch) (G : va_G) (cs : Nat → ClassId) (adm : Nat) (qm : Nat → Nat) (Fm : Nat → Int32) (Am : Nat → Nat → Int32) (Bm : Nat → Nat → Int64) (Dm : Int64) (hIm : IX10 Fm Am) (qms : Nat → Nat) (Fms : Nat → Int32) (Ams : Nat → Nat → Int32) (Bms : Nat → Nat → Int64) (Dms : Int64) (hIms : IX8 Fms Ams) (qmh : Nat → Nat) (Fmh : Nat → Int32) (Amh : Nat → Nat → Int32) (Bmh : Nat → Nat → Int64) (Dmh : Int64) (hImh : IX3 Fmh Amh) (qmn : Nat → Nat) (Fmn : Nat → Int32) (Amn : Nat → Nat → Int32) (Bmn : Nat → Nat → Int64) (Dmn : Int64) (hImn : IX5 Fmn Amn) (qmw : Nat → Nat) (Fmw : Nat → Int32) (Amw : Nat → Nat → Int32) (Bmw : Nat → Nat → Int64) (Dmw : Int64) (hImw : IX5 Fmw Amw) (qr3 : Nat → Nat) (Fr3 : Nat → Int32) (Ar3 : Nat → Nat → Int32) (Br3 : Nat → Nat → Int64) (Dr3 : Int64) (hIr3 : IX7 Fr3 Ar3) : ∀ sz : Nat, Met l yX10_gain (wk yX10_gain cX10_gain 3 (some .int)) (rmk 5 0 0) (PreD G (TY cs) [.ref adm, .int 3] ((uX10 cs adm qm Fm Am Bm Dm) ++ ((uX8 cs (qm 3) qms Fms Ams Bms Dms) ++ ((uX3 cs (qms 0) qmh Fmh Amh Bmh Dmh) ++ ((uX5 cs (qm 6) qmn Fmn Amn Bmn Dmn) ++ ((uX5 cs (qm 7) qmw Fmw Amw Bmw Dmw) ++ (uX7 cs (qm 23) qr3 Fr3 Ar3 Br3 Dr3)))))) sz) ((QDi G (fun (r : Int32) (u : Int32 × Int32 × (Nat → Int32) × (Nat → Int32)) => True) (fun u : Int32 × Int32 × (Nat → Int32) × (Nat → Int32) => ((uX10 cs adm qm Fm Am Bm Dm) ++ ((uX8 cs (qm 3) qms Fms Ams Bms Dms) ++ ((uX3 cs (qms 0) qmh Fmh Amh Bmh Dmh) ++ ((uX5 cs (qm 6) qmn Fmn Amn Bmn Dmn) ++ ((wX5 cs (qm 7) qmw (upd (upd Fmw 2 u.1) 3 u.2.1) (vA (vA Amw 0 u.2.2.1) 1 u.2.2.2) Bmw Dmw) ++ (uX7 cs (qm 23) qr3 Fr3 Ar3 Br3 Dr3)))))))) (va_A ((uX10 cs adm qm Fm Am Bm Dm) ++ ((uX8 cs (qm 3) qms Fms Ams Bms Dms) ++ ((uX3 cs (qms 0) qmh Fmh Amh Bmh Dmh) ++ ((uX5 cs (qm 6) qmn Fmn Amn Bmn Dmn) ++ ((uX5 cs (qm 7) qmw Fmw Amw Bmw Dmw) ++ (uX7 cs (qm 23) qr3 Fr3 Ar3 Br3 Dr3)))))) sz)) 0 0 (va_A ((uX10 cs adm qm Fm Am Bm Dm) ++ ((uX8 cs (qm 3) qms Fms Ams Bms Dms) ++ ((uX3 cs (qms 0) qmh Fmh Amh Bmh Dmh) ++ ((uX5 cs (qm 6) qmn Fmn Amn Bmn Dmn) ++ ((uX5 cs (qm 7) qmw Fmw Amw Bmw Dmw) ++ (uX7 cs (qm 23) qr3 Fr3 Ar3 Br3 Dr3)))))) sz) := by
  refine mkD (Qc := (QDi G (fun (r : Int32) (u : Int32 × Int32 × (Nat → Int32) × (Nat → Int32)) => True) (fun u : Int32 × Int32 × (Nat → Int32) × (Nat → Int32) => ((uX10 cs adm qm Fm Am Bm Dm) ++ ((uX8 cs (qm 3) qms Fms Ams Bms Dms) ++ ((uX3 cs (qms 0) qmh Fmh Amh Bmh Dmh) ++ ((uX5 cs (qm 6) qmn Fmn Amn Bmn Dmn) ++ ((wX5 cs (qm 7) qmw (upd (upd Fmw 2 u.1) 3 u.2.1) (vA (vA Amw 0 u.2.2.1) 1 u.2.2.2) Bmw Dmw) ++ (uX7 cs (qm 23) qr3 Fr3 Ar3 Br3 Dr3))))))))) (by decide) (by simp [lg_sl, Value.category]) ?_
  intro p e s m args below meth c ls A0 hx hb hml hr hlk hown hmn ht hK hP hD hS hA hl
  have hl : lv_has ls 3 [(0, .ref adm), (1, .int 3)] := hl
  refine lv_aload_n hx hb dX10_gain_0 rfl (lv_at hl 0 rfl) ?_
  refine lv_iload_n hx hb dX10_gain_1 rfl (lv_at hl 1 rfl) ?_
  refine lv_iconst (v := 1) hx hb dX10_gain_2 (by decide) ?_
  refine behR (runVP (As := [.int 3, .int 1]) (rest := []) ⟨hx, hb, hml, hown, ht⟩ (sX10_askRound_3 l G cs adm qm Fm Am Bm Dm hIm qms Fms Ams Bms Dms hIms qmh Fmh Amh Bmh Dmh hImh qr3 Fr3 Ar3 Br3 Dr3 hIr3 1 (by decide)) okV_RX10_186 ⟨by decide, by decide⟩ hK hP [0, 1, 2, 3, 4, 5, 6, 7, 8, 9, 10, 11, 12, 19, 20] rfl 0 rfl rfl hl.1 rfl (Nat.le_of_ble_eq_true rfl) dX10_gain_3 ⟨by decide, by decide⟩) hP hS hA (fun r1 H locs hr1 hP hS => ?_)
  have kk2 : (3 : Int32).toInt = 3 := by decide
  have kk3 : (1 : Int32).toInt = 1 := by decide
  have hr1 : ((r1.toInt = 0 ∧ (1 : Int32).toInt = 1) ∨ r1.toInt = -2 ∨ r1.toInt = -6) ∧ RWk r1 0 (Br3 0) (-1) ((Fmh 5).toInt - 1) (Fr3 3).toInt := hr1
  refine lv_istore_n (lv' := [(2, .int r1), (0, .ref adm), (1, .int 3)]) hx hb dX10_gain_6 rfl hl (by decide) rfl (fun ls hl => ?_)
  refine lv_iload_n hx hb dX10_gain_7 rfl (lv_at hl 0 rfl) ?_
  refine lv_if_eq (tgt := 16) hx hb dX10_gain_8 (by decide) (fun c4 => ?_) (fun c4 => ?_)
  · have zc4 := eqK rfl (show (0 : Int32).toInt = 0 by decide) c4
    refine lv_aload_n hx hb dX10_gain_16 rfl (lv_at hl 1 rfl) ?_
    refine lv_aload_n hx hb dX10_gain_17 rfl (lv_at hl 1 rfl) ?_
    refine lv_aload_n hx hb dX10_gain_18 rfl (lv_at hl 1 rfl) ?_
    refine getF (v := .ref (qm 5)) hx hb ht hown hK hP iTX10 0 5 rfl rfl (by decide) fl_RX10_41 rfl dX10_gain_19 ?_
    refine lv_iload_n hx hb dX10_gain_22 rfl (lv_at hl 2 rfl) ?_
    refine va_aldq hx hb hK.1 hP 2 5 rfl rfl (show ¬ (_ ∨ _) by decide) dX10_gain_23 ?_
    refine W.eq (g2 := F0 m 24 ls [.ref (qm 23), .ref adm, .ref adm]) rfl ?_
    refine lv_iconst (v := 0) hx hb dX10_gain_24 (by decide) ?_
    refine behDi (wr := ([] : va_W)) (runVD (As := [.ref (qm 23), .int 0]) (rest := [.ref adm]) ⟨hx, hb, hml, hown, ht⟩ (sX10_foundIn l G cs adm qm Fm Am Bm Dm hIm qms Fms Ams Bms Dms hIms qmh Fmh Amh Bmh Dmh hImh qmn Fmn Amn Bmn Dmn hImn qmw Fmw Amw Bmw Dmw hImw (qm 23) qr3 Fr3 Ar3 Br3 Dr3 hIr3 0 (by decide)) okV_RX10_190 ⟨by decide, by decide⟩ hK hP hD [0, 1, 2, 3, 4, 5, 6, 7, 8, 9, 10, 11, 12, 13, 14, 15, 16, 17, 18, 19, 20] rfl (by decide) rfl 0 rfl rfl hl.1 rfl (Nat.le_of_ble_eq_true rfl) dX10_gain_25 ⟨(Nat.le_of_ble_eq_true rfl), (Nat.le_of_ble_eq_true rfl)⟩) hP hD hS hA [0, 1, 2, 3, 4, 5, 6, 7, 8, 9, 10, 11, 12, 13, 14, 15, 16, 17, 18, 19, 20] [] rfl rfl (by decide) (by decide) (fun r9 u H locs hu hP hD hS => ?_)
    obtain ⟨x5, x6, g7, g8⟩ := u
    obtain ⟨r9, rfl⟩ : ∃ z, z = r9 := ⟨_, rfl⟩
    have hr9 := hu
    have hP : va_P G vwCl ((uX10 cs adm qm Fm Am Bm Dm) ++ ((uX8 cs (qm 3) qms Fms Ams Bms Dms) ++ ((uX3 cs (qms 0) qmh Fmh Amh Bmh Dmh) ++ ((uX5 cs (qm 6) qmn Fmn Amn Bmn Dmn) ++ ((uX5 cs (qm 7) qmw (upv 3 x6 (upv 2 x5 Fmw)) (vB 1 g8 (vB 0 g7 Amw)) Bmw Dmw) ++ (uX7 cs (qm 23) qr3 Fr3 Ar3 Br3 Dr3)))))) H := hP.sub [0, 1, 2, 3, 4, 5, 6, 7, 8, 9, 10, 11, 12, 13, 14, 15, 16, 17, 18, 19, 20] rfl
    have hD : va_D A0 ((uX10 cs adm qm Fm Am Bm Dm) ++ ((uX8 cs (qm 3) qms Fms Ams Bms Dms) ++ ((uX3 cs (qms 0) qmh Fmh Amh Bmh Dmh) ++ ((uX5 cs (qm 6) qmn Fmn Amn Bmn Dmn) ++ ((uX5 cs (qm 7) qmw (upv 3 x6 (upv 2 x5 Fmw)) (vB 1 g8 (vB 0 g7 Amw)) Bmw Dmw) ++ (uX7 cs (qm 23) qr3 Fr3 Ar3 Br3 Dr3)))))) := hD.sub [0, 1, 2, 3, 4, 5, 6, 7, 8, 9, 10, 11, 12, 13, 14, 15, 16, 17, 18, 19, 20] (by decide) rfl
    refine lv_aload_n hx hb dX10_gain_28 rfl (lv_at hl 1 rfl) ?_
    refine getF (v := .ref (qm 5)) hx hb ht hown hK hP iTX10 0 5 rfl rfl (by decide) fl_RX10_41 rfl dX10_gain_29 ?_
    refine lv_iload_n hx hb dX10_gain_32 rfl (lv_at hl 2 rfl) ?_
    refine va_aldq hx hb hK.1 hP 2 5 rfl rfl (show ¬ (_ ∨ _) by decide) dX10_gain_33 ?_
    refine W.eq (g2 := F0 m 34 ls [.ref (qm 23), .int r9, .ref adm]) rfl ?_
    refine getF (v := .int (Fr3 3)) hx hb ht hown hK hP iTX7 19 3 rfl rfl (by decide) fl_RX10_194 rfl dX10_gain_34 ?_
    have zf10 : (0 : Int) ≤ (Fr3 3).toInt ∧ (Fr3 3).toInt ≤ 60 := hIr3.1 3
    refine behR (runVP (As := [.int r9, .int (Fr3 3)]) (rest := []) ⟨hx, hb, hml, hown, ht⟩ (sX10_gainOf l G cs adm qm Fm Am Bm Dm hIm qms Fms Ams Bms Dms hIms qmh Fmh Amh Bmh Dmh hImh r9 (Fr3 3) ) okV_RX10_202 ⟨by decide, by decide⟩ hK hP [0, 1, 2, 3, 4, 5, 6, 7, 8, 9, 10, 11, 12] rfl 0 rfl rfl hl.1 rfl (Nat.le_of_ble_eq_true rfl) dX10_gain_37 ⟨by decide, by decide⟩) hP hS hA (fun r11 H locs hr11 hP hS => ?_)
    exact retDi (x5, x6, g7, g8) hx hb hr hlk hP hD hS dX10_gain_40 (trivial) (Nat.le_of_ble_eq_true rfl) (Nat.le_of_ble_eq_true rfl)
  · have zc4 := neK rfl (show (0 : Int32).toInt = 0 by decide) c4
    refine lv_iload_n hx hb dX10_gain_11 rfl (lv_at hl 0 rfl) ?_
    refine lv_ldc hx hb hown (ht _ ki_RX10_201) dX10_gain_12 ?_
    refine lv_imul hx hb dX10_gain_14 ?_
    refine lv_topi (fun v12 ev12 => ?_)
    have tv12 : v12.toInt = r1.toInt * 1000000 := by rw [ev12]; exact mulT rfl (show (1000000 : Int32).toInt = 1000000 by decide) (by omega)
    exact retDi ((Fmw 2), (Fmw 3), (Amw 0), (Amw 1)) hx hb hr hlk hP hD hS dX10_gain_15 (trivial) (Nat.le_of_ble_eq_true rfl) (Nat.le_of_ble_eq_true rfl)

set_option maxRecDepth 100000 in
set_option maxHeartbeats 16000000 in
theorem sX10_gain_lo (l : Launch) (G : va_G) (cs : Nat → ClassId) (adm : Nat) (qm : Nat → Nat) (Fm : Nat → Int32) (Am : Nat → Nat → Int32) (Bm : Nat → Nat → Int64) (Dm : Int64) (hIm : IX10 Fm Am) (qms : Nat → Nat) (Fms : Nat → Int32) (Ams : Nat → Nat → Int32) (Bms : Nat → Nat → Int64) (Dms : Int64) (hIms : IX8 Fms Ams) (qmh : Nat → Nat) (Fmh : Nat → Int32) (Amh : Nat → Nat → Int32) (Bmh : Nat → Nat → Int64) (Dmh : Int64) (hImh : IX3 Fmh Amh) (qmn : Nat → Nat) (Fmn : Nat → Int32) (Amn : Nat → Nat → Int32) (Bmn : Nat → Nat → Int64) (Dmn : Int64) (hImn : IX5 Fmn Amn) (qmw : Nat → Nat) (Fmw : Nat → Int32) (Amw : Nat → Nat → Int32) (Bmw : Nat → Nat → Int64) (Dmw : Int64) (hImw : IX5 Fmw Amw) (a1 : Int32) (ha1 : (-2147483648 : Int) ≤ a1.toInt ∧ a1.toInt ≤ -1) : ∀ sz : Nat, Met l yX10_gain (wk yX10_gain cX10_gain 3 (some .int)) (rmk 3 0 0) (PreD G (TY cs) [.ref adm, .int a1] ((uX10 cs adm qm Fm Am Bm Dm) ++ ((uX8 cs (qm 3) qms Fms Ams Bms Dms) ++ ((uX3 cs (qms 0) qmh Fmh Amh Bmh Dmh) ++ ((uX5 cs (qm 6) qmn Fmn Amn Bmn Dmn) ++ (uX5 cs (qm 7) qmw Fmw Amw Bmw Dmw))))) sz) ((QDi G (fun (r : Int32) (u : Unit) => True) (fun u : Unit => ((uX10 cs adm qm Fm Am Bm Dm) ++ ((uX8 cs (qm 3) qms Fms Ams Bms Dms) ++ ((uX3 cs (qms 0) qmh Fmh Amh Bmh Dmh) ++ ((uX5 cs (qm 6) qmn Fmn Amn Bmn Dmn) ++ (uX5 cs (qm 7) qmw Fmw Amw Bmw Dmw))))))) (va_A ((uX10 cs adm qm Fm Am Bm Dm) ++ ((uX8 cs (qm 3) qms Fms Ams Bms Dms) ++ ((uX3 cs (qms 0) qmh Fmh Amh Bmh Dmh) ++ ((uX5 cs (qm 6) qmn Fmn Amn Bmn Dmn) ++ (uX5 cs (qm 7) qmw Fmw Amw Bmw Dmw))))) sz)) 0 0 (va_A ((uX10 cs adm qm Fm Am Bm Dm) ++ ((uX8 cs (qm 3) qms Fms Ams Bms Dms) ++ ((uX3 cs (qms 0) qmh Fmh Amh Bmh Dmh) ++ ((uX5 cs (qm 6) qmn Fmn Amn Bmn Dmn) ++ (uX5 cs (qm 7) qmw Fmw Amw Bmw Dmw))))) sz) := by
  refine mkD (Qc := (QDi G (fun (r : Int32) (u : Unit) => True) (fun u : Unit => ((uX10 cs adm qm Fm Am Bm Dm) ++ ((uX8 cs (qm 3) qms Fms Ams Bms Dms) ++ ((uX3 cs (qms 0) qmh Fmh Amh Bmh Dmh) ++ ((uX5 cs (qm 6) qmn Fmn Amn Bmn Dmn) ++ (uX5 cs (qm 7) qmw Fmw Amw Bmw Dmw)))))))) (by decide) (by simp [lg_sl, Value.category]) ?_
  intro p e s m args below meth c ls A0 hx hb hml hr hlk hown hmn ht hK hP hD hS hA hl
  have hl : lv_has ls 3 [(0, .ref adm), (1, .int a1)] := hl
  refine lv_aload_n hx hb dX10_gain_0 rfl (lv_at hl 0 rfl) ?_
  refine lv_iload_n hx hb dX10_gain_1 rfl (lv_at hl 1 rfl) ?_
  refine lv_iconst (v := 1) hx hb dX10_gain_2 (by decide) ?_
  have bb1 := i32b a1
  refine behR (runVP (As := [.int a1, .int 1]) (rest := []) ⟨hx, hb, hml, hown, ht⟩ (sX10_askRound_lo l G cs adm qm Fm Am Bm Dm hIm qms Fms Ams Bms Dms hIms qmh Fmh Amh Bmh Dmh hImh a1 1 (by omega) (by decide)) okV_RX10_186 ⟨by decide, by decide⟩ hK hP [0, 1, 2, 3, 4, 5, 6, 7, 8, 9, 10, 11, 12] rfl 0 rfl rfl hl.1 rfl (Nat.le_of_ble_eq_true rfl) dX10_gain_3 ⟨by decide, by decide⟩) hP hS hA (fun r2 H locs hr2 hP hS => ?_)
  have kk3 : (1 : Int32).toInt = 1 := by decide
  have hr2 : r2.toInt = -2 := hr2
  refine lv_istore_n (lv' := [(2, .int r2), (0, .ref adm), (1, .int a1)]) hx hb dX10_gain_6 rfl hl (by decide) rfl (fun ls hl => ?_)
  refine lv_iload_n hx hb dX10_gain_7 rfl (lv_at hl 0 rfl) ?_
  refine lv_if_eq (tgt := 16) hx hb dX10_gain_8 (by decide) (fun c4 => False.elim (by have zz := eqK rfl (show (0 : Int32).toInt = 0 by decide) c4; omega)) (fun c4 => ?_)
  refine lv_iload_n hx hb dX10_gain_11 rfl (lv_at hl 0 rfl) ?_
  refine lv_ldc hx hb hown (ht _ ki_RX10_201) dX10_gain_12 ?_
  refine lv_imul hx hb dX10_gain_14 ?_
  refine lv_topi (fun v5 ev5 => ?_)
  have tv5 : v5.toInt = r2.toInt * 1000000 := by rw [ev5]; exact mulT rfl (show (1000000 : Int32).toInt = 1000000 by decide) (by omega)
  exact retDi () hx hb hr hlk hP hD hS dX10_gain_15 (trivial) (Nat.le_of_ble_eq_true rfl) (Nat.le_of_ble_eq_true rfl)

