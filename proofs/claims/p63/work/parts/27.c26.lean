set_option maxRecDepth 100000 in
set_option maxHeartbeats 16000000 in
theorem sX10_chance (l : Launch) (G : va_G) (cs : Nat → ClassId) (adm : Nat) (qm : Nat → Nat) (Fm : Nat → Int32) (Am : Nat → Nat → Int32) (Bm : Nat → Nat → Int64) (Dm : Int64) (hIm : IX10 Fm Am) (qms : Nat → Nat) (Fms : Nat → Int32) (Ams : Nat → Nat → Int32) (Bms : Nat → Nat → Int64) (Dms : Int64) (hIms : IX8 Fms Ams) (qmh : Nat → Nat) (Fmh : Nat → Int32) (Amh : Nat → Nat → Int32) (Bmh : Nat → Nat → Int64) (Dmh : Int64) (hImh : IX3 Fmh Amh) (qmn : Nat → Nat) (Fmn : Nat → Int32) (Amn : Nat → Nat → Int32) (Bmn : Nat → Nat → Int64) (Dmn : Int64) (hImn : IX5 Fmn Amn) (a1 : Int32) : ∀ sz : Nat, Met l yX10_chance (wk yX10_chance cX10_chance 2 (some .int)) (rmk 3 0 0) (PreP G (TY cs) [.ref adm, .int a1] ((uX10 cs adm qm Fm Am Bm Dm) ++ ((uX8 cs (qm 3) qms Fms Ams Bms Dms) ++ ((uX3 cs (qms 0) qmh Fmh Amh Bmh Dmh) ++ (uX5 cs (qm 6) qmn Fmn Amn Bmn Dmn)))) sz) (QRi (fun r : Int32 => True) sz) 0 0 (fun q => sz ≤ q) := by
  refine mkP (Qc := QRi (fun r : Int32 => True)) (by decide) (by simp [lg_sl, Value.category]) ?_
  intro p e s m args below meth c ls hx hb hml hr hlk hown ht hK hP hS hl
  have hl : lv_has ls 2 [(0, .ref adm), (1, .int a1)] := hl
  refine lv_aload_n hx hb dX10_chance_0 rfl (lv_at hl 0 rfl) ?_
  refine lv_iload_n hx hb dX10_chance_1 rfl (lv_at hl 1 rfl) ?_
  refine behR (runVP (As := [.int a1]) (rest := []) ⟨hx, hb, hml, hown, ht⟩ (sX10_isRoomOrOut l G cs adm qm Fm Am Bm Dm hIm qms Fms Ams Bms Dms hIms qmh Fmh Amh Bmh Dmh hImh a1 ) okV_RX10_145 ⟨by decide, by decide⟩ hK hP [0, 1, 2, 3, 4, 5, 6, 7, 8, 9, 10, 11, 12] rfl 0 rfl rfl hl.1 rfl (Nat.le_of_ble_eq_true rfl) dX10_chance_2 ⟨by decide, by decide⟩) hP hS (fun _ h => h) (fun r1 H locs hr1 hP hS => ?_)
  have hr1 : (r1.toInt = 1 ∧ -1 ≤ a1.toInt ∧ a1.toInt ≤ 6) ∨ r1.toInt = 0 := hr1
  refine lv_if_eq (tgt := 26) hx hb dX10_chance_5 (by decide) (fun c2 => ?_) (fun c2 => ?_)
  · have zc2 := eqK rfl (show (0 : Int32).toInt = 0 by decide) c2
    refine lv_bipush (v := (-2)) hx hb dX10_chance_26 (by decide) ?_
    exact retRi hx hb hr hlk hS dX10_chance_28 (trivial)
  · have zc2 := neK rfl (show (0 : Int32).toInt = 0 by decide) c2
    refine lv_aload_n hx hb dX10_chance_8 rfl (lv_at hl 0 rfl) ?_
    refine getF (v := .ref (qm 6)) hx hb ht hown hK hP iTX10 0 6 rfl rfl (by decide) fl_RX10_48 rfl dX10_chance_9 ?_
    refine lv_aload_n hx hb dX10_chance_12 rfl (lv_at hl 0 rfl) ?_
    refine getF (v := .ref (qm 6)) hx hb ht hown hK hP iTX10 0 6 rfl rfl (by decide) fl_RX10_48 rfl dX10_chance_13 ?_
    refine lv_iload_n hx hb dX10_chance_16 rfl (lv_at hl 1 rfl) ?_
    refine behR (runVP (As := [.int a1]) (rest := [.ref (qm 6)]) ⟨hx, hb, hml, hown, ht⟩ (sX5_of l G cs (qm 6) qmn Fmn Amn Bmn Dmn hImn a1 ) okV_RX10_148 ⟨by decide, by decide⟩ hK hP [13, 14, 15] rfl 13 rfl rfl hl.1 rfl (Nat.le_of_ble_eq_true rfl) dX10_chance_17 ⟨by decide, by decide⟩) hP hS (fun _ h => h) (fun r3 H locs hr3 hP hS => ?_)
    refine behR (runVP (As := [.int r3]) (rest := []) ⟨hx, hb, hml, hown, ht⟩ (sX5_chanceOf l G cs (qm 6) qmn Fmn Amn Bmn Dmn hImn r3 ) okV_RX10_169 ⟨by decide, by decide⟩ hK hP [13, 14, 15] rfl 13 rfl rfl hl.1 rfl (Nat.le_of_ble_eq_true rfl) dX10_chance_20 ⟨by decide, by decide⟩) hP hS (fun _ h => h) (fun r4 H locs hr4 hP hS => ?_)
    refine lv_goto (tgt := 28) hx hb dX10_chance_23 (by decide) ?_
    exact retRi hx hb hr hlk hS dX10_chance_28 (trivial)

set_option maxRecDepth 100000 in
set_option maxHeartbeats 16000000 in
theorem sX10_call (l : Launch) (G : va_G) (cs : Nat → ClassId) (adm : Nat) (qm : Nat → Nat) (Fm : Nat → Int32) (Am : Nat → Nat → Int32) (Bm : Nat → Nat → Int64) (Dm : Int64) (hIm : IX10 Fm Am) (qms : Nat → Nat) (Fms : Nat → Int32) (Ams : Nat → Nat → Int32) (Bms : Nat → Nat → Int64) (Dms : Int64) (hIms : IX8 Fms Ams) (qmh : Nat → Nat) (Fmh : Nat → Int32) (Amh : Nat → Nat → Int32) (Bmh : Nat → Nat → Int64) (Dmh : Int64) (hImh : IX3 Fmh Amh) (qmn : Nat → Nat) (Fmn : Nat → Int32) (Amn : Nat → Nat → Int32) (Bmn : Nat → Nat → Int64) (Dmn : Int64) (hImn : IX5 Fmn Amn) (a1 : Int32) : ∀ sz : Nat, Met l yX10_call (wk yX10_call cX10_call 2 (some .int)) (rmk 4 0 0) (PreD G (TY cs) [.ref adm, .int a1] ((uX10 cs adm qm Fm Am Bm Dm) ++ ((uX8 cs (qm 3) qms Fms Ams Bms Dms) ++ ((uX3 cs (qms 0) qmh Fmh Amh Bmh Dmh) ++ (uX5 cs (qm 6) qmn Fmn Amn Bmn Dmn)))) sz) ((QDi G (fun (r : Int32) (u : Int32 × Int32 × (Nat → Int32) × (Nat → Int32) × (Nat → Int32)) => ((0 : Int) ≤ u.2.1.toInt ∧ u.2.1.toInt ≤ 60) ∧ (True)) (fun u : Int32 × Int32 × (Nat → Int32) × (Nat → Int32) × (Nat → Int32) => ((uX10 cs adm qm Fm Am Bm Dm) ++ ((uX8 cs (qm 3) qms (upd Fms 2 u.2.1) (vA Ams 1 u.2.2.2.2) Bms Dms) ++ ((uX3 cs (qms 0) qmh Fmh Amh Bmh Dmh) ++ (uX5 cs (qm 6) qmn (upd Fmn 3 u.1) (vA (vA Amn 0 u.2.2.1) 1 u.2.2.2.1) Bmn Dmn)))))) (va_A ((uX10 cs adm qm Fm Am Bm Dm) ++ ((uX8 cs (qm 3) qms Fms Ams Bms Dms) ++ ((uX3 cs (qms 0) qmh Fmh Amh Bmh Dmh) ++ (uX5 cs (qm 6) qmn Fmn Amn Bmn Dmn)))) sz)) 0 0 (va_A ((uX10 cs adm qm Fm Am Bm Dm) ++ ((uX8 cs (qm 3) qms Fms Ams Bms Dms) ++ ((uX3 cs (qms 0) qmh Fmh Amh Bmh Dmh) ++ (uX5 cs (qm 6) qmn Fmn Amn Bmn Dmn)))) sz) := by
  refine mkD (Qc := (QDi G (fun (r : Int32) (u : Int32 × Int32 × (Nat → Int32) × (Nat → Int32) × (Nat → Int32)) => ((0 : Int) ≤ u.2.1.toInt ∧ u.2.1.toInt ≤ 60) ∧ (True)) (fun u : Int32 × Int32 × (Nat → Int32) × (Nat → Int32) × (Nat → Int32) => ((uX10 cs adm qm Fm Am Bm Dm) ++ ((uX8 cs (qm 3) qms (upd Fms 2 u.2.1) (vA Ams 1 u.2.2.2.2) Bms Dms) ++ ((uX3 cs (qms 0) qmh Fmh Amh Bmh Dmh) ++ (uX5 cs (qm 6) qmn (upd Fmn 3 u.1) (vA (vA Amn 0 u.2.2.1) 1 u.2.2.2.1) Bmn Dmn))))))) (by decide) (by simp [lg_sl, Value.category]) ?_
  intro p e s m args below meth c ls A0 hx hb hml hr hlk hown hmn ht hK hP hD hS hA hl
  have hl : lv_has ls 2 [(0, .ref adm), (1, .int a1)] := hl
  refine lv_aload_n hx hb dX10_call_0 rfl (lv_at hl 0 rfl) ?_
  refine lv_iload_n hx hb dX10_call_1 rfl (lv_at hl 1 rfl) ?_
  refine behR (runVP (As := [.int a1]) (rest := []) ⟨hx, hb, hml, hown, ht⟩ (sX10_isRoomOrOut l G cs adm qm Fm Am Bm Dm hIm qms Fms Ams Bms Dms hIms qmh Fmh Amh Bmh Dmh hImh a1 ) okV_RX10_145 ⟨by decide, by decide⟩ hK hP [0, 1, 2, 3, 4, 5, 6, 7, 8, 9, 10, 11, 12] rfl 0 rfl rfl hl.1 rfl (Nat.le_of_ble_eq_true rfl) dX10_call_2 ⟨by decide, by decide⟩) hP hS hA (fun r1 H locs hr1 hP hS => ?_)
  have hr1 : (r1.toInt = 1 ∧ -1 ≤ a1.toInt ∧ a1.toInt ≤ 6) ∨ r1.toInt = 0 := hr1
  refine lv_if_ne (tgt := 11) hx hb dX10_call_5 (by decide) (fun c2 => ?_) (fun c2 => ?_)
  · have zc2 := neK rfl (show (0 : Int32).toInt = 0 by decide) c2
    refine lv_aload_n hx hb dX10_call_11 rfl (lv_at hl 0 rfl) ?_
    refine getF (v := .ref (qm 3)) hx hb ht hown hK hP iTX10 0 3 rfl rfl (by decide) fl_RX10_31 rfl dX10_call_12 ?_
    refine getF (v := .int (Fms 2)) hx hb ht hown hK hP iTX8 3 2 rfl rfl (by decide) fl_RX10_105 rfl dX10_call_15 ?_
    have zf3 : (0 : Int) ≤ (Fms 2).toInt ∧ (Fms 2).toInt ≤ 60 := hIms.1 2
    refine lv_bipush (v := 60) hx hb dX10_call_18 (by decide) ?_
    refine lv_icmp_lt (tgt := 26) hx hb dX10_call_20 (by decide) (fun c4 => ?_) (fun c4 => ?_)
    · have zc4 := ltK rfl (show (60 : Int32).toInt = 60 by decide) c4
      refine lv_aload_n hx hb dX10_call_26 rfl (lv_at hl 0 rfl) ?_
      refine getF (v := .ref (qm 3)) hx hb ht hown hK hP iTX10 0 3 rfl rfl (by decide) fl_RX10_31 rfl dX10_call_27 ?_
      refine getF (v := .ref (qms 1)) hx hb ht hown hK hP iTX8 3 1 rfl rfl (by decide) fl_RX10_172 rfl dX10_call_30 ?_
      refine lv_aload_n hx hb dX10_call_33 rfl (lv_at hl 0 rfl) ?_
      refine getF (v := .ref (qm 3)) hx hb ht hown hK hP iTX10 0 3 rfl rfl (by decide) fl_RX10_31 rfl dX10_call_34 ?_
      refine getF (v := .int (Fms 2)) hx hb ht hown hK hP iTX8 3 2 rfl rfl (by decide) fl_RX10_105 rfl dX10_call_37 ?_
      have zf5 : (0 : Int) ≤ (Fms 2).toInt ∧ (Fms 2).toInt ≤ 60 := hIms.1 2
      refine lv_iload_n hx hb dX10_call_40 rfl (lv_at hl 1 rfl) ?_
      refine va_iast hx hb hK.1 hP hD hS 4 0 rfl rfl (inK rfl (by omega) (by decide)) dX10_call_41 (fun H locs hP hD hS => ?_)
      obtain ⟨g6, hP, hD⟩ : ∃ g6 : Nat → Int32, va_P G vwCl ((uX10 cs adm qm Fm Am Bm Dm) ++ ((uX8 cs (qm 3) qms Fms (vA Ams 1 g6) Bms Dms) ++ ((uX3 cs (qms 0) qmh Fmh Amh Bmh Dmh) ++ (uX5 cs (qm 6) qmn Fmn Amn Bmn Dmn)))) H ∧ va_D A0 ((uX10 cs adm qm Fm Am Bm Dm) ++ ((uX8 cs (qm 3) qms Fms (vA Ams 1 g6) Bms Dms) ++ ((uX3 cs (qms 0) qmh Fmh Amh Bmh Dmh) ++ (uX5 cs (qm 6) qmn Fmn Amn Bmn Dmn)))) := ⟨upd (Ams 1) (Fms 2).toNatClampNeg a1, hP, hD⟩
      refine lv_aload_n hx hb dX10_call_42 rfl (lv_at hl 0 rfl) ?_
      refine getF (v := .ref (qm 3)) hx hb ht hown hK hP iTX10 0 3 rfl rfl (by decide) fl_RX10_31 rfl dX10_call_43 ?_
      refine lv_dup hx hb dX10_call_46 rfl ?_
      refine getF (v := .int (Fms 2)) hx hb ht hown hK hP iTX8 3 2 rfl rfl (by decide) fl_RX10_105 rfl dX10_call_47 ?_
      have zf7 : (0 : Int) ≤ (Fms 2).toInt ∧ (Fms 2).toInt ≤ 60 := hIms.1 2
      refine lv_iconst (v := 1) hx hb dX10_call_50 (by decide) ?_
      refine lv_iadd hx hb dX10_call_51 ?_
      refine lv_topi (fun v8 ev8 => ?_)
      have tv8 : v8.toInt = (Fms 2).toInt + 1 := by rw [ev8]; exact addT rfl (show (1 : Int32).toInt = 1 by decide) (by omega)
      refine putD hx hb ht hown hK hP hD hS iTX8 tyX8 tyX8_ok nmX8 3 2 rfl rfl (by decide) fl_RX10_105 rfl rfl rfl (Nat.le_of_ble_eq_true rfl) dX10_call_52 (fun H locs hP hD hS => ?_)
      have hP : va_P G vwCl ((uX10 cs adm qm Fm Am Bm Dm) ++ ((uX8 cs (qm 3) qms (upd Fms 2 v8) (vA Ams 1 g6) Bms Dms) ++ ((uX3 cs (qms 0) qmh Fmh Amh Bmh Dmh) ++ (uX5 cs (qm 6) qmn Fmn Amn Bmn Dmn)))) H := hP
      have hD : va_D A0 ((uX10 cs adm qm Fm Am Bm Dm) ++ ((uX8 cs (qm 3) qms (upd Fms 2 v8) (vA Ams 1 g6) Bms Dms) ++ ((uX3 cs (qms 0) qmh Fmh Amh Bmh Dmh) ++ (uX5 cs (qm 6) qmn Fmn Amn Bmn Dmn)))) := hD
      refine lv_aload_n hx hb dX10_call_55 rfl (lv_at hl 0 rfl) ?_
      refine getF (v := .ref (qm 6)) hx hb ht hown hK hP iTX10 0 6 rfl rfl (by decide) fl_RX10_48 rfl dX10_call_56 ?_
      refine lv_aload_n hx hb dX10_call_59 rfl (lv_at hl 0 rfl) ?_
      refine getF (v := .ref (qm 3)) hx hb ht hown hK hP iTX10 0 3 rfl rfl (by decide) fl_RX10_31 rfl dX10_call_60 ?_
      refine getF (v := .ref (qms 0)) hx hb ht hown hK hP iTX8 3 0 rfl rfl (by decide) fl_RX10_98 rfl dX10_call_63 ?_
      refine lv_iload_n hx hb dX10_call_66 rfl (lv_at hl 1 rfl) ?_
      refine lv_iconst (v := 0) hx hb dX10_call_67 (by decide) ?_
      refine behDi (wr := ((uX10 cs adm qm Fm Am Bm Dm) ++ (uX8 cs (qm 3) qms (upd Fms 2 v8) (vA Ams 1 g6) Bms Dms))) (runVD (As := [.ref (qms 0), .int a1, .int 0]) (rest := []) ⟨hx, hb, hml, hown, ht⟩ (sX5_live l G cs (qm 6) qmn Fmn Amn Bmn Dmn hImn (qms 0) qmh Fmh Amh Bmh Dmh hImh a1 0 (by decide)) okV_RX10_175 ⟨by decide, by decide⟩ hK hP hD [13, 14, 15, 5, 6, 7, 8, 9, 10, 11, 12] rfl (by decide) rfl 13 rfl rfl hl.1 rfl (Nat.le_of_ble_eq_true rfl) dX10_call_68 ⟨(Nat.le_of_ble_eq_true rfl), (Nat.le_of_ble_eq_true rfl)⟩) hP hD hS hA [13, 14, 15, 5, 6, 7, 8, 9, 10, 11, 12] [0, 1, 2, 3, 4] rfl rfl (by decide) (by decide) (fun r9 u H locs hu hP hD hS => ?_)
      obtain ⟨x9, g10, g11⟩ := u
      obtain ⟨r12, rfl⟩ : ∃ z, z = r9 := ⟨_, rfl⟩
      have hr12 := hu
      have hP : va_P G vwCl ((uX10 cs adm qm Fm Am Bm Dm) ++ ((uX8 cs (qm 3) qms (upd Fms 2 v8) (vA Ams 1 g6) Bms Dms) ++ ((uX3 cs (qms 0) qmh Fmh Amh Bmh Dmh) ++ (uX5 cs (qm 6) qmn (upd Fmn 3 x9) (vA (vA Amn 0 g10) 1 g11) Bmn Dmn)))) H := hP.sub [0, 1, 2, 3, 4, 8, 9, 10, 11, 12, 13, 14, 15, 5, 6, 7] rfl
      have hD : va_D A0 ((uX10 cs adm qm Fm Am Bm Dm) ++ ((uX8 cs (qm 3) qms (upd Fms 2 v8) (vA Ams 1 g6) Bms Dms) ++ ((uX3 cs (qms 0) qmh Fmh Amh Bmh Dmh) ++ (uX5 cs (qm 6) qmn (upd Fmn 3 x9) (vA (vA Amn 0 g10) 1 g11) Bmn Dmn)))) := hD.sub [0, 1, 2, 3, 4, 8, 9, 10, 11, 12, 13, 14, 15, 5, 6, 7] (by decide) rfl
      exact retDi (x9, v8, g10, g11, g6) hx hb hr hlk hP hD hS dX10_call_71 (⟨show (0 : Int) ≤ v8.toInt ∧ v8.toInt ≤ 60 by omega, trivial⟩) (Nat.le_of_ble_eq_true rfl) (Nat.le_of_ble_eq_true rfl)
    · have zc4 := nltK rfl (show (60 : Int32).toInt = 60 by decide) c4
      refine lv_bipush (v := (-5)) hx hb dX10_call_23 (by decide) ?_
      exact retDi ((Fmn 3), (Fms 2), (Amn 0), (Amn 1), (Ams 1)) hx hb hr hlk hP hD hS dX10_call_25 (⟨hIms.1 2, trivial⟩) (Nat.le_of_ble_eq_true rfl) (Nat.le_of_ble_eq_true rfl)
  · have zc2 := eqK rfl (show (0 : Int32).toInt = 0 by decide) c2
    refine lv_bipush (v := (-2)) hx hb dX10_call_8 (by decide) ?_
    exact retDi ((Fmn 3), (Fms 2), (Amn 0), (Amn 1), (Ams 1)) hx hb hr hlk hP hD hS dX10_call_10 (⟨hIms.1 2, trivial⟩) (Nat.le_of_ble_eq_true rfl) (Nat.le_of_ble_eq_true rfl)

set_option maxRecDepth 100000 in
set_option maxHeartbeats 16000000 in
theorem sX10_undo (l : Launch) (G : va_G) (cs : Nat → ClassId) (adm : Nat) (qm : Nat → Nat) (Fm : Nat → Int32) (Am : Nat → Nat → Int32) (Bm : Nat → Nat → Int64) (Dm : Int64) (hIm : IX10 Fm Am) (qms : Nat → Nat) (Fms : Nat → Int32) (Ams : Nat → Nat → Int32) (Bms : Nat → Nat → Int64) (Dms : Int64) (hIms : IX8 Fms Ams) (qmh : Nat → Nat) (Fmh : Nat → Int32) (Amh : Nat → Nat → Int32) (Bmh : Nat → Nat → Int64) (Dmh : Int64) (hImh : IX3 Fmh Amh) (qmn : Nat → Nat) (Fmn : Nat → Int32) (Amn : Nat → Nat → Int32) (Bmn : Nat → Nat → Int64) (Dmn : Int64) (hImn : IX5 Fmn Amn) : ∀ sz : Nat, Met l yX10_undo (wk yX10_undo cX10_undo 1 (some .int)) (rmk 5 0 0) (PreD G (TY cs) [.ref adm] ((uX10 cs adm qm Fm Am Bm Dm) ++ ((uX8 cs (qm 3) qms Fms Ams Bms Dms) ++ ((uX3 cs (qms 0) qmh Fmh Amh Bmh Dmh) ++ (uX5 cs (qm 6) qmn Fmn Amn Bmn Dmn)))) sz) ((QDi G (fun (r : Int32) (u : Int32 × Int32 × Int32 × (Nat → Int32) × (Nat → Int32)) => ((0 : Int) ≤ u.2.2.1.toInt ∧ u.2.2.1.toInt ≤ 60) ∧ (True)) (fun u : Int32 × Int32 × Int32 × (Nat → Int32) × (Nat → Int32) => ((uX10 cs adm qm Fm Am Bm Dm) ++ ((uX8 cs (qm 3) qms (upd Fms 2 u.2.2.1) Ams Bms Dms) ++ ((uX3 cs (qms 0) qmh Fmh Amh Bmh Dmh) ++ (uX5 cs (qm 6) qmn (upd (upd Fmn 2 u.1) 3 u.2.1) (vA (vA Amn 0 u.2.2.2.1) 1 u.2.2.2.2) Bmn Dmn)))))) (va_A ((uX10 cs adm qm Fm Am Bm Dm) ++ ((uX8 cs (qm 3) qms Fms Ams Bms Dms) ++ ((uX3 cs (qms 0) qmh Fmh Amh Bmh Dmh) ++ (uX5 cs (qm 6) qmn Fmn Amn Bmn Dmn)))) sz)) 0 0 (va_A ((uX10 cs adm qm Fm Am Bm Dm) ++ ((uX8 cs (qm 3) qms Fms Ams Bms Dms) ++ ((uX3 cs (qms 0) qmh Fmh Amh Bmh Dmh) ++ (uX5 cs (qm 6) qmn Fmn Amn Bmn Dmn)))) sz) := by
  refine mkD (Qc := (QDi G (fun (r : Int32) (u : Int32 × Int32 × Int32 × (Nat → Int32) × (Nat → Int32)) => ((0 : Int) ≤ u.2.2.1.toInt ∧ u.2.2.1.toInt ≤ 60) ∧ (True)) (fun u : Int32 × Int32 × Int32 × (Nat → Int32) × (Nat → Int32) => ((uX10 cs adm qm Fm Am Bm Dm) ++ ((uX8 cs (qm 3) qms (upd Fms 2 u.2.2.1) Ams Bms Dms) ++ ((uX3 cs (qms 0) qmh Fmh Amh Bmh Dmh) ++ (uX5 cs (qm 6) qmn (upd (upd Fmn 2 u.1) 3 u.2.1) (vA (vA Amn 0 u.2.2.2.1) 1 u.2.2.2.2) Bmn Dmn))))))) (by decide) (by simp [lg_sl, Value.category]) ?_
  intro p e s m args below meth c ls A0 hx hb hml hr hlk hown hmn ht hK hP hD hS hA hl
  have hl : lv_has ls 1 [(0, .ref adm)] := hl
  refine lv_aload_n hx hb dX10_undo_0 rfl (lv_at hl 0 rfl) ?_
  refine behR (runVP (As := []) (rest := []) ⟨hx, hb, hml, hown, ht⟩ (sX10_hasHouse l G cs adm qm Fm Am Bm Dm hIm qms Fms Ams Bms Dms hIms qmh Fmh Amh Bmh Dmh hImh ) okV_RX10_152 ⟨by decide, by decide⟩ hK hP [0, 1, 2, 3, 4, 5, 6, 7, 8, 9, 10, 11, 12] rfl 0 rfl rfl hl.1 rfl (Nat.le_of_ble_eq_true rfl) dX10_undo_1 ⟨by decide, by decide⟩) hP hS hA (fun r1 H locs hr1 hP hS => ?_)
  have hr1 : (0 : Int) ≤ r1.toInt ∧ r1.toInt ≤ 1 := hr1
  refine lv_if_ne (tgt := 10) hx hb dX10_undo_4 (by decide) (fun c2 => ?_) (fun c2 => ?_)
  · have zc2 := neK rfl (show (0 : Int32).toInt = 0 by decide) c2
    refine lv_aload_n hx hb dX10_undo_10 rfl (lv_at hl 0 rfl) ?_
    refine getF (v := .ref (qm 3)) hx hb ht hown hK hP iTX10 0 3 rfl rfl (by decide) fl_RX10_31 rfl dX10_undo_11 ?_
    refine getF (v := .int (Fms 2)) hx hb ht hown hK hP iTX8 3 2 rfl rfl (by decide) fl_RX10_105 rfl dX10_undo_14 ?_
    have zf3 : (0 : Int) ≤ (Fms 2).toInt ∧ (Fms 2).toInt ≤ 60 := hIms.1 2
    refine lv_iconst (v := 1) hx hb dX10_undo_17 (by decide) ?_
    refine lv_icmp_ge (tgt := 24) hx hb dX10_undo_18 (by decide) (fun c4 => ?_) (fun c4 => ?_)
    · have zc4 := leK (show (1 : Int32).toInt = 1 by decide) rfl c4
      refine lv_aload_n hx hb dX10_undo_24 rfl (lv_at hl 0 rfl) ?_
      refine getF (v := .ref (qm 3)) hx hb ht hown hK hP iTX10 0 3 rfl rfl (by decide) fl_RX10_31 rfl dX10_undo_25 ?_
      refine lv_dup hx hb dX10_undo_28 rfl ?_
      refine getF (v := .int (Fms 2)) hx hb ht hown hK hP iTX8 3 2 rfl rfl (by decide) fl_RX10_105 rfl dX10_undo_29 ?_
      have zf5 : (0 : Int) ≤ (Fms 2).toInt ∧ (Fms 2).toInt ≤ 60 := hIms.1 2
      refine lv_iconst (v := 1) hx hb dX10_undo_32 (by decide) ?_
      refine lv_isub hx hb dX10_undo_33 ?_
      refine lv_topi (fun v6 ev6 => ?_)
      have tv6 : v6.toInt = (Fms 2).toInt - 1 := by rw [ev6]; exact subT rfl (show (1 : Int32).toInt = 1 by decide) (by omega)
      refine putD hx hb ht hown hK hP hD hS iTX8 tyX8 tyX8_ok nmX8 3 2 rfl rfl (by decide) fl_RX10_105 rfl rfl rfl (Nat.le_of_ble_eq_true rfl) dX10_undo_34 (fun H locs hP hD hS => ?_)
      have hP : va_P G vwCl ((uX10 cs adm qm Fm Am Bm Dm) ++ ((uX8 cs (qm 3) qms (upd Fms 2 v6) Ams Bms Dms) ++ ((uX3 cs (qms 0) qmh Fmh Amh Bmh Dmh) ++ (uX5 cs (qm 6) qmn Fmn Amn Bmn Dmn)))) H := hP
      have hD : va_D A0 ((uX10 cs adm qm Fm Am Bm Dm) ++ ((uX8 cs (qm 3) qms (upd Fms 2 v6) Ams Bms Dms) ++ ((uX3 cs (qms 0) qmh Fmh Amh Bmh Dmh) ++ (uX5 cs (qm 6) qmn Fmn Amn Bmn Dmn)))) := hD
      refine lv_aload_n hx hb dX10_undo_37 rfl (lv_at hl 0 rfl) ?_
      refine behDw (wr := ([] : va_W)) (runVD (As := []) (rest := []) ⟨hx, hb, hml, hown, ht⟩ (sX10_replay l G cs adm qm Fm Am Bm Dm hIm qms (upd Fms 2 v6) Ams Bms Dms (IB_put (k := 2) hIms (show (0 : Int) ≤ v6.toInt ∧ v6.toInt ≤ 60 by omega)) qmh Fmh Amh Bmh Dmh hImh qmn Fmn Amn Bmn Dmn hImn ) okV_RX10_108 ⟨by decide, by decide⟩ hK hP hD [0, 1, 2, 3, 4, 5, 6, 7, 8, 9, 10, 11, 12, 13, 14, 15] rfl (by decide) rfl 0 rfl rfl hl.1 rfl (Nat.le_of_ble_eq_true rfl) dX10_undo_38 ⟨(Nat.le_of_ble_eq_true rfl), (Nat.le_of_ble_eq_true rfl)⟩) hP hD hS hA [0, 1, 2, 3, 4, 5, 6, 7, 8, 9, 10, 11, 12, 13, 14, 15] [] rfl rfl (by decide) (by decide) (fun u H locs hu hP hD hS => ?_)
      obtain ⟨x7, x8, g9, g10⟩ := u
      have hr11 := hu
      have hP : va_P G vwCl ((uX10 cs adm qm Fm Am Bm Dm) ++ ((uX8 cs (qm 3) qms (upd Fms 2 v6) Ams Bms Dms) ++ ((uX3 cs (qms 0) qmh Fmh Amh Bmh Dmh) ++ (uX5 cs (qm 6) qmn (upd (upd Fmn 2 x7) 3 x8) (vA (vA Amn 0 g9) 1 g10) Bmn Dmn)))) H := hP.sub [0, 1, 2, 3, 4, 5, 6, 7, 8, 9, 10, 11, 12, 13, 14, 15] rfl
      have hD : va_D A0 ((uX10 cs adm qm Fm Am Bm Dm) ++ ((uX8 cs (qm 3) qms (upd Fms 2 v6) Ams Bms Dms) ++ ((uX3 cs (qms 0) qmh Fmh Amh Bmh Dmh) ++ (uX5 cs (qm 6) qmn (upd (upd Fmn 2 x7) 3 x8) (vA (vA Amn 0 g9) 1 g10) Bmn Dmn)))) := hD.sub [0, 1, 2, 3, 4, 5, 6, 7, 8, 9, 10, 11, 12, 13, 14, 15] (by decide) rfl
      refine lv_aload_n hx hb dX10_undo_41 rfl (lv_at hl 0 rfl) ?_
      refine getF (v := .ref (qm 3)) hx hb ht hown hK hP iTX10 0 3 rfl rfl (by decide) fl_RX10_31 rfl dX10_undo_42 ?_
      refine getF (v := .int v6) hx hb ht hown hK hP iTX8 3 2 rfl rfl (by decide) fl_RX10_105 rfl dX10_undo_45 ?_
      exact retDi (x7, x8, v6, g9, g10) hx hb hr hlk hP hD hS dX10_undo_48 (⟨show (0 : Int) ≤ v6.toInt ∧ v6.toInt ≤ 60 by omega, trivial⟩) (Nat.le_of_ble_eq_true rfl) (Nat.le_of_ble_eq_true rfl)
    · have zc4 := nleK (show (1 : Int32).toInt = 1 by decide) rfl c4
      refine lv_bipush (v := (-5)) hx hb dX10_undo_21 (by decide) ?_
      exact retDi ((Fmn 2), (Fmn 3), (Fms 2), (Amn 0), (Amn 1)) hx hb hr hlk hP hD hS dX10_undo_23 (⟨hIms.1 2, trivial⟩) (Nat.le_of_ble_eq_true rfl) (Nat.le_of_ble_eq_true rfl)
  · have zc2 := eqK rfl (show (0 : Int32).toInt = 0 by decide) c2
    refine lv_bipush (v := (-2)) hx hb dX10_undo_7 (by decide) ?_
    exact retDi ((Fmn 2), (Fmn 3), (Fms 2), (Amn 0), (Amn 1)) hx hb hr hlk hP hD hS dX10_undo_9 (⟨hIms.1 2, trivial⟩) (Nat.le_of_ble_eq_true rfl) (Nat.le_of_ble_eq_true rfl)

set_option maxRecDepth 100000 in
set_option maxHeartbeats 16000000 in
theorem sX10_anew (l : Launch) (G : va_G) (cs : Nat → ClassId) (adm : Nat) (qm : Nat → Nat) (Fm : Nat → Int32) (Am : Nat → Nat → Int32) (Bm : Nat → Nat → Int64) (Dm : Int64) (hIm : IX10 Fm Am) (qms : Nat → Nat) (Fms : Nat → Int32) (Ams : Nat → Nat → Int32) (Bms : Nat → Nat → Int64) (Dms : Int64) (hIms : IX8 Fms Ams) (qmh : Nat → Nat) (Fmh : Nat → Int32) (Amh : Nat → Nat → Int32) (Bmh : Nat → Nat → Int64) (Dmh : Int64) (hImh : IX3 Fmh Amh) (qmn : Nat → Nat) (Fmn : Nat → Int32) (Amn : Nat → Nat → Int32) (Bmn : Nat → Nat → Int64) (Dmn : Int64) (hImn : IX5 Fmn Amn) : ∀ sz : Nat, Met l yX10_anew (wk yX10_anew cX10_anew 2 (some .int)) (rmk 5 0 0) (PreD G (TY cs) [.ref adm] ((uX10 cs adm qm Fm Am Bm Dm) ++ ((uX8 cs (qm 3) qms Fms Ams Bms Dms) ++ ((uX3 cs (qms 0) qmh Fmh Amh Bmh Dmh) ++ (uX5 cs (qm 6) qmn Fmn Amn Bmn Dmn)))) sz) ((QDi G (fun (r : Int32) (u : Int32 × Int32 × Int32 × (Nat → Int32) × (Nat → Int32)) => ((0 : Int) ≤ u.2.2.1.toInt ∧ u.2.2.1.toInt ≤ 60) ∧ (True)) (fun u : Int32 × Int32 × Int32 × (Nat → Int32) × (Nat → Int32) => ((uX10 cs adm qm Fm Am Bm Dm) ++ ((uX8 cs (qm 3) qms (upd Fms 2 u.2.2.1) Ams Bms Dms) ++ ((uX3 cs (qms 0) qmh Fmh Amh Bmh Dmh) ++ (uX5 cs (qm 6) qmn (upd (upd Fmn 2 u.1) 3 u.2.1) (vA (vA Amn 0 u.2.2.2.1) 1 u.2.2.2.2) Bmn Dmn)))))) (va_A ((uX10 cs adm qm Fm Am Bm Dm) ++ ((uX8 cs (qm 3) qms Fms Ams Bms Dms) ++ ((uX3 cs (qms 0) qmh Fmh Amh Bmh Dmh) ++ (uX5 cs (qm 6) qmn Fmn Amn Bmn Dmn)))) sz)) 0 0 (va_A ((uX10 cs adm qm Fm Am Bm Dm) ++ ((uX8 cs (qm 3) qms Fms Ams Bms Dms) ++ ((uX3 cs (qms 0) qmh Fmh Amh Bmh Dmh) ++ (uX5 cs (qm 6) qmn Fmn Amn Bmn Dmn)))) sz) := by
  refine mkD (Qc := (QDi G (fun (r : Int32) (u : Int32 × Int32 × Int32 × (Nat → Int32) × (Nat → Int32)) => ((0 : Int) ≤ u.2.2.1.toInt ∧ u.2.2.1.toInt ≤ 60) ∧ (True)) (fun u : Int32 × Int32 × Int32 × (Nat → Int32) × (Nat → Int32) => ((uX10 cs adm qm Fm Am Bm Dm) ++ ((uX8 cs (qm 3) qms (upd Fms 2 u.2.2.1) Ams Bms Dms) ++ ((uX3 cs (qms 0) qmh Fmh Amh Bmh Dmh) ++ (uX5 cs (qm 6) qmn (upd (upd Fmn 2 u.1) 3 u.2.1) (vA (vA Amn 0 u.2.2.2.1) 1 u.2.2.2.2) Bmn Dmn))))))) (by decide) (by simp [lg_sl, Value.category]) ?_
  intro p e s m args below meth c ls A0 hx hb hml hr hlk hown hmn ht hK hP hD hS hA hl
  have hl : lv_has ls 2 [(0, .ref adm)] := hl
  refine lv_aload_n hx hb dX10_anew_0 rfl (lv_at hl 0 rfl) ?_
  refine behR (runVP (As := []) (rest := []) ⟨hx, hb, hml, hown, ht⟩ (sX10_hasHouse l G cs adm qm Fm Am Bm Dm hIm qms Fms Ams Bms Dms hIms qmh Fmh Amh Bmh Dmh hImh ) okV_RX10_152 ⟨by decide, by decide⟩ hK hP [0, 1, 2, 3, 4, 5, 6, 7, 8, 9, 10, 11, 12] rfl 0 rfl rfl hl.1 rfl (Nat.le_of_ble_eq_true rfl) dX10_anew_1 ⟨by decide, by decide⟩) hP hS hA (fun r1 H locs hr1 hP hS => ?_)
  have hr1 : (0 : Int) ≤ r1.toInt ∧ r1.toInt ≤ 1 := hr1
  refine lv_if_ne (tgt := 10) hx hb dX10_anew_4 (by decide) (fun c2 => ?_) (fun c2 => ?_)
  · have zc2 := neK rfl (show (0 : Int32).toInt = 0 by decide) c2
    refine lv_aload_n hx hb dX10_anew_10 rfl (lv_at hl 0 rfl) ?_
    refine getF (v := .ref (qm 3)) hx hb ht hown hK hP iTX10 0 3 rfl rfl (by decide) fl_RX10_31 rfl dX10_anew_11 ?_
    refine getF (v := .int (Fms 2)) hx hb ht hown hK hP iTX8 3 2 rfl rfl (by decide) fl_RX10_105 rfl dX10_anew_14 ?_
    have zf3 : (0 : Int) ≤ (Fms 2).toInt ∧ (Fms 2).toInt ≤ 60 := hIms.1 2
    refine lv_istore_n (lv' := [(1, .int (Fms 2)), (0, .ref adm)]) hx hb dX10_anew_17 rfl hl (by decide) rfl (fun ls hl => ?_)
    refine lv_aload_n hx hb dX10_anew_18 rfl (lv_at hl 1 rfl) ?_
    refine getF (v := .ref (qm 3)) hx hb ht hown hK hP iTX10 0 3 rfl rfl (by decide) fl_RX10_31 rfl dX10_anew_19 ?_
    refine lv_iconst (v := 0) hx hb dX10_anew_22 (by decide) ?_
    refine putD hx hb ht hown hK hP hD hS iTX8 tyX8 tyX8_ok nmX8 3 2 rfl rfl (by decide) fl_RX10_105 rfl rfl rfl (Nat.le_of_ble_eq_true rfl) dX10_anew_23 (fun H locs hP hD hS => ?_)
    have hP : va_P G vwCl ((uX10 cs adm qm Fm Am Bm Dm) ++ ((uX8 cs (qm 3) qms (upd Fms 2 (0 : Int32)) Ams Bms Dms) ++ ((uX3 cs (qms 0) qmh Fmh Amh Bmh Dmh) ++ (uX5 cs (qm 6) qmn Fmn Amn Bmn Dmn)))) H := hP
    have hD : va_D A0 ((uX10 cs adm qm Fm Am Bm Dm) ++ ((uX8 cs (qm 3) qms (upd Fms 2 (0 : Int32)) Ams Bms Dms) ++ ((uX3 cs (qms 0) qmh Fmh Amh Bmh Dmh) ++ (uX5 cs (qm 6) qmn Fmn Amn Bmn Dmn)))) := hD
    refine lv_aload_n hx hb dX10_anew_26 rfl (lv_at hl 1 rfl) ?_
    refine behDw (wr := ([] : va_W)) (runVD (As := []) (rest := []) ⟨hx, hb, hml, hown, ht⟩ (sX10_replay l G cs adm qm Fm Am Bm Dm hIm qms (upd Fms 2 (0 : Int32)) Ams Bms Dms (IB_put (k := 2) hIms (show (0 : Int) ≤ (0 : Int32).toInt ∧ (0 : Int32).toInt ≤ 60 by decide)) qmh Fmh Amh Bmh Dmh hImh qmn Fmn Amn Bmn Dmn hImn ) okV_RX10_108 ⟨by decide, by decide⟩ hK hP hD [0, 1, 2, 3, 4, 5, 6, 7, 8, 9, 10, 11, 12, 13, 14, 15] rfl (by decide) rfl 0 rfl rfl hl.1 rfl (Nat.le_of_ble_eq_true rfl) dX10_anew_27 ⟨(Nat.le_of_ble_eq_true rfl), (Nat.le_of_ble_eq_true rfl)⟩) hP hD hS hA [0, 1, 2, 3, 4, 5, 6, 7, 8, 9, 10, 11, 12, 13, 14, 15] [] rfl rfl (by decide) (by decide) (fun u H locs hu hP hD hS => ?_)
    obtain ⟨x4, x5, g6, g7⟩ := u
    have hr8 := hu
    have hP : va_P G vwCl ((uX10 cs adm qm Fm Am Bm Dm) ++ ((uX8 cs (qm 3) qms (upd Fms 2 (0 : Int32)) Ams Bms Dms) ++ ((uX3 cs (qms 0) qmh Fmh Amh Bmh Dmh) ++ (uX5 cs (qm 6) qmn (upd (upd Fmn 2 x4) 3 x5) (vA (vA Amn 0 g6) 1 g7) Bmn Dmn)))) H := hP.sub [0, 1, 2, 3, 4, 5, 6, 7, 8, 9, 10, 11, 12, 13, 14, 15] rfl
    have hD : va_D A0 ((uX10 cs adm qm Fm Am Bm Dm) ++ ((uX8 cs (qm 3) qms (upd Fms 2 (0 : Int32)) Ams Bms Dms) ++ ((uX3 cs (qms 0) qmh Fmh Amh Bmh Dmh) ++ (uX5 cs (qm 6) qmn (upd (upd Fmn 2 x4) 3 x5) (vA (vA Amn 0 g6) 1 g7) Bmn Dmn)))) := hD.sub [0, 1, 2, 3, 4, 5, 6, 7, 8, 9, 10, 11, 12, 13, 14, 15] (by decide) rfl
    refine lv_iload_n hx hb dX10_anew_30 rfl (lv_at hl 0 rfl) ?_
    exact retDi (x4, x5, (0 : Int32), g6, g7) hx hb hr hlk hP hD hS dX10_anew_31 (⟨show (0 : Int) ≤ (0 : Int32).toInt ∧ (0 : Int32).toInt ≤ 60 by decide, trivial⟩) (Nat.le_of_ble_eq_true rfl) (Nat.le_of_ble_eq_true rfl)
  · have zc2 := eqK rfl (show (0 : Int32).toInt = 0 by decide) c2
    refine lv_bipush (v := (-2)) hx hb dX10_anew_7 (by decide) ?_
    exact retDi ((Fmn 2), (Fmn 3), (Fms 2), (Amn 0), (Amn 1)) hx hb hr hlk hP hD hS dX10_anew_9 (⟨hIms.1 2, trivial⟩) (Nat.le_of_ble_eq_true rfl) (Nat.le_of_ble_eq_true rfl)

set_option maxRecDepth 100000 in
set_option maxHeartbeats 16000000 in
theorem sX10_later (l : Launch) (G : va_G) (cs : Nat → ClassId) (adm : Nat) (qm : Nat → Nat) (Fm : Nat → Int32) (Am : Nat → Nat → Int32) (Bm : Nat → Nat → Int64) (Dm : Int64) (hIm : IX10 Fm Am) (qms : Nat → Nat) (Fms : Nat → Int32) (Ams : Nat → Nat → Int32) (Bms : Nat → Nat → Int64) (Dms : Int64) (hIms : IX8 Fms Ams) (qmh : Nat → Nat) (Fmh : Nat → Int32) (Amh : Nat → Nat → Int32) (Bmh : Nat → Nat → Int64) (Dmh : Int64) (hImh : IX3 Fmh Amh) (qmn : Nat → Nat) (Fmn : Nat → Int32) (Amn : Nat → Nat → Int32) (Bmn : Nat → Nat → Int64) (Dmn : Int64) (hImn : IX5 Fmn Amn) (qmw : Nat → Nat) (Fmw : Nat → Int32) (Amw : Nat → Nat → Int32) (Bmw : Nat → Nat → Int64) (Dmw : Int64) (hImw : IX5 Fmw Amw) (a1 : Int32) (a2 : Int32) : ∀ sz : Nat, Met l yX10_later (wk yX10_later cX10_later 4 (some .int)) (rmk 3 0 0) (PreD G (TY cs) [.ref adm, .int a1, .int a2] ((uX10 cs adm qm Fm Am Bm Dm) ++ ((uX8 cs (qm 3) qms Fms Ams Bms Dms) ++ ((uX3 cs (qms 0) qmh Fmh Amh Bmh Dmh) ++ ((uX5 cs (qm 6) qmn Fmn Amn Bmn Dmn) ++ (uX5 cs (qm 7) qmw Fmw Amw Bmw Dmw))))) sz) ((QDi G (fun (r : Int32) (u : Int32 × Int32 × (Nat → Int32) × (Nat → Int32)) => True) (fun u : Int32 × Int32 × (Nat → Int32) × (Nat → Int32) => ((uX10 cs adm qm Fm Am Bm Dm) ++ ((uX8 cs (qm 3) qms Fms Ams Bms Dms) ++ ((uX3 cs (qms 0) qmh Fmh Amh Bmh Dmh) ++ ((uX5 cs (qm 6) qmn Fmn Amn Bmn Dmn) ++ (uX5 cs (qm 7) qmw (upd (upd Fmw 2 u.1) 3 u.2.1) (vA (vA Amw 0 u.2.2.1) 1 u.2.2.2) Bmw Dmw))))))) (va_A ((uX10 cs adm qm Fm Am Bm Dm) ++ ((uX8 cs (qm 3) qms Fms Ams Bms Dms) ++ ((uX3 cs (qms 0) qmh Fmh Amh Bmh Dmh) ++ ((uX5 cs (qm 6) qmn Fmn Amn Bmn Dmn) ++ (uX5 cs (qm 7) qmw Fmw Amw Bmw Dmw))))) sz)) 0 0 (va_A ((uX10 cs adm qm Fm Am Bm Dm) ++ ((uX8 cs (qm 3) qms Fms Ams Bms Dms) ++ ((uX3 cs (qms 0) qmh Fmh Amh Bmh Dmh) ++ ((uX5 cs (qm 6) qmn Fmn Amn Bmn Dmn) ++ (uX5 cs (qm 7) qmw Fmw Amw Bmw Dmw))))) sz) := by
  refine mkD (Qc := (QDi G (fun (r : Int32) (u : Int32 × Int32 × (Nat → Int32) × (Nat → Int32)) => True) (fun u : Int32 × Int32 × (Nat → Int32) × (Nat → Int32) => ((uX10 cs adm qm Fm Am Bm Dm) ++ ((uX8 cs (qm 3) qms Fms Ams Bms Dms) ++ ((uX3 cs (qms 0) qmh Fmh Amh Bmh Dmh) ++ ((uX5 cs (qm 6) qmn Fmn Amn Bmn Dmn) ++ (uX5 cs (qm 7) qmw (upd (upd Fmw 2 u.1) 3 u.2.1) (vA (vA Amw 0 u.2.2.1) 1 u.2.2.2) Bmw Dmw)))))))) (by decide) (by simp [lg_sl, Value.category]) ?_
  intro p e s m args below meth c ls A0 hx hb hml hr hlk hown hmn ht hK hP hD hS hA hl
  have hl : lv_has ls 4 [(0, .ref adm), (1, .int a1), (2, .int a2)] := hl
  refine lv_aload_n hx hb dX10_later_0 rfl (lv_at hl 0 rfl) ?_
  refine lv_iload_n hx hb dX10_later_1 rfl (lv_at hl 1 rfl) ?_
  refine behR (runVP (As := [.int a1]) (rest := []) ⟨hx, hb, hml, hown, ht⟩ (sX10_isRoomOrOut l G cs adm qm Fm Am Bm Dm hIm qms Fms Ams Bms Dms hIms qmh Fmh Amh Bmh Dmh hImh a1 ) okV_RX10_145 ⟨by decide, by decide⟩ hK hP [0, 1, 2, 3, 4, 5, 6, 7, 8, 9, 10, 11, 12] rfl 0 rfl rfl hl.1 rfl (Nat.le_of_ble_eq_true rfl) dX10_later_2 ⟨by decide, by decide⟩) hP hS hA (fun r1 H locs hr1 hP hS => ?_)
  have hr1 : (r1.toInt = 1 ∧ -1 ≤ a1.toInt ∧ a1.toInt ≤ 6) ∨ r1.toInt = 0 := hr1
  refine lv_if_eq (tgt := 19) hx hb dX10_later_5 (by decide) (fun c2 => ?_) (fun c2 => ?_)
  · have zc2 := eqK rfl (show (0 : Int32).toInt = 0 by decide) c2
    refine lv_bipush (v := (-2)) hx hb dX10_later_19 (by decide) ?_
    exact retDi ((Fmw 2), (Fmw 3), (Amw 0), (Amw 1)) hx hb hr hlk hP hD hS dX10_later_21 (trivial) (Nat.le_of_ble_eq_true rfl) (Nat.le_of_ble_eq_true rfl)
  · have zc2 := neK rfl (show (0 : Int32).toInt = 0 by decide) c2
    refine lv_iload_n hx hb dX10_later_8 rfl (lv_at hl 2 rfl) ?_
    refine lv_if_lt (tgt := 19) hx hb dX10_later_9 (by decide) (fun c3 => ?_) (fun c3 => ?_)
    · have zc3 := ltK rfl (show (0 : Int32).toInt = 0 by decide) c3
      refine lv_bipush (v := (-2)) hx hb dX10_later_19 (by decide) ?_
      exact retDi ((Fmw 2), (Fmw 3), (Amw 0), (Amw 1)) hx hb hr hlk hP hD hS dX10_later_21 (trivial) (Nat.le_of_ble_eq_true rfl) (Nat.le_of_ble_eq_true rfl)
    · have zc3 := nltK rfl (show (0 : Int32).toInt = 0 by decide) c3
      refine lv_iload_n hx hb dX10_later_12 rfl (lv_at hl 2 rfl) ?_
      refine lv_sipush (v := 200) hx hb dX10_later_13 (by decide) ?_
      refine lv_icmp_le (tgt := 22) hx hb dX10_later_16 (by decide) (fun c4 => ?_) (fun c4 => ?_)
      · have zc4 := leK rfl (show (200 : Int32).toInt = 200 by decide) c4
        refine lv_aload_n hx hb dX10_later_22 rfl (lv_at hl 0 rfl) ?_
        refine getF (v := .ref (qm 7)) hx hb ht hown hK hP iTX10 0 7 rfl rfl (by decide) fl_RX10_52 rfl dX10_later_23 ?_
        refine lv_aload_n hx hb dX10_later_26 rfl (lv_at hl 0 rfl) ?_
        refine getF (v := .ref (qm 6)) hx hb ht hown hK hP iTX10 0 6 rfl rfl (by decide) fl_RX10_48 rfl dX10_later_27 ?_
        refine behDw (wr := ((uX10 cs adm qm Fm Am Bm Dm) ++ ((uX8 cs (qm 3) qms Fms Ams Bms Dms) ++ (uX3 cs (qms 0) qmh Fmh Amh Bmh Dmh)))) (runVD (As := [.ref (qm 6)]) (rest := []) ⟨hx, hb, hml, hown, ht⟩ (sX5_copyFrom l G cs (qm 7) qmw Fmw Amw Bmw Dmw hImw (qm 6) qmn Fmn Amn Bmn Dmn hImn ) okV_RX10_179 ⟨by decide, by decide⟩ hK hP hD [16, 17, 18, 13, 14, 15] rfl (by decide) rfl 16 rfl rfl hl.1 rfl (Nat.le_of_ble_eq_true rfl) dX10_later_30 ⟨(Nat.le_of_ble_eq_true rfl), (Nat.le_of_ble_eq_true rfl)⟩) hP hD hS hA [16, 17, 18, 13, 14, 15] [0, 1, 2, 3, 4, 5, 6, 7, 8, 9, 10, 11, 12] rfl rfl (by decide) (by decide) (fun u H locs hu hP hD hS => ?_)
        obtain ⟨x5, x6, g7⟩ := u
        have hr8 := hu
        have hP : va_P G vwCl ((uX10 cs adm qm Fm Am Bm Dm) ++ ((uX8 cs (qm 3) qms Fms Ams Bms Dms) ++ ((uX3 cs (qms 0) qmh Fmh Amh Bmh Dmh) ++ ((uX5 cs (qm 6) qmn Fmn Amn Bmn Dmn) ++ (uX5 cs (qm 7) qmw (upd (upd Fmw 2 x5) 3 x6) (vA Amw 0 g7) Bmw Dmw))))) H := hP.sub [0, 1, 2, 3, 4, 5, 6, 7, 8, 9, 10, 11, 12, 16, 17, 18, 13, 14, 15] rfl
        have hD : va_D A0 ((uX10 cs adm qm Fm Am Bm Dm) ++ ((uX8 cs (qm 3) qms Fms Ams Bms Dms) ++ ((uX3 cs (qms 0) qmh Fmh Amh Bmh Dmh) ++ ((uX5 cs (qm 6) qmn Fmn Amn Bmn Dmn) ++ (uX5 cs (qm 7) qmw (upd (upd Fmw 2 x5) 3 x6) (vA Amw 0 g7) Bmw Dmw))))) := hD.sub [0, 1, 2, 3, 4, 5, 6, 7, 8, 9, 10, 11, 12, 16, 17, 18, 13, 14, 15] (by decide) rfl
        refine lv_iconst (v := 0) hx hb dX10_later_33 (by decide) ?_
        refine lv_istore_n (lv' := [(3, .int 0), (0, .ref adm), (1, .int a1), (2, .int a2)]) hx hb dX10_later_34 rfl hl (by decide) rfl (fun ls hl => ?_)
        have B35 : ∀ (n : Nat) (x35_3 : Int32) (amw0_35 : (Nat → Int32)) (amw1_35 : (Nat → Int32)) (H : Heap) (locs : List Loc) (ls : Array Slot), (200 - x35_3.toInt).toNat < n → (0 : Int) ≤ x35_3.toInt ∧ x35_3.toInt ≤ 200 → va_P G vwCl ((uX10 cs adm qm Fm Am Bm Dm) ++ ((uX8 cs (qm 3) qms Fms Ams Bms Dms) ++ ((uX3 cs (qms 0) qmh Fmh Amh Bmh Dmh) ++ ((uX5 cs (qm 6) qmn Fmn Amn Bmn Dmn) ++ (uX5 cs (qm 7) qmw (upd (upd Fmw 2 x5) 3 x6) (vA (vA Amw 0 amw0_35) 1 amw1_35) Bmw Dmw))))) H → va_D A0 ((uX10 cs adm qm Fm Am Bm Dm) ++ ((uX8 cs (qm 3) qms Fms Ams Bms Dms) ++ ((uX3 cs (qms 0) qmh Fmh Amh Bmh Dmh) ++ ((uX5 cs (qm 6) qmn Fmn Amn Bmn Dmn) ++ (uX5 cs (qm 7) qmw (upd (upd Fmw 2 x5) 3 x6) (vA (vA Amw 0 amw0_35) 1 amw1_35) Bmw Dmw))))) → va_S A0 s.heap H locs → lv_has ls 4 [(0, .ref adm), (1, .int a1), (2, .int a2), (3, .int x35_3)] → W p l e (rmk 3 0 0) s m args below meth c H locs 0 0 (MQ below ((QDi G (fun (r : Int32) (u : Int32 × Int32 × (Nat → Int32) × (Nat → Int32)) => True) (fun u : Int32 × Int32 × (Nat → Int32) × (Nat → Int32) => ((uX10 cs adm qm Fm Am Bm Dm) ++ ((uX8 cs (qm 3) qms Fms Ams Bms Dms) ++ ((uX3 cs (qms 0) qmh Fmh Amh Bmh Dmh) ++ ((uX5 cs (qm 6) qmn Fmn Amn Bmn Dmn) ++ (uX5 cs (qm 7) qmw (upd (upd Fmw 2 u.1) 3 u.2.1) (vA (vA Amw 0 u.2.2.1) 1 u.2.2.2) Bmw Dmw))))))) A0) args s 0 0 A0) (F0 m 35 ls []) := by
          intro n
          induction n with
          | zero => intro x35_3 amw0_35 amw1_35 H locs ls hmeas hx35_3 hP hD hS hl; exact absurd hmeas (Nat.not_lt_zero _)
          | succ n ih35 =>
            intro x35_3 amw0_35 amw1_35 H locs ls hmeas hx35_3 hP hD hS hl
            refine lv_iload_n hx hb dX10_later_35 rfl (lv_at hl 3 rfl) ?_
            refine lv_iload_n hx hb dX10_later_36 rfl (lv_at hl 2 rfl) ?_
            refine lv_icmp_ge (tgt := 62) hx hb dX10_later_37 (by decide) (fun c17001 => ?_) (fun c17001 => ?_)
            · have zc17001 := leK rfl rfl c17001
              refine lv_aload_n hx hb dX10_later_62 rfl (lv_at hl 0 rfl) ?_
              refine getF (v := .ref (qm 7)) hx hb ht hown hK hP iTX10 0 7 rfl rfl (by decide) fl_RX10_52 rfl dX10_later_63 ?_
              refine lv_iload_n hx hb dX10_later_66 rfl (lv_at hl 1 rfl) ?_
              refine behR (runVP (As := [.int a1]) (rest := []) ⟨hx, hb, hml, hown, ht⟩ (sX5_of l G cs (qm 7) qmw (upd (upd Fmw 2 x5) 3 x6) (vA (vA Amw 0 amw0_35) 1 amw1_35) Bmw Dmw (IB_arr (k := 1) (IB_arr (k := 0) (IB_put (k := 3) (IB_put (k := 2) hImw (i32b _)) (i32b _)) (AJ_full _)) (AJ_full _)) a1 ) okV_RX10_148 ⟨by decide, by decide⟩ hK hP [16, 17, 18] rfl 16 rfl rfl hl.1 rfl (Nat.le_of_ble_eq_true rfl) dX10_later_67 ⟨by decide, by decide⟩) hP hS hA (fun r17002 H locs hr17002 hP hS => ?_)
              exact retDi (x5, x6, amw0_35, amw1_35) hx hb hr hlk hP hD hS dX10_later_70 (trivial) (Nat.le_of_ble_eq_true rfl) (Nat.le_of_ble_eq_true rfl)
            · have zc17001 := nleK rfl rfl c17001
              refine lv_aload_n hx hb dX10_later_40 rfl (lv_at hl 0 rfl) ?_
              refine getF (v := .ref (qm 7)) hx hb ht hown hK hP iTX10 0 7 rfl rfl (by decide) fl_RX10_52 rfl dX10_later_41 ?_
              refine lv_aload_n hx hb dX10_later_44 rfl (lv_at hl 0 rfl) ?_
              refine getF (v := .ref (qm 3)) hx hb ht hown hK hP iTX10 0 3 rfl rfl (by decide) fl_RX10_31 rfl dX10_later_45 ?_
              refine getF (v := .ref (qms 0)) hx hb ht hown hK hP iTX8 3 0 rfl rfl (by decide) fl_RX10_98 rfl dX10_later_48 ?_
              refine lv_iconst (v := (-1)) hx hb dX10_later_51 (by decide) ?_
              refine behDi (wr := ((uX10 cs adm qm Fm Am Bm Dm) ++ ((uX8 cs (qm 3) qms Fms Ams Bms Dms) ++ (uX5 cs (qm 6) qmn Fmn Amn Bmn Dmn)))) (runVD (As := [.ref (qms 0), .int (-1)]) (rest := []) ⟨hx, hb, hml, hown, ht⟩ (sX5_pass l G cs (qm 7) qmw (upd (upd Fmw 2 x5) 3 x6) (vA (vA Amw 0 amw0_35) 1 amw1_35) Bmw Dmw (IB_arr (k := 1) (IB_arr (k := 0) (IB_put (k := 3) (IB_put (k := 2) hImw (i32b _)) (i32b _)) (AJ_full _)) (AJ_full _)) (qms 0) qmh Fmh Amh Bmh Dmh hImh (-1) ) okV_RX10_182 ⟨by decide, by decide⟩ hK hP hD [16, 17, 18, 5, 6, 7, 8, 9, 10, 11, 12] rfl (by decide) rfl 16 rfl rfl hl.1 rfl (Nat.le_of_ble_eq_true rfl) dX10_later_52 ⟨(Nat.le_of_ble_eq_true rfl), (Nat.le_of_ble_eq_true rfl)⟩) hP hD hS hA [16, 17, 18, 5, 6, 7, 8, 9, 10, 11, 12] [0, 1, 2, 3, 4, 13, 14, 15] rfl rfl (by decide) (by decide) (fun r9 u H locs hu hP hD hS => ?_)
              obtain ⟨g17003, g17004⟩ := u
              have kk17006 : (-1 : Int32).toInt = (-1) := by decide
              obtain ⟨r17005, rfl⟩ : ∃ z, z = r9 := ⟨_, rfl⟩
              have hr17005 := hu
              have hr17005 : (0 : Int) ≤ r17005.toInt ∧ r17005.toInt ≤ 1 := hr17005
              have hP : va_P G vwCl ((uX10 cs adm qm Fm Am Bm Dm) ++ ((uX8 cs (qm 3) qms Fms Ams Bms Dms) ++ ((uX3 cs (qms 0) qmh Fmh Amh Bmh Dmh) ++ ((uX5 cs (qm 6) qmn Fmn Amn Bmn Dmn) ++ (uX5 cs (qm 7) qmw (upd (upd Fmw 2 x5) 3 x6) (vA (vA Amw 0 g17003) 1 g17004) Bmw Dmw))))) H := hP.sub [0, 1, 2, 3, 4, 11, 12, 13, 14, 15, 16, 17, 18, 5, 6, 7, 8, 9, 10] rfl
              have hD : va_D A0 ((uX10 cs adm qm Fm Am Bm Dm) ++ ((uX8 cs (qm 3) qms Fms Ams Bms Dms) ++ ((uX3 cs (qms 0) qmh Fmh Amh Bmh Dmh) ++ ((uX5 cs (qm 6) qmn Fmn Amn Bmn Dmn) ++ (uX5 cs (qm 7) qmw (upd (upd Fmw 2 x5) 3 x6) (vA (vA Amw 0 g17003) 1 g17004) Bmw Dmw))))) := hD.sub [0, 1, 2, 3, 4, 11, 12, 13, 14, 15, 16, 17, 18, 5, 6, 7, 8, 9, 10] (by decide) rfl
              refine lv_pop hx hb dX10_later_55 rfl ?_
              obtain ⟨v17007, ev17007⟩ : ∃ z : Int32, z = x35_3 + 1 := ⟨_, rfl⟩
              have tv17007 : v17007.toInt = x35_3.toInt + 1 := by rw [ev17007]; exact addT rfl (by decide) (by omega)
              refine lv_iinc (v := v17007) (lv' := [(3, .int v17007), (0, .ref adm), (1, .int a1), (2, .int a2)]) hx hb dX10_later_56 hl (k := 3) rfl (by rw [ev17007]; rfl) (by decide) rfl (fun ls hl => ?_)
              refine lv_goto (tgt := 35) hx hb dX10_later_59 (by decide) ?_
              exact ih35 v17007 g17003 g17004 H locs ls (by omega) (by omega) hP hD hS (lv_sub hl [1, 2, 3, 0] rfl)
        exact B35 _ 0 g7 (Amw 1) H locs ls (Nat.lt_succ_self _) (by decide) hP hD hS (lv_sub hl [1, 2, 3, 0] rfl)
      · have zc4 := nleK rfl (show (200 : Int32).toInt = 200 by decide) c4
        refine lv_bipush (v := (-2)) hx hb dX10_later_19 (by decide) ?_
        exact retDi ((Fmw 2), (Fmw 3), (Amw 0), (Amw 1)) hx hb hr hlk hP hD hS dX10_later_21 (trivial) (Nat.le_of_ble_eq_true rfl) (Nat.le_of_ble_eq_true rfl)

set_option maxRecDepth 100000 in
set_option maxHeartbeats 16000000 in
theorem sX10_round_0 (l : Launch) (G : va_G) (cs : Nat → ClassId) (adm : Nat) (qm : Nat → Nat) (Fm : Nat → Int32) (Am : Nat → Nat → Int32) (Bm : Nat → Nat → Int64) (Dm : Int64) (hIm : IX10 Fm Am) (qms : Nat → Nat) (Fms : Nat → Int32) (Ams : Nat → Nat → Int32) (Bms : Nat → Nat → Int64) (Dms : Int64) (hIms : IX8 Fms Ams) (qmh : Nat → Nat) (Fmh : Nat → Int32) (Amh : Nat → Nat → Int32) (Bmh : Nat → Nat → Int64) (Dmh : Int64) (hImh : IX3 Fmh Amh) (qmn : Nat → Nat) (Fmn : Nat → Int32) (Amn : Nat → Nat → Int32) (Bmn : Nat → Nat → Int64) (Dmn : Int64) (hImn : IX5 Fmn Amn) (qmw : Nat → Nat) (Fmw : Nat → Int32) (Amw : Nat → Nat → Int32) (Bmw : Nat → Nat → Int64) (Dmw : Int64) (hImw : IX5 Fmw Amw) (qr0 : Nat → Nat) (Fr0 : Nat → Int32) (Ar0 : Nat → Nat → Int32) (Br0 : Nat → Nat → Int64) (Dr0 : Int64) (hIr0 : IX7 Fr0 Ar0) : ∀ sz : Nat, Met l yX10_round (wk yX10_round cX10_round 3 (some .int)) (rmk 5 0 0) (PreD G (TY cs) [.ref adm, .int 0] ((uX10 cs adm qm Fm Am Bm Dm) ++ ((uX8 cs (qm 3) qms Fms Ams Bms Dms) ++ ((uX3 cs (qms 0) qmh Fmh Amh Bmh Dmh) ++ ((uX5 cs (qm 6) qmn Fmn Amn Bmn Dmn) ++ ((uX5 cs (qm 7) qmw Fmw Amw Bmw Dmw) ++ (uX7 cs (qm 20) qr0 Fr0 Ar0 Br0 Dr0)))))) sz) ((QDi G (fun (r : Int32) (u : Int32 × Int32 × (Nat → Int32) × (Nat → Int32)) => True) (fun u : Int32 × Int32 × (Nat → Int32) × (Nat → Int32) => ((uX10 cs adm qm Fm Am Bm Dm) ++ ((uX8 cs (qm 3) qms Fms Ams Bms Dms) ++ ((uX3 cs (qms 0) qmh Fmh Amh Bmh Dmh) ++ ((uX5 cs (qm 6) qmn Fmn Amn Bmn Dmn) ++ ((uX5 cs (qm 7) qmw (upd (upd Fmw 2 u.1) 3 u.2.1) (vA (vA Amw 0 u.2.2.1) 1 u.2.2.2) Bmw Dmw) ++ (uX7 cs (qm 20) qr0 Fr0 Ar0 Br0 Dr0)))))))) (va_A ((uX10 cs adm qm Fm Am Bm Dm) ++ ((uX8 cs (qm 3) qms Fms Ams Bms Dms) ++ ((uX3 cs (qms 0) qmh Fmh Amh Bmh Dmh) ++ ((uX5 cs (qm 6) qmn Fmn Amn Bmn Dmn) ++ ((uX5 cs (qm 7) qmw Fmw Amw Bmw Dmw) ++ (uX7 cs (qm 20) qr0 Fr0 Ar0 Br0 Dr0)))))) sz)) 0 0 (va_A ((uX10 cs adm qm Fm Am Bm Dm) ++ ((uX8 cs (qm 3) qms Fms Ams Bms Dms) ++ ((uX3 cs (qms 0) qmh Fmh Amh Bmh Dmh) ++ ((uX5 cs (qm 6) qmn Fmn Amn Bmn Dmn) ++ ((uX5 cs (qm 7) qmw Fmw Amw Bmw Dmw) ++ (uX7 cs (qm 20) qr0 Fr0 Ar0 Br0 Dr0)))))) sz) := by
  refine mkD (Qc := (QDi G (fun (r : Int32) (u : Int32 × Int32 × (Nat → Int32) × (Nat → Int32)) => True) (fun u : Int32 × Int32 × (Nat → Int32) × (Nat → Int32) => ((uX10 cs adm qm Fm Am Bm Dm) ++ ((uX8 cs (qm 3) qms Fms Ams Bms Dms) ++ ((uX3 cs (qms 0) qmh Fmh Amh Bmh Dmh) ++ ((uX5 cs (qm 6) qmn Fmn Amn Bmn Dmn) ++ ((uX5 cs (qm 7) qmw (upd (upd Fmw 2 u.1) 3 u.2.1) (vA (vA Amw 0 u.2.2.1) 1 u.2.2.2) Bmw Dmw) ++ (uX7 cs (qm 20) qr0 Fr0 Ar0 Br0 Dr0))))))))) (by decide) (by simp [lg_sl, Value.category]) ?_
  intro p e s m args below meth c ls A0 hx hb hml hr hlk hown hmn ht hK hP hD hS hA hl
  have hl : lv_has ls 3 [(0, .ref adm), (1, .int 0)] := hl
  refine lv_aload_n hx hb dX10_round_0 rfl (lv_at hl 0 rfl) ?_
  refine lv_iload_n hx hb dX10_round_1 rfl (lv_at hl 1 rfl) ?_
  refine lv_iconst (v := 1) hx hb dX10_round_2 (by decide) ?_
  refine behR (runVP (As := [.int 0, .int 1]) (rest := []) ⟨hx, hb, hml, hown, ht⟩ (sX10_askRound_0 l G cs adm qm Fm Am Bm Dm hIm qms Fms Ams Bms Dms hIms qmh Fmh Amh Bmh Dmh hImh qr0 Fr0 Ar0 Br0 Dr0 hIr0 1 (by decide)) okV_RX10_186 ⟨by decide, by decide⟩ hK hP [0, 1, 2, 3, 4, 5, 6, 7, 8, 9, 10, 11, 12, 19, 20] rfl 0 rfl rfl hl.1 rfl (Nat.le_of_ble_eq_true rfl) dX10_round_3 ⟨by decide, by decide⟩) hP hS hA (fun r1 H locs hr1 hP hS => ?_)
  have kk2 : (0 : Int32).toInt = 0 := by decide
  have kk3 : (1 : Int32).toInt = 1 := by decide
  have hr1 : ((r1.toInt = 0 ∧ (1 : Int32).toInt = 1) ∨ r1.toInt = -2 ∨ r1.toInt = -6) ∧ RWk r1 0 (Br0 0) (-1) ((Fmh 5).toInt - 1) (Fr0 3).toInt := hr1
  refine lv_istore_n (lv' := [(2, .int r1), (0, .ref adm), (1, .int 0)]) hx hb dX10_round_6 rfl hl (by decide) rfl (fun ls hl => ?_)
  refine lv_iload_n hx hb dX10_round_7 rfl (lv_at hl 0 rfl) ?_
  refine lv_if_eq (tgt := 15) hx hb dX10_round_8 (by decide) (fun c4 => ?_) (fun c4 => ?_)
  · have zc4 := eqK rfl (show (0 : Int32).toInt = 0 by decide) c4
    refine lv_aload_n hx hb dX10_round_15 rfl (lv_at hl 1 rfl) ?_
    refine lv_aload_n hx hb dX10_round_16 rfl (lv_at hl 1 rfl) ?_
    refine getF (v := .ref (qm 5)) hx hb ht hown hK hP iTX10 0 5 rfl rfl (by decide) fl_RX10_41 rfl dX10_round_17 ?_
    refine lv_iload_n hx hb dX10_round_20 rfl (lv_at hl 2 rfl) ?_
    refine va_aldq hx hb hK.1 hP 2 5 rfl rfl (show ¬ (_ ∨ _) by decide) dX10_round_21 ?_
    refine W.eq (g2 := F0 m 22 ls [.ref (qm 20), .ref adm]) rfl ?_
    refine lv_iconst (v := 0) hx hb dX10_round_22 (by decide) ?_
    refine behDi (wr := ([] : va_W)) (runVD (As := [.ref (qm 20), .int 0]) (rest := []) ⟨hx, hb, hml, hown, ht⟩ (sX10_foundIn l G cs adm qm Fm Am Bm Dm hIm qms Fms Ams Bms Dms hIms qmh Fmh Amh Bmh Dmh hImh qmn Fmn Amn Bmn Dmn hImn qmw Fmw Amw Bmw Dmw hImw (qm 20) qr0 Fr0 Ar0 Br0 Dr0 hIr0 0 (by decide)) okV_RX10_190 ⟨by decide, by decide⟩ hK hP hD [0, 1, 2, 3, 4, 5, 6, 7, 8, 9, 10, 11, 12, 13, 14, 15, 16, 17, 18, 19, 20] rfl (by decide) rfl 0 rfl rfl hl.1 rfl (Nat.le_of_ble_eq_true rfl) dX10_round_23 ⟨(Nat.le_of_ble_eq_true rfl), (Nat.le_of_ble_eq_true rfl)⟩) hP hD hS hA [0, 1, 2, 3, 4, 5, 6, 7, 8, 9, 10, 11, 12, 13, 14, 15, 16, 17, 18, 19, 20] [] rfl rfl (by decide) (by decide) (fun r9 u H locs hu hP hD hS => ?_)
    obtain ⟨x5, x6, g7, g8⟩ := u
    obtain ⟨r9, rfl⟩ : ∃ z, z = r9 := ⟨_, rfl⟩
    have hr9 := hu
    have hP : va_P G vwCl ((uX10 cs adm qm Fm Am Bm Dm) ++ ((uX8 cs (qm 3) qms Fms Ams Bms Dms) ++ ((uX3 cs (qms 0) qmh Fmh Amh Bmh Dmh) ++ ((uX5 cs (qm 6) qmn Fmn Amn Bmn Dmn) ++ ((uX5 cs (qm 7) qmw (upd (upd Fmw 2 x5) 3 x6) (vA (vA Amw 0 g7) 1 g8) Bmw Dmw) ++ (uX7 cs (qm 20) qr0 Fr0 Ar0 Br0 Dr0)))))) H := hP.sub [0, 1, 2, 3, 4, 5, 6, 7, 8, 9, 10, 11, 12, 13, 14, 15, 16, 17, 18, 19, 20] rfl
    have hD : va_D A0 ((uX10 cs adm qm Fm Am Bm Dm) ++ ((uX8 cs (qm 3) qms Fms Ams Bms Dms) ++ ((uX3 cs (qms 0) qmh Fmh Amh Bmh Dmh) ++ ((uX5 cs (qm 6) qmn Fmn Amn Bmn Dmn) ++ ((uX5 cs (qm 7) qmw (upd (upd Fmw 2 x5) 3 x6) (vA (vA Amw 0 g7) 1 g8) Bmw Dmw) ++ (uX7 cs (qm 20) qr0 Fr0 Ar0 Br0 Dr0)))))) := hD.sub [0, 1, 2, 3, 4, 5, 6, 7, 8, 9, 10, 11, 12, 13, 14, 15, 16, 17, 18, 19, 20] (by decide) rfl
    exact retDi (x5, x6, g7, g8) hx hb hr hlk hP hD hS dX10_round_26 (trivial) (Nat.le_of_ble_eq_true rfl) (Nat.le_of_ble_eq_true rfl)
  · have zc4 := neK rfl (show (0 : Int32).toInt = 0 by decide) c4
    refine lv_iload_n hx hb dX10_round_11 rfl (lv_at hl 0 rfl) ?_
    refine lv_goto (tgt := 26) hx hb dX10_round_12 (by decide) ?_
    exact retDi ((Fmw 2), (Fmw 3), (Amw 0), (Amw 1)) hx hb hr hlk hP hD hS dX10_round_26 (trivial) (Nat.le_of_ble_eq_true rfl) (Nat.le_of_ble_eq_true rfl)

