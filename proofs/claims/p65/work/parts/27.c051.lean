set_option maxRecDepth 100000 in
set_option maxHeartbeats 16000000 in
theorem sX10_one (l : Launch) (G : va_G) (cs : Nat → ClassId) (adm : Nat) (qm : Nat → Nat) (Fm : Nat → Int32) (Am : Nat → Nat → Int32) (Bm : Nat → Nat → Int64) (Dm : Int64) (hIm : IX10 Fm Am) (qms : Nat → Nat) (Fms : Nat → Int32) (Ams : Nat → Nat → Int32) (Bms : Nat → Nat → Int64) (Dms : Int64) (hIms : IX8 Fms Ams) (qmh : Nat → Nat) (Fmh : Nat → Int32) (Amh : Nat → Nat → Int32) (Bmh : Nat → Nat → Int64) (Dmh : Int64) (hImh : IX3 Fmh Amh) (qmc : Nat → Nat) (Fmc : Nat → Int32) (Amc : Nat → Nat → Int32) (Bmc : Nat → Nat → Int64) (Dmc : Int64) (hImc : IX1 Fmc Amc) (a1 : Int32) : ∀ sz : Nat, Met l yX10_one (wk yX10_one cX10_one 2 (some .int)) (rmk 5 0 0) (PreD G (TY cs) [.ref adm, .int a1] ((uX10 cs adm qm Fm Am Bm Dm) ++ ((uX8 cs (qm 3) qms Fms Ams Bms Dms) ++ ((uX3 cs (qms 0) qmh Fmh Amh Bmh Dmh) ++ (uX1 cs (qm 9) qmc Fmc Amc Bmc Dmc)))) sz) ((QDi G (fun (r : Int32) (u : Int32 × Int32 × (Nat → Int32) × (Nat → Int32) × (Nat → Int64)) => ((0 : Int) ≤ u.1.toInt ∧ u.1.toInt ≤ 1792) ∧ ((-1 : Int) ≤ u.2.1.toInt ∧ u.2.1.toInt ≤ 1791) ∧ AJ (0) 6271 u.2.2.1 ∧ AJ (-1) 1791 u.2.2.2.1 ∧ (True)) (fun u : Int32 × Int32 × (Nat → Int32) × (Nat → Int32) × (Nat → Int64) => ((uX10 cs adm qm Fm Am Bm Dm) ++ ((uX8 cs (qm 3) qms Fms Ams Bms Dms) ++ ((uX3 cs (qms 0) qmh Fmh Amh Bmh Dmh) ++ (wX1 cs (qm 9) qmc (upd (upd Fmc 5 u.1) 6 u.2.1) (vA (vA Amc 1 u.2.2.1) 2 u.2.2.2.1) (vA Bmc 0 u.2.2.2.2) Dmc)))))) (va_A ((uX10 cs adm qm Fm Am Bm Dm) ++ ((uX8 cs (qm 3) qms Fms Ams Bms Dms) ++ ((uX3 cs (qms 0) qmh Fmh Amh Bmh Dmh) ++ (uX1 cs (qm 9) qmc Fmc Amc Bmc Dmc)))) sz)) 0 0 (va_A ((uX10 cs adm qm Fm Am Bm Dm) ++ ((uX8 cs (qm 3) qms Fms Ams Bms Dms) ++ ((uX3 cs (qms 0) qmh Fmh Amh Bmh Dmh) ++ (uX1 cs (qm 9) qmc Fmc Amc Bmc Dmc)))) sz) := by
  refine mkD (Qc := (QDi G (fun (r : Int32) (u : Int32 × Int32 × (Nat → Int32) × (Nat → Int32) × (Nat → Int64)) => ((0 : Int) ≤ u.1.toInt ∧ u.1.toInt ≤ 1792) ∧ ((-1 : Int) ≤ u.2.1.toInt ∧ u.2.1.toInt ≤ 1791) ∧ AJ (0) 6271 u.2.2.1 ∧ AJ (-1) 1791 u.2.2.2.1 ∧ (True)) (fun u : Int32 × Int32 × (Nat → Int32) × (Nat → Int32) × (Nat → Int64) => ((uX10 cs adm qm Fm Am Bm Dm) ++ ((uX8 cs (qm 3) qms Fms Ams Bms Dms) ++ ((uX3 cs (qms 0) qmh Fmh Amh Bmh Dmh) ++ (wX1 cs (qm 9) qmc (upd (upd Fmc 5 u.1) 6 u.2.1) (vA (vA Amc 1 u.2.2.1) 2 u.2.2.2.1) (vA Bmc 0 u.2.2.2.2) Dmc))))))) (by decide) (by simp [lg_sl, Value.category]) ?_
  intro p e s m args below meth c ls A0 hx hb hml hr hlk hown hmn ht hK hP hD hS hA hl
  have hl : lv_has ls 2 [(0, .ref adm), (1, .int a1)] := hl
  refine lv_aload_n hx hb dX10_one_0 rfl (lv_at hl 0 rfl) ?_
  refine lv_iload_n hx hb dX10_one_1 rfl (lv_at hl 1 rfl) ?_
  refine behR (runVP (As := [.int a1]) (rest := []) ⟨hx, hb, hml, hown, ht⟩ (sX10_isRoom l G cs adm qm Fm Am Bm Dm hIm qms Fms Ams Bms Dms hIms qmh Fmh Amh Bmh Dmh hImh a1 ) okV_RX10_120 ⟨by decide, by decide⟩ hK hP [0, 1, 2, 3, 4, 5, 6, 7, 8, 9, 10, 11, 12] rfl 0 rfl rfl hl.1 rfl (Nat.le_of_ble_eq_true rfl) dX10_one_2 ⟨by decide, by decide⟩) hP hS hA (fun r1 H locs hr1 hP hS => ?_)
  have hr1 : (r1.toInt = 1 ∧ 0 ≤ a1.toInt ∧ a1.toInt < (Fmh 5).toInt ∧ a1.toInt ≤ 6) ∨ r1.toInt = 0 := hr1
  refine lv_if_ne (tgt := 11) hx hb dX10_one_5 (by decide) (fun c2 => ?_) (fun c2 => ?_)
  · have zc2 := neK rfl (show (0 : Int32).toInt = 0 by decide) c2
    refine lv_aload_n hx hb dX10_one_11 rfl (lv_at hl 0 rfl) ?_
    refine getF (v := .ref (qm 9)) hx hb ht hown hK hP iTX10 0 9 rfl rfl (by decide) fl_RX10_65 rfl dX10_one_12 ?_
    refine lv_aload_n hx hb dX10_one_15 rfl (lv_at hl 0 rfl) ?_
    refine getF (v := .ref (qm 3)) hx hb ht hown hK hP iTX10 0 3 rfl rfl (by decide) fl_RX10_31 rfl dX10_one_16 ?_
    refine getF (v := .ref (qms 0)) hx hb ht hown hK hP iTX8 3 0 rfl rfl (by decide) fl_RX10_98 rfl dX10_one_19 ?_
    refine lv_iload_n hx hb dX10_one_22 rfl (lv_at hl 1 rfl) ?_
    refine lv_iload_n hx hb dX10_one_23 rfl (lv_at hl 1 rfl) ?_
    refine lv_iconst (v := 1) hx hb dX10_one_24 (by decide) ?_
    refine behDi (wr := ((uX10 cs adm qm Fm Am Bm Dm) ++ (uX8 cs (qm 3) qms Fms Ams Bms Dms))) (runVD (As := [.ref (qms 0), .int a1, .int a1, .int 1]) (rest := []) ⟨hx, hb, hml, hown, ht⟩ (sX1_hunt l G cs (qm 9) qmc Fmc Amc Bmc Dmc hImc (qms 0) qmh Fmh Amh Bmh Dmh hImh a1 a1 1 (by omega) (by omega) (by decide)) okV_RX10_253 ⟨by decide, by decide⟩ hK hP hD [13, 14, 15, 16, 17, 18, 5, 6, 7, 8, 9, 10, 11, 12] rfl (by decide) rfl 13 rfl rfl hl.1 rfl (Nat.le_of_ble_eq_true rfl) dX10_one_25 ⟨(Nat.le_of_ble_eq_true rfl), (Nat.le_of_ble_eq_true rfl)⟩) hP hD hS hA [13, 14, 15, 16, 17, 18, 5, 6, 7, 8, 9, 10, 11, 12] [0, 1, 2, 3, 4] rfl rfl (by decide) (by decide) (fun r9 u H locs hu hP hD hS => ?_)
    obtain ⟨x3, x4, g5, g6, y7⟩ := u
    have kk9 : (1 : Int32).toInt = 1 := by decide
    obtain ⟨r8, rfl⟩ : ∃ z, z = r9 := ⟨_, rfl⟩
    obtain ⟨hbx3, hbx4, hg5, hg6, hr8⟩ := hu
    have hbx3 : (0 : Int) ≤ x3.toInt ∧ x3.toInt ≤ 1792 := hbx3
    have hbx4 : (-1 : Int) ≤ x4.toInt ∧ x4.toInt ≤ 1791 := hbx4
    have hg5 : AJ (0) 6271 g5 := hg5
    have hg6 : AJ (-1) 1791 g6 := hg6
    have hr8 : (0 : Int) ≤ r8.toInt ∧ r8.toInt ≤ 1 := hr8
    have hP : va_P G vwCl ((uX10 cs adm qm Fm Am Bm Dm) ++ ((uX8 cs (qm 3) qms Fms Ams Bms Dms) ++ ((uX3 cs (qms 0) qmh Fmh Amh Bmh Dmh) ++ (uX1 cs (qm 9) qmc (upv 6 x4 (upv 5 x3 Fmc)) (vB 2 g6 (vB 1 g5 Amc)) (vB 0 y7 Bmc) Dmc)))) H := hP.sub [0, 1, 2, 3, 4, 11, 12, 13, 14, 15, 16, 17, 18, 5, 6, 7, 8, 9, 10] rfl
    have hD : va_D A0 ((uX10 cs adm qm Fm Am Bm Dm) ++ ((uX8 cs (qm 3) qms Fms Ams Bms Dms) ++ ((uX3 cs (qms 0) qmh Fmh Amh Bmh Dmh) ++ (uX1 cs (qm 9) qmc (upv 6 x4 (upv 5 x3 Fmc)) (vB 2 g6 (vB 1 g5 Amc)) (vB 0 y7 Bmc) Dmc)))) := hD.sub [0, 1, 2, 3, 4, 11, 12, 13, 14, 15, 16, 17, 18, 5, 6, 7, 8, 9, 10] (by decide) rfl
    refine lv_pop hx hb dX10_one_28 rfl ?_
    refine lv_aload_n hx hb dX10_one_29 rfl (lv_at hl 0 rfl) ?_
    refine getF (v := .ref (qm 9)) hx hb ht hown hK hP iTX10 0 9 rfl rfl (by decide) fl_RX10_65 rfl dX10_one_30 ?_
    refine behR (runVP (As := []) (rest := []) ⟨hx, hb, hml, hown, ht⟩ (sX1_minutesToClear l G cs (qm 9) qmc (upv 6 x4 (upv 5 x3 Fmc)) (vB 2 g6 (vB 1 g5 Amc)) (vB 0 y7 Bmc) Dmc (IB_av (k := 2) (IB_av (k := 1) (IB_pv (k := 6) (IB_pv (k := 5) hImc (show (0 : Int) ≤ x3.toInt ∧ x3.toInt ≤ 1792 by omega)) (show (-1 : Int) ≤ x4.toInt ∧ x4.toInt ≤ 1791 by omega)) hg5) hg6) ) okV_RX10_257 ⟨by decide, by decide⟩ hK hP [13, 14, 15, 16, 17, 18] rfl 13 rfl rfl hl.1 rfl (Nat.le_of_ble_eq_true rfl) dX10_one_33 ⟨by decide, by decide⟩) hP hS hA (fun r10 H locs hr10 hP hS => ?_)
    have hr10 : r10.toInt = -1 ∨ 0 ≤ x4.toInt := hr10
    have bbr10 := i32b r10
    exact retDi (x3, x4, g5, g6, y7) hx hb hr hlk hP hD hS dX10_one_36 (⟨show (0 : Int) ≤ x3.toInt ∧ x3.toInt ≤ 1792 by omega, show (-1 : Int) ≤ x4.toInt ∧ x4.toInt ≤ 1791 by omega, hg5, hg6, trivial⟩) (Nat.le_of_ble_eq_true rfl) (Nat.le_of_ble_eq_true rfl)
  · have zc2 := eqK rfl (show (0 : Int32).toInt = 0 by decide) c2
    refine lv_bipush (v := (-2)) hx hb dX10_one_8 (by decide) ?_
    exact retDi ((Fmc 5), (Fmc 6), (Amc 1), (Amc 2), (Bmc 0)) hx hb hr hlk hP hD hS dX10_one_10 (⟨hImc.1 5, hImc.1 6, fun j => hImc.2 1 j, fun j => hImc.2 2 j, trivial⟩) (Nat.le_of_ble_eq_true rfl) (Nat.le_of_ble_eq_true rfl)

set_option maxRecDepth 100000 in
set_option maxHeartbeats 16000000 in
theorem sX10_two (l : Launch) (G : va_G) (cs : Nat → ClassId) (adm : Nat) (qm : Nat → Nat) (Fm : Nat → Int32) (Am : Nat → Nat → Int32) (Bm : Nat → Nat → Int64) (Dm : Int64) (hIm : IX10 Fm Am) (qms : Nat → Nat) (Fms : Nat → Int32) (Ams : Nat → Nat → Int32) (Bms : Nat → Nat → Int64) (Dms : Int64) (hIms : IX8 Fms Ams) (qmh : Nat → Nat) (Fmh : Nat → Int32) (Amh : Nat → Nat → Int32) (Bmh : Nat → Nat → Int64) (Dmh : Int64) (hImh : IX3 Fmh Amh) (qmc : Nat → Nat) (Fmc : Nat → Int32) (Amc : Nat → Nat → Int32) (Bmc : Nat → Nat → Int64) (Dmc : Int64) (hImc : IX1 Fmc Amc) (a1 : Int32) (a2 : Int32) : ∀ sz : Nat, Met l yX10_two (wk yX10_two cX10_two 3 (some .int)) (rmk 5 0 0) (PreD G (TY cs) [.ref adm, .int a1, .int a2] ((uX10 cs adm qm Fm Am Bm Dm) ++ ((uX8 cs (qm 3) qms Fms Ams Bms Dms) ++ ((uX3 cs (qms 0) qmh Fmh Amh Bmh Dmh) ++ (uX1 cs (qm 9) qmc Fmc Amc Bmc Dmc)))) sz) ((QDi G (fun (r : Int32) (u : Int32 × Int32 × (Nat → Int32) × (Nat → Int32) × (Nat → Int64)) => ((0 : Int) ≤ u.1.toInt ∧ u.1.toInt ≤ 1792) ∧ ((-1 : Int) ≤ u.2.1.toInt ∧ u.2.1.toInt ≤ 1791) ∧ AJ (0) 6271 u.2.2.1 ∧ AJ (-1) 1791 u.2.2.2.1 ∧ (True)) (fun u : Int32 × Int32 × (Nat → Int32) × (Nat → Int32) × (Nat → Int64) => ((uX10 cs adm qm Fm Am Bm Dm) ++ ((uX8 cs (qm 3) qms Fms Ams Bms Dms) ++ ((uX3 cs (qms 0) qmh Fmh Amh Bmh Dmh) ++ (wX1 cs (qm 9) qmc (upd (upd Fmc 5 u.1) 6 u.2.1) (vA (vA Amc 1 u.2.2.1) 2 u.2.2.2.1) (vA Bmc 0 u.2.2.2.2) Dmc)))))) (va_A ((uX10 cs adm qm Fm Am Bm Dm) ++ ((uX8 cs (qm 3) qms Fms Ams Bms Dms) ++ ((uX3 cs (qms 0) qmh Fmh Amh Bmh Dmh) ++ (uX1 cs (qm 9) qmc Fmc Amc Bmc Dmc)))) sz)) 0 0 (va_A ((uX10 cs adm qm Fm Am Bm Dm) ++ ((uX8 cs (qm 3) qms Fms Ams Bms Dms) ++ ((uX3 cs (qms 0) qmh Fmh Amh Bmh Dmh) ++ (uX1 cs (qm 9) qmc Fmc Amc Bmc Dmc)))) sz) := by
  refine mkD (Qc := (QDi G (fun (r : Int32) (u : Int32 × Int32 × (Nat → Int32) × (Nat → Int32) × (Nat → Int64)) => ((0 : Int) ≤ u.1.toInt ∧ u.1.toInt ≤ 1792) ∧ ((-1 : Int) ≤ u.2.1.toInt ∧ u.2.1.toInt ≤ 1791) ∧ AJ (0) 6271 u.2.2.1 ∧ AJ (-1) 1791 u.2.2.2.1 ∧ (True)) (fun u : Int32 × Int32 × (Nat → Int32) × (Nat → Int32) × (Nat → Int64) => ((uX10 cs adm qm Fm Am Bm Dm) ++ ((uX8 cs (qm 3) qms Fms Ams Bms Dms) ++ ((uX3 cs (qms 0) qmh Fmh Amh Bmh Dmh) ++ (wX1 cs (qm 9) qmc (upd (upd Fmc 5 u.1) 6 u.2.1) (vA (vA Amc 1 u.2.2.1) 2 u.2.2.2.1) (vA Bmc 0 u.2.2.2.2) Dmc))))))) (by decide) (by simp [lg_sl, Value.category]) ?_
  intro p e s m args below meth c ls A0 hx hb hml hr hlk hown hmn ht hK hP hD hS hA hl
  have hl : lv_has ls 3 [(0, .ref adm), (1, .int a1), (2, .int a2)] := hl
  refine lv_aload_n hx hb dX10_two_0 rfl (lv_at hl 0 rfl) ?_
  refine lv_iload_n hx hb dX10_two_1 rfl (lv_at hl 1 rfl) ?_
  refine behR (runVP (As := [.int a1]) (rest := []) ⟨hx, hb, hml, hown, ht⟩ (sX10_isRoom l G cs adm qm Fm Am Bm Dm hIm qms Fms Ams Bms Dms hIms qmh Fmh Amh Bmh Dmh hImh a1 ) okV_RX10_120 ⟨by decide, by decide⟩ hK hP [0, 1, 2, 3, 4, 5, 6, 7, 8, 9, 10, 11, 12] rfl 0 rfl rfl hl.1 rfl (Nat.le_of_ble_eq_true rfl) dX10_two_2 ⟨by decide, by decide⟩) hP hS hA (fun r1 H locs hr1 hP hS => ?_)
  have hr1 : (r1.toInt = 1 ∧ 0 ≤ a1.toInt ∧ a1.toInt < (Fmh 5).toInt ∧ a1.toInt ≤ 6) ∨ r1.toInt = 0 := hr1
  refine lv_if_eq (tgt := 16) hx hb dX10_two_5 (by decide) (fun c2 => ?_) (fun c2 => ?_)
  · have zc2 := eqK rfl (show (0 : Int32).toInt = 0 by decide) c2
    refine lv_bipush (v := (-2)) hx hb dX10_two_16 (by decide) ?_
    exact retDi ((Fmc 5), (Fmc 6), (Amc 1), (Amc 2), (Bmc 0)) hx hb hr hlk hP hD hS dX10_two_18 (⟨hImc.1 5, hImc.1 6, fun j => hImc.2 1 j, fun j => hImc.2 2 j, trivial⟩) (Nat.le_of_ble_eq_true rfl) (Nat.le_of_ble_eq_true rfl)
  · have zc2 := neK rfl (show (0 : Int32).toInt = 0 by decide) c2
    refine lv_aload_n hx hb dX10_two_8 rfl (lv_at hl 0 rfl) ?_
    refine lv_iload_n hx hb dX10_two_9 rfl (lv_at hl 2 rfl) ?_
    refine behR (runVP (As := [.int a2]) (rest := []) ⟨hx, hb, hml, hown, ht⟩ (sX10_isRoom l G cs adm qm Fm Am Bm Dm hIm qms Fms Ams Bms Dms hIms qmh Fmh Amh Bmh Dmh hImh a2 ) okV_RX10_120 ⟨by decide, by decide⟩ hK hP [0, 1, 2, 3, 4, 5, 6, 7, 8, 9, 10, 11, 12] rfl 0 rfl rfl hl.1 rfl (Nat.le_of_ble_eq_true rfl) dX10_two_10 ⟨by decide, by decide⟩) hP hS hA (fun r3 H locs hr3 hP hS => ?_)
    have hr3 : (r3.toInt = 1 ∧ 0 ≤ a2.toInt ∧ a2.toInt < (Fmh 5).toInt ∧ a2.toInt ≤ 6) ∨ r3.toInt = 0 := hr3
    refine lv_if_ne (tgt := 19) hx hb dX10_two_13 (by decide) (fun c4 => ?_) (fun c4 => ?_)
    · have zc4 := neK rfl (show (0 : Int32).toInt = 0 by decide) c4
      refine lv_aload_n hx hb dX10_two_19 rfl (lv_at hl 0 rfl) ?_
      refine getF (v := .ref (qm 9)) hx hb ht hown hK hP iTX10 0 9 rfl rfl (by decide) fl_RX10_65 rfl dX10_two_20 ?_
      refine lv_aload_n hx hb dX10_two_23 rfl (lv_at hl 0 rfl) ?_
      refine getF (v := .ref (qm 3)) hx hb ht hown hK hP iTX10 0 3 rfl rfl (by decide) fl_RX10_31 rfl dX10_two_24 ?_
      refine getF (v := .ref (qms 0)) hx hb ht hown hK hP iTX8 3 0 rfl rfl (by decide) fl_RX10_98 rfl dX10_two_27 ?_
      refine lv_iload_n hx hb dX10_two_30 rfl (lv_at hl 1 rfl) ?_
      refine lv_iload_n hx hb dX10_two_31 rfl (lv_at hl 2 rfl) ?_
      refine lv_iconst (v := 0) hx hb dX10_two_32 (by decide) ?_
      refine behDi (wr := ((uX10 cs adm qm Fm Am Bm Dm) ++ (uX8 cs (qm 3) qms Fms Ams Bms Dms))) (runVD (As := [.ref (qms 0), .int a1, .int a2, .int 0]) (rest := []) ⟨hx, hb, hml, hown, ht⟩ (sX1_hunt l G cs (qm 9) qmc Fmc Amc Bmc Dmc hImc (qms 0) qmh Fmh Amh Bmh Dmh hImh a1 a2 0 (by omega) (by omega) (by decide)) okV_RX10_253 ⟨by decide, by decide⟩ hK hP hD [13, 14, 15, 16, 17, 18, 5, 6, 7, 8, 9, 10, 11, 12] rfl (by decide) rfl 13 rfl rfl hl.1 rfl (Nat.le_of_ble_eq_true rfl) dX10_two_33 ⟨(Nat.le_of_ble_eq_true rfl), (Nat.le_of_ble_eq_true rfl)⟩) hP hD hS hA [13, 14, 15, 16, 17, 18, 5, 6, 7, 8, 9, 10, 11, 12] [0, 1, 2, 3, 4] rfl rfl (by decide) (by decide) (fun r9 u H locs hu hP hD hS => ?_)
      obtain ⟨x5, x6, g7, g8, y9⟩ := u
      have kk11 : (0 : Int32).toInt = 0 := by decide
      obtain ⟨r10, rfl⟩ : ∃ z, z = r9 := ⟨_, rfl⟩
      obtain ⟨hbx5, hbx6, hg7, hg8, hr10⟩ := hu
      have hbx5 : (0 : Int) ≤ x5.toInt ∧ x5.toInt ≤ 1792 := hbx5
      have hbx6 : (-1 : Int) ≤ x6.toInt ∧ x6.toInt ≤ 1791 := hbx6
      have hg7 : AJ (0) 6271 g7 := hg7
      have hg8 : AJ (-1) 1791 g8 := hg8
      have hr10 : (0 : Int) ≤ r10.toInt ∧ r10.toInt ≤ 1 := hr10
      have hP : va_P G vwCl ((uX10 cs adm qm Fm Am Bm Dm) ++ ((uX8 cs (qm 3) qms Fms Ams Bms Dms) ++ ((uX3 cs (qms 0) qmh Fmh Amh Bmh Dmh) ++ (uX1 cs (qm 9) qmc (upv 6 x6 (upv 5 x5 Fmc)) (vB 2 g8 (vB 1 g7 Amc)) (vB 0 y9 Bmc) Dmc)))) H := hP.sub [0, 1, 2, 3, 4, 11, 12, 13, 14, 15, 16, 17, 18, 5, 6, 7, 8, 9, 10] rfl
      have hD : va_D A0 ((uX10 cs adm qm Fm Am Bm Dm) ++ ((uX8 cs (qm 3) qms Fms Ams Bms Dms) ++ ((uX3 cs (qms 0) qmh Fmh Amh Bmh Dmh) ++ (uX1 cs (qm 9) qmc (upv 6 x6 (upv 5 x5 Fmc)) (vB 2 g8 (vB 1 g7 Amc)) (vB 0 y9 Bmc) Dmc)))) := hD.sub [0, 1, 2, 3, 4, 11, 12, 13, 14, 15, 16, 17, 18, 5, 6, 7, 8, 9, 10] (by decide) rfl
      refine lv_pop hx hb dX10_two_36 rfl ?_
      refine lv_aload_n hx hb dX10_two_37 rfl (lv_at hl 0 rfl) ?_
      refine getF (v := .ref (qm 9)) hx hb ht hown hK hP iTX10 0 9 rfl rfl (by decide) fl_RX10_65 rfl dX10_two_38 ?_
      refine behR (runVP (As := []) (rest := []) ⟨hx, hb, hml, hown, ht⟩ (sX1_minutesToClear l G cs (qm 9) qmc (upv 6 x6 (upv 5 x5 Fmc)) (vB 2 g8 (vB 1 g7 Amc)) (vB 0 y9 Bmc) Dmc (IB_av (k := 2) (IB_av (k := 1) (IB_pv (k := 6) (IB_pv (k := 5) hImc (show (0 : Int) ≤ x5.toInt ∧ x5.toInt ≤ 1792 by omega)) (show (-1 : Int) ≤ x6.toInt ∧ x6.toInt ≤ 1791 by omega)) hg7) hg8) ) okV_RX10_257 ⟨by decide, by decide⟩ hK hP [13, 14, 15, 16, 17, 18] rfl 13 rfl rfl hl.1 rfl (Nat.le_of_ble_eq_true rfl) dX10_two_41 ⟨by decide, by decide⟩) hP hS hA (fun r12 H locs hr12 hP hS => ?_)
      have hr12 : r12.toInt = -1 ∨ 0 ≤ x6.toInt := hr12
      have bbr12 := i32b r12
      exact retDi (x5, x6, g7, g8, y9) hx hb hr hlk hP hD hS dX10_two_44 (⟨show (0 : Int) ≤ x5.toInt ∧ x5.toInt ≤ 1792 by omega, show (-1 : Int) ≤ x6.toInt ∧ x6.toInt ≤ 1791 by omega, hg7, hg8, trivial⟩) (Nat.le_of_ble_eq_true rfl) (Nat.le_of_ble_eq_true rfl)
    · have zc4 := eqK rfl (show (0 : Int32).toInt = 0 by decide) c4
      refine lv_bipush (v := (-2)) hx hb dX10_two_16 (by decide) ?_
      exact retDi ((Fmc 5), (Fmc 6), (Amc 1), (Amc 2), (Bmc 0)) hx hb hr hlk hP hD hS dX10_two_18 (⟨hImc.1 5, hImc.1 6, fun j => hImc.2 1 j, fun j => hImc.2 2 j, trivial⟩) (Nat.le_of_ble_eq_true rfl) (Nat.le_of_ble_eq_true rfl)

set_option maxRecDepth 100000 in
set_option maxHeartbeats 16000000 in
theorem sX10_way (l : Launch) (G : va_G) (cs : Nat → ClassId) (adm : Nat) (qm : Nat → Nat) (Fm : Nat → Int32) (Am : Nat → Nat → Int32) (Bm : Nat → Nat → Int64) (Dm : Int64) (hIm : IX10 Fm Am) (qms : Nat → Nat) (Fms : Nat → Int32) (Ams : Nat → Nat → Int32) (Bms : Nat → Nat → Int64) (Dms : Int64) (hIms : IX8 Fms Ams) (qmh : Nat → Nat) (Fmh : Nat → Int32) (Amh : Nat → Nat → Int32) (Bmh : Nat → Nat → Int64) (Dmh : Int64) (hImh : IX3 Fmh Amh) (qmc : Nat → Nat) (Fmc : Nat → Int32) (Amc : Nat → Nat → Int32) (Bmc : Nat → Nat → Int64) (Dmc : Int64) (hImc : IX1 Fmc Amc) (a1 : Int32) (a2 : Int32) (a3 : Int32) (a4 : Int32) : ∀ sz : Nat, Met l yX10_way (wk yX10_way cX10_way 5 (some .int)) (rmk 5 0 0) (PreD G (TY cs) [.ref adm, .int a1, .int a2, .int a3, .int a4] ((uX10 cs adm qm Fm Am Bm Dm) ++ ((uX8 cs (qm 3) qms Fms Ams Bms Dms) ++ ((uX3 cs (qms 0) qmh Fmh Amh Bmh Dmh) ++ (uX1 cs (qm 9) qmc Fmc Amc Bmc Dmc)))) sz) ((QDi G (fun (r : Int32) (u : Int32 × Int32 × (Nat → Int32) × (Nat → Int32) × (Nat → Int64)) => ((0 : Int) ≤ u.1.toInt ∧ u.1.toInt ≤ 1792) ∧ ((-1 : Int) ≤ u.2.1.toInt ∧ u.2.1.toInt ≤ 1791) ∧ AJ (0) 6271 u.2.2.1 ∧ AJ (-1) 1791 u.2.2.2.1 ∧ (True)) (fun u : Int32 × Int32 × (Nat → Int32) × (Nat → Int32) × (Nat → Int64) => ((uX10 cs adm qm Fm Am Bm Dm) ++ ((uX8 cs (qm 3) qms Fms Ams Bms Dms) ++ ((uX3 cs (qms 0) qmh Fmh Amh Bmh Dmh) ++ (wX1 cs (qm 9) qmc (upd (upd Fmc 5 u.1) 6 u.2.1) (vA (vA Amc 1 u.2.2.1) 2 u.2.2.2.1) (vA Bmc 0 u.2.2.2.2) Dmc)))))) (va_A ((uX10 cs adm qm Fm Am Bm Dm) ++ ((uX8 cs (qm 3) qms Fms Ams Bms Dms) ++ ((uX3 cs (qms 0) qmh Fmh Amh Bmh Dmh) ++ (uX1 cs (qm 9) qmc Fmc Amc Bmc Dmc)))) sz)) 0 0 (va_A ((uX10 cs adm qm Fm Am Bm Dm) ++ ((uX8 cs (qm 3) qms Fms Ams Bms Dms) ++ ((uX3 cs (qms 0) qmh Fmh Amh Bmh Dmh) ++ (uX1 cs (qm 9) qmc Fmc Amc Bmc Dmc)))) sz) := by
  refine mkD (Qc := (QDi G (fun (r : Int32) (u : Int32 × Int32 × (Nat → Int32) × (Nat → Int32) × (Nat → Int64)) => ((0 : Int) ≤ u.1.toInt ∧ u.1.toInt ≤ 1792) ∧ ((-1 : Int) ≤ u.2.1.toInt ∧ u.2.1.toInt ≤ 1791) ∧ AJ (0) 6271 u.2.2.1 ∧ AJ (-1) 1791 u.2.2.2.1 ∧ (True)) (fun u : Int32 × Int32 × (Nat → Int32) × (Nat → Int32) × (Nat → Int64) => ((uX10 cs adm qm Fm Am Bm Dm) ++ ((uX8 cs (qm 3) qms Fms Ams Bms Dms) ++ ((uX3 cs (qms 0) qmh Fmh Amh Bmh Dmh) ++ (wX1 cs (qm 9) qmc (upd (upd Fmc 5 u.1) 6 u.2.1) (vA (vA Amc 1 u.2.2.1) 2 u.2.2.2.1) (vA Bmc 0 u.2.2.2.2) Dmc))))))) (by decide) (by simp [lg_sl, Value.category]) ?_
  intro p e s m args below meth c ls A0 hx hb hml hr hlk hown hmn ht hK hP hD hS hA hl
  have hl : lv_has ls 5 [(0, .ref adm), (1, .int a1), (2, .int a2), (3, .int a3), (4, .int a4)] := hl
  refine lv_aload_n hx hb dX10_way_0 rfl (lv_at hl 0 rfl) ?_
  refine lv_iload_n hx hb dX10_way_1 rfl (lv_at hl 1 rfl) ?_
  refine behR (runVP (As := [.int a1]) (rest := []) ⟨hx, hb, hml, hown, ht⟩ (sX10_isRoom l G cs adm qm Fm Am Bm Dm hIm qms Fms Ams Bms Dms hIms qmh Fmh Amh Bmh Dmh hImh a1 ) okV_RX10_120 ⟨by decide, by decide⟩ hK hP [0, 1, 2, 3, 4, 5, 6, 7, 8, 9, 10, 11, 12] rfl 0 rfl rfl hl.1 rfl (Nat.le_of_ble_eq_true rfl) dX10_way_2 ⟨by decide, by decide⟩) hP hS hA (fun r1 H locs hr1 hP hS => ?_)
  have hr1 : (r1.toInt = 1 ∧ 0 ≤ a1.toInt ∧ a1.toInt < (Fmh 5).toInt ∧ a1.toInt ≤ 6) ∨ r1.toInt = 0 := hr1
  refine lv_if_eq (tgt := 25) hx hb dX10_way_5 (by decide) (fun c2 => ?_) (fun c2 => ?_)
  · have zc2 := eqK rfl (show (0 : Int32).toInt = 0 by decide) c2
    refine lv_bipush (v := (-2)) hx hb dX10_way_25 (by decide) ?_
    exact retDi ((Fmc 5), (Fmc 6), (Amc 1), (Amc 2), (Bmc 0)) hx hb hr hlk hP hD hS dX10_way_27 (⟨hImc.1 5, hImc.1 6, fun j => hImc.2 1 j, fun j => hImc.2 2 j, trivial⟩) (Nat.le_of_ble_eq_true rfl) (Nat.le_of_ble_eq_true rfl)
  · have zc2 := neK rfl (show (0 : Int32).toInt = 0 by decide) c2
    refine lv_aload_n hx hb dX10_way_8 rfl (lv_at hl 0 rfl) ?_
    refine lv_iload_n hx hb dX10_way_9 rfl (lv_at hl 2 rfl) ?_
    refine behR (runVP (As := [.int a2]) (rest := []) ⟨hx, hb, hml, hown, ht⟩ (sX10_isRoom l G cs adm qm Fm Am Bm Dm hIm qms Fms Ams Bms Dms hIms qmh Fmh Amh Bmh Dmh hImh a2 ) okV_RX10_120 ⟨by decide, by decide⟩ hK hP [0, 1, 2, 3, 4, 5, 6, 7, 8, 9, 10, 11, 12] rfl 0 rfl rfl hl.1 rfl (Nat.le_of_ble_eq_true rfl) dX10_way_10 ⟨by decide, by decide⟩) hP hS hA (fun r3 H locs hr3 hP hS => ?_)
    have hr3 : (r3.toInt = 1 ∧ 0 ≤ a2.toInt ∧ a2.toInt < (Fmh 5).toInt ∧ a2.toInt ≤ 6) ∨ r3.toInt = 0 := hr3
    refine lv_if_eq (tgt := 25) hx hb dX10_way_13 (by decide) (fun c4 => ?_) (fun c4 => ?_)
    · have zc4 := eqK rfl (show (0 : Int32).toInt = 0 by decide) c4
      refine lv_bipush (v := (-2)) hx hb dX10_way_25 (by decide) ?_
      exact retDi ((Fmc 5), (Fmc 6), (Amc 1), (Amc 2), (Bmc 0)) hx hb hr hlk hP hD hS dX10_way_27 (⟨hImc.1 5, hImc.1 6, fun j => hImc.2 1 j, fun j => hImc.2 2 j, trivial⟩) (Nat.le_of_ble_eq_true rfl) (Nat.le_of_ble_eq_true rfl)
    · have zc4 := neK rfl (show (0 : Int32).toInt = 0 by decide) c4
      refine lv_iload_n hx hb dX10_way_16 rfl (lv_at hl 3 rfl) ?_
      refine lv_if_lt (tgt := 25) hx hb dX10_way_17 (by decide) (fun c5 => ?_) (fun c5 => ?_)
      · have zc5 := ltK rfl (show (0 : Int32).toInt = 0 by decide) c5
        refine lv_bipush (v := (-2)) hx hb dX10_way_25 (by decide) ?_
        exact retDi ((Fmc 5), (Fmc 6), (Amc 1), (Amc 2), (Bmc 0)) hx hb hr hlk hP hD hS dX10_way_27 (⟨hImc.1 5, hImc.1 6, fun j => hImc.2 1 j, fun j => hImc.2 2 j, trivial⟩) (Nat.le_of_ble_eq_true rfl) (Nat.le_of_ble_eq_true rfl)
      · have zc5 := nltK rfl (show (0 : Int32).toInt = 0 by decide) c5
        refine lv_iload_n hx hb dX10_way_20 rfl (lv_at hl 3 rfl) ?_
        refine lv_iconst (v := 1) hx hb dX10_way_21 (by decide) ?_
        refine lv_icmp_le (tgt := 28) hx hb dX10_way_22 (by decide) (fun c6 => ?_) (fun c6 => ?_)
        · have zc6 := leK rfl (show (1 : Int32).toInt = 1 by decide) c6
          refine lv_aload_n hx hb dX10_way_28 rfl (lv_at hl 0 rfl) ?_
          refine getF (v := .ref (qm 9)) hx hb ht hown hK hP iTX10 0 9 rfl rfl (by decide) fl_RX10_65 rfl dX10_way_29 ?_
          refine lv_aload_n hx hb dX10_way_32 rfl (lv_at hl 0 rfl) ?_
          refine getF (v := .ref (qm 3)) hx hb ht hown hK hP iTX10 0 3 rfl rfl (by decide) fl_RX10_31 rfl dX10_way_33 ?_
          refine getF (v := .ref (qms 0)) hx hb ht hown hK hP iTX8 3 0 rfl rfl (by decide) fl_RX10_98 rfl dX10_way_36 ?_
          refine lv_iload_n hx hb dX10_way_39 rfl (lv_at hl 1 rfl) ?_
          refine lv_iload_n hx hb dX10_way_40 rfl (lv_at hl 2 rfl) ?_
          refine lv_iconst (v := 0) hx hb dX10_way_41 (by decide) ?_
          refine behDi (wr := ((uX10 cs adm qm Fm Am Bm Dm) ++ (uX8 cs (qm 3) qms Fms Ams Bms Dms))) (runVD (As := [.ref (qms 0), .int a1, .int a2, .int 0]) (rest := []) ⟨hx, hb, hml, hown, ht⟩ (sX1_hunt l G cs (qm 9) qmc Fmc Amc Bmc Dmc hImc (qms 0) qmh Fmh Amh Bmh Dmh hImh a1 a2 0 (by omega) (by omega) (by decide)) okV_RX10_253 ⟨by decide, by decide⟩ hK hP hD [13, 14, 15, 16, 17, 18, 5, 6, 7, 8, 9, 10, 11, 12] rfl (by decide) rfl 13 rfl rfl hl.1 rfl (Nat.le_of_ble_eq_true rfl) dX10_way_42 ⟨(Nat.le_of_ble_eq_true rfl), (Nat.le_of_ble_eq_true rfl)⟩) hP hD hS hA [13, 14, 15, 16, 17, 18, 5, 6, 7, 8, 9, 10, 11, 12] [0, 1, 2, 3, 4] rfl rfl (by decide) (by decide) (fun r9 u H locs hu hP hD hS => ?_)
          obtain ⟨x7, x8, g9, g10, y11⟩ := u
          have kk13 : (0 : Int32).toInt = 0 := by decide
          obtain ⟨r12, rfl⟩ : ∃ z, z = r9 := ⟨_, rfl⟩
          obtain ⟨hbx7, hbx8, hg9, hg10, hr12⟩ := hu
          have hbx7 : (0 : Int) ≤ x7.toInt ∧ x7.toInt ≤ 1792 := hbx7
          have hbx8 : (-1 : Int) ≤ x8.toInt ∧ x8.toInt ≤ 1791 := hbx8
          have hg9 : AJ (0) 6271 g9 := hg9
          have hg10 : AJ (-1) 1791 g10 := hg10
          have hr12 : (0 : Int) ≤ r12.toInt ∧ r12.toInt ≤ 1 := hr12
          have hP : va_P G vwCl ((uX10 cs adm qm Fm Am Bm Dm) ++ ((uX8 cs (qm 3) qms Fms Ams Bms Dms) ++ ((uX3 cs (qms 0) qmh Fmh Amh Bmh Dmh) ++ (uX1 cs (qm 9) qmc (upv 6 x8 (upv 5 x7 Fmc)) (vB 2 g10 (vB 1 g9 Amc)) (vB 0 y11 Bmc) Dmc)))) H := hP.sub [0, 1, 2, 3, 4, 11, 12, 13, 14, 15, 16, 17, 18, 5, 6, 7, 8, 9, 10] rfl
          have hD : va_D A0 ((uX10 cs adm qm Fm Am Bm Dm) ++ ((uX8 cs (qm 3) qms Fms Ams Bms Dms) ++ ((uX3 cs (qms 0) qmh Fmh Amh Bmh Dmh) ++ (uX1 cs (qm 9) qmc (upv 6 x8 (upv 5 x7 Fmc)) (vB 2 g10 (vB 1 g9 Amc)) (vB 0 y11 Bmc) Dmc)))) := hD.sub [0, 1, 2, 3, 4, 11, 12, 13, 14, 15, 16, 17, 18, 5, 6, 7, 8, 9, 10] (by decide) rfl
          refine lv_pop hx hb dX10_way_45 rfl ?_
          refine lv_aload_n hx hb dX10_way_46 rfl (lv_at hl 0 rfl) ?_
          refine getF (v := .ref (qm 9)) hx hb ht hown hK hP iTX10 0 9 rfl rfl (by decide) fl_RX10_65 rfl dX10_way_47 ?_
          refine lv_iload_n hx hb dX10_way_50 rfl (lv_at hl 3 rfl) ?_
          refine lv_iload hx hb dX10_way_51 (lv_at hl 4 rfl) ?_
          refine behR (runVP (As := [.int a3, .int a4]) (rest := []) ⟨hx, hb, hml, hown, ht⟩ (sX1_placeOf l G cs (qm 9) qmc (upv 6 x8 (upv 5 x7 Fmc)) (vB 2 g10 (vB 1 g9 Amc)) (vB 0 y11 Bmc) Dmc (IB_av (k := 2) (IB_av (k := 1) (IB_pv (k := 6) (IB_pv (k := 5) hImc (show (0 : Int) ≤ x7.toInt ∧ x7.toInt ≤ 1792 by omega)) (show (-1 : Int) ≤ x8.toInt ∧ x8.toInt ≤ 1791 by omega)) hg9) hg10) a3 a4 ) okV_RX10_260 ⟨by decide, by decide⟩ hK hP [13, 14, 15, 16, 17, 18] rfl 13 rfl rfl hl.1 rfl (Nat.le_of_ble_eq_true rfl) dX10_way_53 ⟨by decide, by decide⟩) hP hS hA (fun r14 H locs hr14 hP hS => ?_)
          exact retDi (x7, x8, g9, g10, y11) hx hb hr hlk hP hD hS dX10_way_56 (⟨show (0 : Int) ≤ x7.toInt ∧ x7.toInt ≤ 1792 by omega, show (-1 : Int) ≤ x8.toInt ∧ x8.toInt ≤ 1791 by omega, hg9, hg10, trivial⟩) (Nat.le_of_ble_eq_true rfl) (Nat.le_of_ble_eq_true rfl)
        · have zc6 := nleK rfl (show (1 : Int32).toInt = 1 by decide) c6
          refine lv_bipush (v := (-2)) hx hb dX10_way_25 (by decide) ?_
          exact retDi ((Fmc 5), (Fmc 6), (Amc 1), (Amc 2), (Bmc 0)) hx hb hr hlk hP hD hS dX10_way_27 (⟨hImc.1 5, hImc.1 6, fun j => hImc.2 1 j, fun j => hImc.2 2 j, trivial⟩) (Nat.le_of_ble_eq_true rfl) (Nat.le_of_ble_eq_true rfl)

set_option maxRecDepth 100000 in
set_option maxHeartbeats 16000000 in
theorem sX10_boys (l : Launch) (G : va_G) (cs : Nat → ClassId) (adm : Nat) (qm : Nat → Nat) (Fm : Nat → Int32) (Am : Nat → Nat → Int32) (Bm : Nat → Nat → Int64) (Dm : Int64) (hIm : IX10 Fm Am) (qms : Nat → Nat) (Fms : Nat → Int32) (Ams : Nat → Nat → Int32) (Bms : Nat → Nat → Int64) (Dms : Int64) (hIms : IX8 Fms Ams) (qmh : Nat → Nat) (Fmh : Nat → Int32) (Amh : Nat → Nat → Int32) (Bmh : Nat → Nat → Int64) (Dmh : Int64) (hImh : IX3 Fmh Amh) (qmc : Nat → Nat) (Fmc : Nat → Int32) (Amc : Nat → Nat → Int32) (Bmc : Nat → Nat → Int64) (Dmc : Int64) (hImc : IX1 Fmc Amc) : ∀ sz : Nat, Met l yX10_boys (wk yX10_boys cX10_boys 2 (some .int)) (rmk 6 0 0) (PreD G (TY cs) [.ref adm] ((uX10 cs adm qm Fm Am Bm Dm) ++ ((uX8 cs (qm 3) qms Fms Ams Bms Dms) ++ ((uX3 cs (qms 0) qmh Fmh Amh Bmh Dmh) ++ (uX1 cs (qm 9) qmc Fmc Amc Bmc Dmc)))) sz) ((QDi G (fun (r : Int32) (u : Int32 × Int32 × (Nat → Int32) × (Nat → Int32) × (Nat → Int32) × (Nat → Int32) × (Nat → Int64)) => ((0 : Int) ≤ u.1.toInt ∧ u.1.toInt ≤ 1792) ∧ ((-1 : Int) ≤ u.2.1.toInt ∧ u.2.1.toInt ≤ 1791) ∧ AJ (0) 6271 u.2.2.1 ∧ AJ (-1) 1791 u.2.2.2.1 ∧ AJ (0) 6 u.2.2.2.2.1 ∧ (True)) (fun u : Int32 × Int32 × (Nat → Int32) × (Nat → Int32) × (Nat → Int32) × (Nat → Int32) × (Nat → Int64) => ((uX10 cs adm qm Fm Am Bm Dm) ++ ((uX8 cs (qm 3) qms Fms Ams Bms Dms) ++ ((uX3 cs (qms 0) qmh Fmh Amh Bmh Dmh) ++ (wX1 cs (qm 9) qmc (upd (upd Fmc 5 u.1) 6 u.2.1) (vA (vA (vA (vA Amc 1 u.2.2.1) 2 u.2.2.2.1) 3 u.2.2.2.2.1) 4 u.2.2.2.2.2.1) (vA Bmc 0 u.2.2.2.2.2.2) Dmc)))))) (va_A ((uX10 cs adm qm Fm Am Bm Dm) ++ ((uX8 cs (qm 3) qms Fms Ams Bms Dms) ++ ((uX3 cs (qms 0) qmh Fmh Amh Bmh Dmh) ++ (uX1 cs (qm 9) qmc Fmc Amc Bmc Dmc)))) sz)) 0 0 (va_A ((uX10 cs adm qm Fm Am Bm Dm) ++ ((uX8 cs (qm 3) qms Fms Ams Bms Dms) ++ ((uX3 cs (qms 0) qmh Fmh Amh Bmh Dmh) ++ (uX1 cs (qm 9) qmc Fmc Amc Bmc Dmc)))) sz) := by
  refine mkD (Qc := (QDi G (fun (r : Int32) (u : Int32 × Int32 × (Nat → Int32) × (Nat → Int32) × (Nat → Int32) × (Nat → Int32) × (Nat → Int64)) => ((0 : Int) ≤ u.1.toInt ∧ u.1.toInt ≤ 1792) ∧ ((-1 : Int) ≤ u.2.1.toInt ∧ u.2.1.toInt ≤ 1791) ∧ AJ (0) 6271 u.2.2.1 ∧ AJ (-1) 1791 u.2.2.2.1 ∧ AJ (0) 6 u.2.2.2.2.1 ∧ (True)) (fun u : Int32 × Int32 × (Nat → Int32) × (Nat → Int32) × (Nat → Int32) × (Nat → Int32) × (Nat → Int64) => ((uX10 cs adm qm Fm Am Bm Dm) ++ ((uX8 cs (qm 3) qms Fms Ams Bms Dms) ++ ((uX3 cs (qms 0) qmh Fmh Amh Bmh Dmh) ++ (wX1 cs (qm 9) qmc (upd (upd Fmc 5 u.1) 6 u.2.1) (vA (vA (vA (vA Amc 1 u.2.2.1) 2 u.2.2.2.1) 3 u.2.2.2.2.1) 4 u.2.2.2.2.2.1) (vA Bmc 0 u.2.2.2.2.2.2) Dmc))))))) (by decide) (by simp [lg_sl, Value.category]) ?_
  intro p e s m args below meth c ls A0 hx hb hml hr hlk hown hmn ht hK hP hD hS hA hl
  have hl : lv_has ls 2 [(0, .ref adm)] := hl
  refine lv_aload_n hx hb dX10_boys_0 rfl (lv_at hl 0 rfl) ?_
  refine getF (v := .ref (qm 3)) hx hb ht hown hK hP iTX10 0 3 rfl rfl (by decide) fl_RX10_31 rfl dX10_boys_1 ?_
  refine getF (v := .ref (qms 0)) hx hb ht hown hK hP iTX8 3 0 rfl rfl (by decide) fl_RX10_98 rfl dX10_boys_4 ?_
  refine getF (v := .int (Fmh 5)) hx hb ht hown hK hP iTX3 5 5 rfl rfl (by decide) fl_RX10_159 rfl dX10_boys_7 ?_
  have zf1 : (0 : Int) ≤ (Fmh 5).toInt ∧ (Fmh 5).toInt ≤ 7 := hImh.1 5
  refine lv_iconst (v := 1) hx hb dX10_boys_10 (by decide) ?_
  refine lv_icmp_ge (tgt := 17) hx hb dX10_boys_11 (by decide) (fun c2 => ?_) (fun c2 => ?_)
  · have zc2 := leK (show (1 : Int32).toInt = 1 by decide) rfl c2
    refine lv_iconst (v := 0) hx hb dX10_boys_17 (by decide) ?_
    refine lv_istore_n (lv' := [(1, .int 0), (0, .ref adm)]) hx hb dX10_boys_18 rfl hl (by decide) rfl (fun ls hl => ?_)
    have B19 : ∀ (n : Nat) (x19_1 : Int32) (fmc5_19 : Int32) (fmc6_19 : Int32) (amc1_19 : (Nat → Int32)) (amc2_19 : (Nat → Int32)) (bmc0_19 : (Nat → Int64)) (H : Heap) (locs : List Loc) (ls : Array Slot), (7 - x19_1.toInt).toNat < n → (0 : Int) ≤ x19_1.toInt ∧ x19_1.toInt ≤ 7 → (0 : Int) ≤ fmc5_19.toInt ∧ fmc5_19.toInt ≤ 1792 → (-1 : Int) ≤ fmc6_19.toInt ∧ fmc6_19.toInt ≤ 1791 → AJ (0) 6271 amc1_19 → AJ (-1) 1791 amc2_19 → va_P G vwCl ((uX10 cs adm qm Fm Am Bm Dm) ++ ((uX8 cs (qm 3) qms Fms Ams Bms Dms) ++ ((uX3 cs (qms 0) qmh Fmh Amh Bmh Dmh) ++ (uX1 cs (qm 9) qmc (upv 6 fmc6_19 (upv 5 fmc5_19 Fmc)) (vB 2 amc2_19 (vB 1 amc1_19 Amc)) (vB 0 bmc0_19 Bmc) Dmc)))) H → va_D A0 ((uX10 cs adm qm Fm Am Bm Dm) ++ ((uX8 cs (qm 3) qms Fms Ams Bms Dms) ++ ((uX3 cs (qms 0) qmh Fmh Amh Bmh Dmh) ++ (uX1 cs (qm 9) qmc (upv 6 fmc6_19 (upv 5 fmc5_19 Fmc)) (vB 2 amc2_19 (vB 1 amc1_19 Amc)) (vB 0 bmc0_19 Bmc) Dmc)))) → va_S A0 s.heap H locs → lv_has ls 2 [(0, .ref adm), (1, .int x19_1)] → W p l e (rmk 6 0 0) s m args below meth c H locs 0 0 (MQ below ((QDi G (fun (r : Int32) (u : Int32 × Int32 × (Nat → Int32) × (Nat → Int32) × (Nat → Int32) × (Nat → Int32) × (Nat → Int64)) => ((0 : Int) ≤ u.1.toInt ∧ u.1.toInt ≤ 1792) ∧ ((-1 : Int) ≤ u.2.1.toInt ∧ u.2.1.toInt ≤ 1791) ∧ AJ (0) 6271 u.2.2.1 ∧ AJ (-1) 1791 u.2.2.2.1 ∧ AJ (0) 6 u.2.2.2.2.1 ∧ (True)) (fun u : Int32 × Int32 × (Nat → Int32) × (Nat → Int32) × (Nat → Int32) × (Nat → Int32) × (Nat → Int64) => ((uX10 cs adm qm Fm Am Bm Dm) ++ ((uX8 cs (qm 3) qms Fms Ams Bms Dms) ++ ((uX3 cs (qms 0) qmh Fmh Amh Bmh Dmh) ++ (wX1 cs (qm 9) qmc (upd (upd Fmc 5 u.1) 6 u.2.1) (vA (vA (vA (vA Amc 1 u.2.2.1) 2 u.2.2.2.1) 3 u.2.2.2.2.1) 4 u.2.2.2.2.2.1) (vA Bmc 0 u.2.2.2.2.2.2) Dmc)))))) A0) args s 0 0 A0) (F0 m 19 ls []) := by
      intro n
      induction n with
      | zero => intro x19_1 fmc5_19 fmc6_19 amc1_19 amc2_19 bmc0_19 H locs ls hmeas hx19_1 hfmc5_19 hfmc6_19 hamc1_19 hamc2_19 hP hD hS hl; exact absurd hmeas (Nat.not_lt_zero _)
      | succ n ih19 =>
        intro x19_1 fmc5_19 fmc6_19 amc1_19 amc2_19 bmc0_19 H locs ls hmeas hx19_1 hfmc5_19 hfmc6_19 hamc1_19 hamc2_19 hP hD hS hl
        refine lv_iload_n hx hb dX10_boys_19 rfl (lv_at hl 1 rfl) ?_
        refine lv_aload_n hx hb dX10_boys_20 rfl (lv_at hl 0 rfl) ?_
        refine getF (v := .ref (qm 3)) hx hb ht hown hK hP iTX10 0 3 rfl rfl (by decide) fl_RX10_31 rfl dX10_boys_21 ?_
        refine getF (v := .ref (qms 0)) hx hb ht hown hK hP iTX8 3 0 rfl rfl (by decide) fl_RX10_98 rfl dX10_boys_24 ?_
        refine getF (v := .int (Fmh 5)) hx hb ht hown hK hP iTX3 5 5 rfl rfl (by decide) fl_RX10_159 rfl dX10_boys_27 ?_
        have zf11001 : (0 : Int) ≤ (Fmh 5).toInt ∧ (Fmh 5).toInt ≤ 7 := hImh.1 5
        refine lv_icmp_ge (tgt := 61) hx hb dX10_boys_30 (by decide) (fun c11002 => ?_) (fun c11002 => ?_)
        · have zc11002 := leK rfl rfl c11002
          refine lv_aload_n hx hb dX10_boys_61 rfl (lv_at hl 0 rfl) ?_
          refine getF (v := .ref (qm 9)) hx hb ht hown hK hP iTX10 0 9 rfl rfl (by decide) fl_RX10_65 rfl dX10_boys_62 ?_
          refine lv_aload_n hx hb dX10_boys_65 rfl (lv_at hl 0 rfl) ?_
          refine getF (v := .ref (qm 3)) hx hb ht hown hK hP iTX10 0 3 rfl rfl (by decide) fl_RX10_31 rfl dX10_boys_66 ?_
          refine getF (v := .ref (qms 0)) hx hb ht hown hK hP iTX8 3 0 rfl rfl (by decide) fl_RX10_98 rfl dX10_boys_69 ?_
          refine behDi (wr := ((uX10 cs adm qm Fm Am Bm Dm) ++ (uX8 cs (qm 3) qms Fms Ams Bms Dms))) (runVD (As := [.ref (qms 0)]) (rest := []) ⟨hx, hb, hml, hown, ht⟩ (sX1_pairsThatCan l G cs (qm 9) qmc (upv 6 fmc6_19 (upv 5 fmc5_19 Fmc)) (vB 2 amc2_19 (vB 1 amc1_19 Amc)) (vB 0 bmc0_19 Bmc) Dmc (IB_av (k := 2) (IB_av (k := 1) (IB_pv (k := 6) (IB_pv (k := 5) hImc (show (0 : Int) ≤ fmc5_19.toInt ∧ fmc5_19.toInt ≤ 1792 by omega)) (show (-1 : Int) ≤ fmc6_19.toInt ∧ fmc6_19.toInt ≤ 1791 by omega)) hamc1_19) hamc2_19) (qms 0) qmh Fmh Amh Bmh Dmh hImh ) okV_RX10_263 ⟨by decide, by decide⟩ hK hP hD [13, 14, 15, 16, 17, 18, 5, 6, 7, 8, 9, 10, 11, 12] rfl (by decide) rfl 13 rfl rfl hl.1 rfl (Nat.le_of_ble_eq_true rfl) dX10_boys_72 ⟨(Nat.le_of_ble_eq_true rfl), (Nat.le_of_ble_eq_true rfl)⟩) hP hD hS hA [13, 14, 15, 16, 17, 18, 5, 6, 7, 8, 9, 10, 11, 12] [0, 1, 2, 3, 4] rfl rfl (by decide) (by decide) (fun r9 u H locs hu hP hD hS => ?_)
          obtain ⟨x11003, x11004, g11005, g11006, g11007, g11008, y11009⟩ := u
          obtain ⟨r11010, rfl⟩ : ∃ z, z = r9 := ⟨_, rfl⟩
          obtain ⟨hbx11003, hbx11004, hg11005, hg11006, hg11007, hr11010⟩ := hu
          have hbx11003 : (0 : Int) ≤ x11003.toInt ∧ x11003.toInt ≤ 1792 := hbx11003
          have hbx11004 : (-1 : Int) ≤ x11004.toInt ∧ x11004.toInt ≤ 1791 := hbx11004
          have hg11005 : AJ (0) 6271 g11005 := hg11005
          have hg11006 : AJ (-1) 1791 g11006 := hg11006
          have hg11007 : AJ (0) 6 g11007 := hg11007
          have hP : va_P G vwCl ((uX10 cs adm qm Fm Am Bm Dm) ++ ((uX8 cs (qm 3) qms Fms Ams Bms Dms) ++ ((uX3 cs (qms 0) qmh Fmh Amh Bmh Dmh) ++ (uX1 cs (qm 9) qmc (upv 6 x11004 (upv 5 x11003 Fmc)) (vB 4 g11008 (vB 3 g11007 (vB 2 g11006 (vB 1 g11005 Amc)))) (vB 0 y11009 Bmc) Dmc)))) H := hP.sub [0, 1, 2, 3, 4, 11, 12, 13, 14, 15, 16, 17, 18, 5, 6, 7, 8, 9, 10] rfl
          have hD : va_D A0 ((uX10 cs adm qm Fm Am Bm Dm) ++ ((uX8 cs (qm 3) qms Fms Ams Bms Dms) ++ ((uX3 cs (qms 0) qmh Fmh Amh Bmh Dmh) ++ (uX1 cs (qm 9) qmc (upv 6 x11004 (upv 5 x11003 Fmc)) (vB 4 g11008 (vB 3 g11007 (vB 2 g11006 (vB 1 g11005 Amc)))) (vB 0 y11009 Bmc) Dmc)))) := hD.sub [0, 1, 2, 3, 4, 11, 12, 13, 14, 15, 16, 17, 18, 5, 6, 7, 8, 9, 10] (by decide) rfl
          refine lv_if_le (tgt := 82) hx hb dX10_boys_75 (by decide) (fun c11011 => ?_) (fun c11011 => ?_)
          · have zc11011 := leK rfl (show (0 : Int32).toInt = 0 by decide) c11011
            refine lv_iconst (v := 3) hx hb dX10_boys_82 (by decide) ?_
            exact retDi (x11003, x11004, g11005, g11006, g11007, g11008, y11009) hx hb hr hlk hP hD hS dX10_boys_83 (⟨show (0 : Int) ≤ x11003.toInt ∧ x11003.toInt ≤ 1792 by omega, show (-1 : Int) ≤ x11004.toInt ∧ x11004.toInt ≤ 1791 by omega, hg11005, hg11006, hg11007, trivial⟩) (Nat.le_of_ble_eq_true rfl) (Nat.le_of_ble_eq_true rfl)
          · have zc11011 := nleK rfl (show (0 : Int32).toInt = 0 by decide) c11011
            refine lv_iconst (v := 2) hx hb dX10_boys_78 (by decide) ?_
            refine lv_goto (tgt := 83) hx hb dX10_boys_79 (by decide) ?_
            exact retDi (x11003, x11004, g11005, g11006, g11007, g11008, y11009) hx hb hr hlk hP hD hS dX10_boys_83 (⟨show (0 : Int) ≤ x11003.toInt ∧ x11003.toInt ≤ 1792 by omega, show (-1 : Int) ≤ x11004.toInt ∧ x11004.toInt ≤ 1791 by omega, hg11005, hg11006, hg11007, trivial⟩) (Nat.le_of_ble_eq_true rfl) (Nat.le_of_ble_eq_true rfl)
        · have zc11002 := nleK rfl rfl c11002
          refine lv_aload_n hx hb dX10_boys_33 rfl (lv_at hl 0 rfl) ?_
          refine getF (v := .ref (qm 9)) hx hb ht hown hK hP iTX10 0 9 rfl rfl (by decide) fl_RX10_65 rfl dX10_boys_34 ?_
          refine lv_aload_n hx hb dX10_boys_37 rfl (lv_at hl 0 rfl) ?_
          refine getF (v := .ref (qm 3)) hx hb ht hown hK hP iTX10 0 3 rfl rfl (by decide) fl_RX10_31 rfl dX10_boys_38 ?_
          refine getF (v := .ref (qms 0)) hx hb ht hown hK hP iTX8 3 0 rfl rfl (by decide) fl_RX10_98 rfl dX10_boys_41 ?_
          refine lv_iload_n hx hb dX10_boys_44 rfl (lv_at hl 1 rfl) ?_
          refine lv_iload_n hx hb dX10_boys_45 rfl (lv_at hl 1 rfl) ?_
          refine lv_iconst (v := 1) hx hb dX10_boys_46 (by decide) ?_
          refine behDi (wr := ((uX10 cs adm qm Fm Am Bm Dm) ++ (uX8 cs (qm 3) qms Fms Ams Bms Dms))) (runVD (As := [.ref (qms 0), .int x19_1, .int x19_1, .int 1]) (rest := []) ⟨hx, hb, hml, hown, ht⟩ (sX1_hunt l G cs (qm 9) qmc (upv 6 fmc6_19 (upv 5 fmc5_19 Fmc)) (vB 2 amc2_19 (vB 1 amc1_19 Amc)) (vB 0 bmc0_19 Bmc) Dmc (IB_av (k := 2) (IB_av (k := 1) (IB_pv (k := 6) (IB_pv (k := 5) hImc (show (0 : Int) ≤ fmc5_19.toInt ∧ fmc5_19.toInt ≤ 1792 by omega)) (show (-1 : Int) ≤ fmc6_19.toInt ∧ fmc6_19.toInt ≤ 1791 by omega)) hamc1_19) hamc2_19) (qms 0) qmh Fmh Amh Bmh Dmh hImh x19_1 x19_1 1 (by omega) (by omega) (by decide)) okV_RX10_253 ⟨by decide, by decide⟩ hK hP hD [13, 14, 15, 16, 17, 18, 5, 6, 7, 8, 9, 10, 11, 12] rfl (by decide) rfl 13 rfl rfl hl.1 rfl (Nat.le_of_ble_eq_true rfl) dX10_boys_47 ⟨(Nat.le_of_ble_eq_true rfl), (Nat.le_of_ble_eq_true rfl)⟩) hP hD hS hA [13, 14, 15, 16, 17, 18, 5, 6, 7, 8, 9, 10, 11, 12] [0, 1, 2, 3, 4] rfl rfl (by decide) (by decide) (fun r9 u H locs hu hP hD hS => ?_)
          obtain ⟨x11012, x11013, g11014, g11015, y11016⟩ := u
          have kk11018 : (1 : Int32).toInt = 1 := by decide
          obtain ⟨r11017, rfl⟩ : ∃ z, z = r9 := ⟨_, rfl⟩
          obtain ⟨hbx11012, hbx11013, hg11014, hg11015, hr11017⟩ := hu
          have hbx11012 : (0 : Int) ≤ x11012.toInt ∧ x11012.toInt ≤ 1792 := hbx11012
          have hbx11013 : (-1 : Int) ≤ x11013.toInt ∧ x11013.toInt ≤ 1791 := hbx11013
          have hg11014 : AJ (0) 6271 g11014 := hg11014
          have hg11015 : AJ (-1) 1791 g11015 := hg11015
          have hr11017 : (0 : Int) ≤ r11017.toInt ∧ r11017.toInt ≤ 1 := hr11017
          have hP : va_P G vwCl ((uX10 cs adm qm Fm Am Bm Dm) ++ ((uX8 cs (qm 3) qms Fms Ams Bms Dms) ++ ((uX3 cs (qms 0) qmh Fmh Amh Bmh Dmh) ++ (uX1 cs (qm 9) qmc (upv 6 x11013 (upv 5 x11012 Fmc)) (vB 2 g11015 (vB 1 g11014 Amc)) (vB 0 y11016 Bmc) Dmc)))) H := hP.sub [0, 1, 2, 3, 4, 11, 12, 13, 14, 15, 16, 17, 18, 5, 6, 7, 8, 9, 10] rfl
          have hD : va_D A0 ((uX10 cs adm qm Fm Am Bm Dm) ++ ((uX8 cs (qm 3) qms Fms Ams Bms Dms) ++ ((uX3 cs (qms 0) qmh Fmh Amh Bmh Dmh) ++ (uX1 cs (qm 9) qmc (upv 6 x11013 (upv 5 x11012 Fmc)) (vB 2 g11015 (vB 1 g11014 Amc)) (vB 0 y11016 Bmc) Dmc)))) := hD.sub [0, 1, 2, 3, 4, 11, 12, 13, 14, 15, 16, 17, 18, 5, 6, 7, 8, 9, 10] (by decide) rfl
          refine lv_if_eq (tgt := 55) hx hb dX10_boys_50 (by decide) (fun c11019 => ?_) (fun c11019 => ?_)
          · have zc11019 := eqK rfl (show (0 : Int32).toInt = 0 by decide) c11019
            obtain ⟨v11020, ev11020⟩ : ∃ z : Int32, z = x19_1 + 1 := ⟨_, rfl⟩
            have tv11020 : v11020.toInt = x19_1.toInt + 1 := by rw [ev11020]; exact addT rfl (by decide) (by omega)
            refine lv_iinc (v := v11020) (lv' := [(1, .int v11020), (0, .ref adm)]) hx hb dX10_boys_55 hl (k := 1) rfl (by rw [ev11020]; rfl) (by decide) rfl (fun ls hl => ?_)
            refine lv_goto (tgt := 19) hx hb dX10_boys_58 (by decide) ?_
            exact ih19 v11020 x11012 x11013 g11014 g11015 y11016 H locs ls (by omega) (by omega) (by omega) (by omega) hg11014 hg11015 hP hD hS (lv_sub hl [1, 0] rfl)
          · have zc11019 := neK rfl (show (0 : Int32).toInt = 0 by decide) c11019
            refine lv_iconst (v := 1) hx hb dX10_boys_53 (by decide) ?_
            exact retDi (x11012, x11013, g11014, g11015, (Amc 3), (Amc 4), y11016) hx hb hr hlk hP hD hS dX10_boys_54 (⟨show (0 : Int) ≤ x11012.toInt ∧ x11012.toInt ≤ 1792 by omega, show (-1 : Int) ≤ x11013.toInt ∧ x11013.toInt ≤ 1791 by omega, hg11014, hg11015, fun j => hImc.2 3 j, trivial⟩) (Nat.le_of_ble_eq_true rfl) (Nat.le_of_ble_eq_true rfl)
    exact B19 _ 0 (Fmc 5) (Fmc 6) (Amc 1) (Amc 2) (Bmc 0) s.heap [] ls (Nat.lt_succ_self _) (by decide) (hImc.1 5) (hImc.1 6) (fun j => hImc.2 1 j) (fun j => hImc.2 2 j) hP hD hS (lv_sub hl [1, 0] rfl)
  · have zc2 := nleK (show (1 : Int32).toInt = 1 by decide) rfl c2
    refine lv_bipush (v := (-2)) hx hb dX10_boys_14 (by decide) ?_
    exact retDi ((Fmc 5), (Fmc 6), (Amc 1), (Amc 2), (Amc 3), (Amc 4), (Bmc 0)) hx hb hr hlk hP hD hS dX10_boys_16 (⟨hImc.1 5, hImc.1 6, fun j => hImc.2 1 j, fun j => hImc.2 2 j, fun j => hImc.2 3 j, trivial⟩) (Nat.le_of_ble_eq_true rfl) (Nat.le_of_ble_eq_true rfl)

set_option maxRecDepth 100000 in
set_option maxHeartbeats 16000000 in
theorem sX10_pairs (l : Launch) (G : va_G) (cs : Nat → ClassId) (adm : Nat) (qm : Nat → Nat) (Fm : Nat → Int32) (Am : Nat → Nat → Int32) (Bm : Nat → Nat → Int64) (Dm : Int64) (hIm : IX10 Fm Am) (qms : Nat → Nat) (Fms : Nat → Int32) (Ams : Nat → Nat → Int32) (Bms : Nat → Nat → Int64) (Dms : Int64) (hIms : IX8 Fms Ams) (qmh : Nat → Nat) (Fmh : Nat → Int32) (Amh : Nat → Nat → Int32) (Bmh : Nat → Nat → Int64) (Dmh : Int64) (hImh : IX3 Fmh Amh) (qmc : Nat → Nat) (Fmc : Nat → Int32) (Amc : Nat → Nat → Int32) (Bmc : Nat → Nat → Int64) (Dmc : Int64) (hImc : IX1 Fmc Amc) : ∀ sz : Nat, Met l yX10_pairs (wk yX10_pairs cX10_pairs 1 (some .int)) (rmk 6 0 0) (PreD G (TY cs) [.ref adm] ((uX10 cs adm qm Fm Am Bm Dm) ++ ((uX8 cs (qm 3) qms Fms Ams Bms Dms) ++ ((uX3 cs (qms 0) qmh Fmh Amh Bmh Dmh) ++ (uX1 cs (qm 9) qmc Fmc Amc Bmc Dmc)))) sz) ((QDi G (fun (r : Int32) (u : Int32 × Int32 × (Nat → Int32) × (Nat → Int32) × (Nat → Int32) × (Nat → Int32) × (Nat → Int64)) => ((0 : Int) ≤ u.1.toInt ∧ u.1.toInt ≤ 1792) ∧ ((-1 : Int) ≤ u.2.1.toInt ∧ u.2.1.toInt ≤ 1791) ∧ AJ (0) 6271 u.2.2.1 ∧ AJ (-1) 1791 u.2.2.2.1 ∧ AJ (0) 6 u.2.2.2.2.1 ∧ (True)) (fun u : Int32 × Int32 × (Nat → Int32) × (Nat → Int32) × (Nat → Int32) × (Nat → Int32) × (Nat → Int64) => ((uX10 cs adm qm Fm Am Bm Dm) ++ ((uX8 cs (qm 3) qms Fms Ams Bms Dms) ++ ((uX3 cs (qms 0) qmh Fmh Amh Bmh Dmh) ++ (wX1 cs (qm 9) qmc (upd (upd Fmc 5 u.1) 6 u.2.1) (vA (vA (vA (vA Amc 1 u.2.2.1) 2 u.2.2.2.1) 3 u.2.2.2.2.1) 4 u.2.2.2.2.2.1) (vA Bmc 0 u.2.2.2.2.2.2) Dmc)))))) (va_A ((uX10 cs adm qm Fm Am Bm Dm) ++ ((uX8 cs (qm 3) qms Fms Ams Bms Dms) ++ ((uX3 cs (qms 0) qmh Fmh Amh Bmh Dmh) ++ (uX1 cs (qm 9) qmc Fmc Amc Bmc Dmc)))) sz)) 0 0 (va_A ((uX10 cs adm qm Fm Am Bm Dm) ++ ((uX8 cs (qm 3) qms Fms Ams Bms Dms) ++ ((uX3 cs (qms 0) qmh Fmh Amh Bmh Dmh) ++ (uX1 cs (qm 9) qmc Fmc Amc Bmc Dmc)))) sz) := by
  refine mkD (Qc := (QDi G (fun (r : Int32) (u : Int32 × Int32 × (Nat → Int32) × (Nat → Int32) × (Nat → Int32) × (Nat → Int32) × (Nat → Int64)) => ((0 : Int) ≤ u.1.toInt ∧ u.1.toInt ≤ 1792) ∧ ((-1 : Int) ≤ u.2.1.toInt ∧ u.2.1.toInt ≤ 1791) ∧ AJ (0) 6271 u.2.2.1 ∧ AJ (-1) 1791 u.2.2.2.1 ∧ AJ (0) 6 u.2.2.2.2.1 ∧ (True)) (fun u : Int32 × Int32 × (Nat → Int32) × (Nat → Int32) × (Nat → Int32) × (Nat → Int32) × (Nat → Int64) => ((uX10 cs adm qm Fm Am Bm Dm) ++ ((uX8 cs (qm 3) qms Fms Ams Bms Dms) ++ ((uX3 cs (qms 0) qmh Fmh Amh Bmh Dmh) ++ (wX1 cs (qm 9) qmc (upd (upd Fmc 5 u.1) 6 u.2.1) (vA (vA (vA (vA Amc 1 u.2.2.1) 2 u.2.2.2.1) 3 u.2.2.2.2.1) 4 u.2.2.2.2.2.1) (vA Bmc 0 u.2.2.2.2.2.2) Dmc))))))) (by decide) (by simp [lg_sl, Value.category]) ?_
  intro p e s m args below meth c ls A0 hx hb hml hr hlk hown hmn ht hK hP hD hS hA hl
  have hl : lv_has ls 1 [(0, .ref adm)] := hl
  refine lv_aload_n hx hb dX10_pairs_0 rfl (lv_at hl 0 rfl) ?_
  refine getF (v := .ref (qm 3)) hx hb ht hown hK hP iTX10 0 3 rfl rfl (by decide) fl_RX10_31 rfl dX10_pairs_1 ?_
  refine getF (v := .ref (qms 0)) hx hb ht hown hK hP iTX8 3 0 rfl rfl (by decide) fl_RX10_98 rfl dX10_pairs_4 ?_
  refine getF (v := .int (Fmh 5)) hx hb ht hown hK hP iTX3 5 5 rfl rfl (by decide) fl_RX10_159 rfl dX10_pairs_7 ?_
  have zf1 : (0 : Int) ≤ (Fmh 5).toInt ∧ (Fmh 5).toInt ≤ 7 := hImh.1 5
  refine lv_iconst (v := 1) hx hb dX10_pairs_10 (by decide) ?_
  refine lv_icmp_ge (tgt := 19) hx hb dX10_pairs_11 (by decide) (fun c2 => ?_) (fun c2 => ?_)
  · have zc2 := leK (show (1 : Int32).toInt = 1 by decide) rfl c2
    refine lv_aload_n hx hb dX10_pairs_19 rfl (lv_at hl 0 rfl) ?_
    refine getF (v := .ref (qm 9)) hx hb ht hown hK hP iTX10 0 9 rfl rfl (by decide) fl_RX10_65 rfl dX10_pairs_20 ?_
    refine lv_aload_n hx hb dX10_pairs_23 rfl (lv_at hl 0 rfl) ?_
    refine getF (v := .ref (qm 3)) hx hb ht hown hK hP iTX10 0 3 rfl rfl (by decide) fl_RX10_31 rfl dX10_pairs_24 ?_
    refine getF (v := .ref (qms 0)) hx hb ht hown hK hP iTX8 3 0 rfl rfl (by decide) fl_RX10_98 rfl dX10_pairs_27 ?_
    refine behDi (wr := ((uX10 cs adm qm Fm Am Bm Dm) ++ (uX8 cs (qm 3) qms Fms Ams Bms Dms))) (runVD (As := [.ref (qms 0)]) (rest := []) ⟨hx, hb, hml, hown, ht⟩ (sX1_pairsThatCan l G cs (qm 9) qmc Fmc Amc Bmc Dmc hImc (qms 0) qmh Fmh Amh Bmh Dmh hImh ) okV_RX10_263 ⟨by decide, by decide⟩ hK hP hD [13, 14, 15, 16, 17, 18, 5, 6, 7, 8, 9, 10, 11, 12] rfl (by decide) rfl 13 rfl rfl hl.1 rfl (Nat.le_of_ble_eq_true rfl) dX10_pairs_30 ⟨(Nat.le_of_ble_eq_true rfl), (Nat.le_of_ble_eq_true rfl)⟩) hP hD hS hA [13, 14, 15, 16, 17, 18, 5, 6, 7, 8, 9, 10, 11, 12] [0, 1, 2, 3, 4] rfl rfl (by decide) (by decide) (fun r9 u H locs hu hP hD hS => ?_)
    obtain ⟨x3, x4, g5, g6, g7, g8, y9⟩ := u
    obtain ⟨r10, rfl⟩ : ∃ z, z = r9 := ⟨_, rfl⟩
    obtain ⟨hbx3, hbx4, hg5, hg6, hg7, hr10⟩ := hu
    have hbx3 : (0 : Int) ≤ x3.toInt ∧ x3.toInt ≤ 1792 := hbx3
    have hbx4 : (-1 : Int) ≤ x4.toInt ∧ x4.toInt ≤ 1791 := hbx4
    have hg5 : AJ (0) 6271 g5 := hg5
    have hg6 : AJ (-1) 1791 g6 := hg6
    have hg7 : AJ (0) 6 g7 := hg7
    have hP : va_P G vwCl ((uX10 cs adm qm Fm Am Bm Dm) ++ ((uX8 cs (qm 3) qms Fms Ams Bms Dms) ++ ((uX3 cs (qms 0) qmh Fmh Amh Bmh Dmh) ++ (uX1 cs (qm 9) qmc (upv 6 x4 (upv 5 x3 Fmc)) (vB 4 g8 (vB 3 g7 (vB 2 g6 (vB 1 g5 Amc)))) (vB 0 y9 Bmc) Dmc)))) H := hP.sub [0, 1, 2, 3, 4, 11, 12, 13, 14, 15, 16, 17, 18, 5, 6, 7, 8, 9, 10] rfl
    have hD : va_D A0 ((uX10 cs adm qm Fm Am Bm Dm) ++ ((uX8 cs (qm 3) qms Fms Ams Bms Dms) ++ ((uX3 cs (qms 0) qmh Fmh Amh Bmh Dmh) ++ (uX1 cs (qm 9) qmc (upv 6 x4 (upv 5 x3 Fmc)) (vB 4 g8 (vB 3 g7 (vB 2 g6 (vB 1 g5 Amc)))) (vB 0 y9 Bmc) Dmc)))) := hD.sub [0, 1, 2, 3, 4, 11, 12, 13, 14, 15, 16, 17, 18, 5, 6, 7, 8, 9, 10] (by decide) rfl
    exact retDi (x3, x4, g5, g6, g7, g8, y9) hx hb hr hlk hP hD hS dX10_pairs_33 (⟨show (0 : Int) ≤ x3.toInt ∧ x3.toInt ≤ 1792 by omega, show (-1 : Int) ≤ x4.toInt ∧ x4.toInt ≤ 1791 by omega, hg5, hg6, hg7, trivial⟩) (Nat.le_of_ble_eq_true rfl) (Nat.le_of_ble_eq_true rfl)
  · have zc2 := nleK (show (1 : Int32).toInt = 1 by decide) rfl c2
    refine lv_bipush (v := (-2)) hx hb dX10_pairs_14 (by decide) ?_
    refine lv_goto (tgt := 33) hx hb dX10_pairs_16 (by decide) ?_
    exact retDi ((Fmc 5), (Fmc 6), (Amc 1), (Amc 2), (Amc 3), (Amc 4), (Bmc 0)) hx hb hr hlk hP hD hS dX10_pairs_33 (⟨hImc.1 5, hImc.1 6, fun j => hImc.2 1 j, fun j => hImc.2 2 j, fun j => hImc.2 3 j, trivial⟩) (Nat.le_of_ble_eq_true rfl) (Nat.le_of_ble_eq_true rfl)

set_option maxRecDepth 100000 in
set_option maxHeartbeats 16000000 in
theorem sX10_which (l : Launch) (G : va_G) (cs : Nat → ClassId) (adm : Nat) (qm : Nat → Nat) (Fm : Nat → Int32) (Am : Nat → Nat → Int32) (Bm : Nat → Nat → Int64) (Dm : Int64) (hIm : IX10 Fm Am) (qms : Nat → Nat) (Fms : Nat → Int32) (Ams : Nat → Nat → Int32) (Bms : Nat → Nat → Int64) (Dms : Int64) (hIms : IX8 Fms Ams) (qmh : Nat → Nat) (Fmh : Nat → Int32) (Amh : Nat → Nat → Int32) (Bmh : Nat → Nat → Int64) (Dmh : Int64) (hImh : IX3 Fmh Amh) (qme : Nat → Nat) (Fme : Nat → Int32) (Ame : Nat → Nat → Int32) (Bme : Nat → Nat → Int64) (Dme : Int64) (hIme : IX4 Fme Ame) (a1 : Int32) : ∀ sz : Nat, Met l yX10_which (wk yX10_which cX10_which 2 (some .int)) (rmk 4 0 0) (PreD G (TY cs) [.ref adm, .int a1] ((uX10 cs adm qm Fm Am Bm Dm) ++ ((uX8 cs (qm 3) qms Fms Ams Bms Dms) ++ ((uX3 cs (qms 0) qmh Fmh Amh Bmh Dmh) ++ (uX4 cs (qm 10) qme Fme Ame Bme Dme)))) sz) ((QDi G (fun (r : Int32) (u : (Nat → Int32)) => True) (fun u : (Nat → Int32) => ((uX10 cs adm qm Fm Am Bm Dm) ++ ((uX8 cs (qm 3) qms Fms Ams Bms Dms) ++ ((uX3 cs (qms 0) qmh Fmh Amh Bmh Dmh) ++ (wX4 cs (qm 10) qme Fme (vA Ame 0 u) Bme Dme)))))) (va_A ((uX10 cs adm qm Fm Am Bm Dm) ++ ((uX8 cs (qm 3) qms Fms Ams Bms Dms) ++ ((uX3 cs (qms 0) qmh Fmh Amh Bmh Dmh) ++ (uX4 cs (qm 10) qme Fme Ame Bme Dme)))) sz)) 0 0 (va_A ((uX10 cs adm qm Fm Am Bm Dm) ++ ((uX8 cs (qm 3) qms Fms Ams Bms Dms) ++ ((uX3 cs (qms 0) qmh Fmh Amh Bmh Dmh) ++ (uX4 cs (qm 10) qme Fme Ame Bme Dme)))) sz) := by
  refine mkD (Qc := (QDi G (fun (r : Int32) (u : (Nat → Int32)) => True) (fun u : (Nat → Int32) => ((uX10 cs adm qm Fm Am Bm Dm) ++ ((uX8 cs (qm 3) qms Fms Ams Bms Dms) ++ ((uX3 cs (qms 0) qmh Fmh Amh Bmh Dmh) ++ (wX4 cs (qm 10) qme Fme (vA Ame 0 u) Bme Dme))))))) (by decide) (by simp [lg_sl, Value.category]) ?_
  intro p e s m args below meth c ls A0 hx hb hml hr hlk hown hmn ht hK hP hD hS hA hl
  have hl : lv_has ls 2 [(0, .ref adm), (1, .int a1)] := hl
  refine lv_aload_n hx hb dX10_which_0 rfl (lv_at hl 0 rfl) ?_
  refine lv_iload_n hx hb dX10_which_1 rfl (lv_at hl 1 rfl) ?_
  refine behR (runVP (As := [.int a1]) (rest := []) ⟨hx, hb, hml, hown, ht⟩ (sX10_isSet l G cs adm qm Fm Am Bm Dm hIm qms Fms Ams Bms Dms hIms qmh Fmh Amh Bmh Dmh hImh a1 ) okV_RX10_267 ⟨by decide, by decide⟩ hK hP [0, 1, 2, 3, 4, 5, 6, 7, 8, 9, 10, 11, 12] rfl 0 rfl rfl hl.1 rfl (Nat.le_of_ble_eq_true rfl) dX10_which_2 ⟨by decide, by decide⟩) hP hS hA (fun r1 H locs hr1 hP hS => ?_)
  have hr1 : (r1.toInt = 1 ∧ 1 ≤ a1.toInt ∧ a1.toInt ≤ 63) ∨ r1.toInt = 0 := hr1
  refine lv_if_eq (tgt := 26) hx hb dX10_which_5 (by decide) (fun c2 => ?_) (fun c2 => ?_)
  · have zc2 := eqK rfl (show (0 : Int32).toInt = 0 by decide) c2
    refine lv_bipush (v := (-2)) hx hb dX10_which_26 (by decide) ?_
    exact retDi (Ame 0) hx hb hr hlk hP hD hS dX10_which_28 (trivial) (Nat.le_of_ble_eq_true rfl) (Nat.le_of_ble_eq_true rfl)
  · have zc2 := neK rfl (show (0 : Int32).toInt = 0 by decide) c2
    refine lv_aload_n hx hb dX10_which_8 rfl (lv_at hl 0 rfl) ?_
    refine getF (v := .ref (qm 10)) hx hb ht hown hK hP iTX10 0 10 rfl rfl (by decide) fl_RX10_72 rfl dX10_which_9 ?_
    refine lv_aload_n hx hb dX10_which_12 rfl (lv_at hl 0 rfl) ?_
    refine getF (v := .ref (qm 3)) hx hb ht hown hK hP iTX10 0 3 rfl rfl (by decide) fl_RX10_31 rfl dX10_which_13 ?_
    refine getF (v := .ref (qms 0)) hx hb ht hown hK hP iTX8 3 0 rfl rfl (by decide) fl_RX10_98 rfl dX10_which_16 ?_
    refine lv_iload_n hx hb dX10_which_19 rfl (lv_at hl 1 rfl) ?_
    refine behDi (wr := ((uX10 cs adm qm Fm Am Bm Dm) ++ (uX8 cs (qm 3) qms Fms Ams Bms Dms))) (runVD (As := [.ref (qms 0), .int a1]) (rest := []) ⟨hx, hb, hml, hown, ht⟩ (sX4_fewestFor l G cs (qm 10) qme Fme Ame Bme Dme hIme (qms 0) qmh Fmh Amh Bmh Dmh hImh a1 (by omega)) okV_RX10_270 ⟨by decide, by decide⟩ hK hP hD [13, 14, 5, 6, 7, 8, 9, 10, 11, 12] rfl (by decide) rfl 13 rfl rfl hl.1 rfl (Nat.le_of_ble_eq_true rfl) dX10_which_20 ⟨(Nat.le_of_ble_eq_true rfl), (Nat.le_of_ble_eq_true rfl)⟩) hP hD hS hA [13, 14, 5, 6, 7, 8, 9, 10, 11, 12] [0, 1, 2, 3, 4] rfl rfl (by decide) (by decide) (fun r9 u H locs hu hP hD hS => ?_)
    obtain ⟨g3, rfl⟩ : ∃ z, z = u := ⟨_, rfl⟩
    obtain ⟨r4, rfl⟩ : ∃ z, z = r9 := ⟨_, rfl⟩
    have hr4 := hu
    have hP : va_P G vwCl ((uX10 cs adm qm Fm Am Bm Dm) ++ ((uX8 cs (qm 3) qms Fms Ams Bms Dms) ++ ((uX3 cs (qms 0) qmh Fmh Amh Bmh Dmh) ++ (uX4 cs (qm 10) qme Fme (vB 0 g3 Ame) Bme Dme)))) H := hP.sub [0, 1, 2, 3, 4, 7, 8, 9, 10, 11, 12, 13, 14, 5, 6] rfl
    have hD : va_D A0 ((uX10 cs adm qm Fm Am Bm Dm) ++ ((uX8 cs (qm 3) qms Fms Ams Bms Dms) ++ ((uX3 cs (qms 0) qmh Fmh Amh Bmh Dmh) ++ (uX4 cs (qm 10) qme Fme (vB 0 g3 Ame) Bme Dme)))) := hD.sub [0, 1, 2, 3, 4, 7, 8, 9, 10, 11, 12, 13, 14, 5, 6] (by decide) rfl
    refine lv_goto (tgt := 28) hx hb dX10_which_23 (by decide) ?_
    exact retDi g3 hx hb hr hlk hP hD hS dX10_which_28 (trivial) (Nat.le_of_ble_eq_true rfl) (Nat.le_of_ble_eq_true rfl)

