set_option maxRecDepth 100000 in
set_option maxHeartbeats 16000000 in
theorem sX10_behind_hi (l : Launch) (G : va_G) (cs : Nat → ClassId) (adm : Nat) (qm : Nat → Nat) (Fm : Nat → Int32) (Am : Nat → Nat → Int32) (Bm : Nat → Nat → Int64) (Dm : Int64) (hIm : IX10 Fm Am) (qms : Nat → Nat) (Fms : Nat → Int32) (Ams : Nat → Nat → Int32) (Bms : Nat → Nat → Int64) (Dms : Int64) (hIms : IX8 Fms Ams) (qmh : Nat → Nat) (Fmh : Nat → Int32) (Amh : Nat → Nat → Int32) (Bmh : Nat → Nat → Int64) (Dmh : Int64) (hImh : IX3 Fmh Amh) (qmn : Nat → Nat) (Fmn : Nat → Int32) (Amn : Nat → Nat → Int32) (Bmn : Nat → Nat → Int64) (Dmn : Int64) (hImn : IX5 Fmn Amn) (qmw : Nat → Nat) (Fmw : Nat → Int32) (Amw : Nat → Nat → Int32) (Bmw : Nat → Nat → Int64) (Dmw : Int64) (hImw : IX5 Fmw Amw) (a1 : Int32) (a2 : Int32) (ha1 : (4 : Int) ≤ a1.toInt ∧ a1.toInt ≤ 2147483647) : ∀ sz : Nat, Met l yX10_behind (wk yX10_behind cX10_behind 4 (some .int)) (rmk 3 0 0) (PreD G (TY cs) [.ref adm, .int a1, .int a2] ((uX10 cs adm qm Fm Am Bm Dm) ++ ((uX8 cs (qm 3) qms Fms Ams Bms Dms) ++ ((uX3 cs (qms 0) qmh Fmh Amh Bmh Dmh) ++ ((uX5 cs (qm 6) qmn Fmn Amn Bmn Dmn) ++ (uX5 cs (qm 7) qmw Fmw Amw Bmw Dmw))))) sz) ((QDi G (fun (r : Int32) (u : Unit) => True) (fun u : Unit => ((uX10 cs adm qm Fm Am Bm Dm) ++ ((uX8 cs (qm 3) qms Fms Ams Bms Dms) ++ ((uX3 cs (qms 0) qmh Fmh Amh Bmh Dmh) ++ ((uX5 cs (qm 6) qmn Fmn Amn Bmn Dmn) ++ (uX5 cs (qm 7) qmw Fmw Amw Bmw Dmw))))))) (va_A ((uX10 cs adm qm Fm Am Bm Dm) ++ ((uX8 cs (qm 3) qms Fms Ams Bms Dms) ++ ((uX3 cs (qms 0) qmh Fmh Amh Bmh Dmh) ++ ((uX5 cs (qm 6) qmn Fmn Amn Bmn Dmn) ++ (uX5 cs (qm 7) qmw Fmw Amw Bmw Dmw))))) sz)) 0 0 (va_A ((uX10 cs adm qm Fm Am Bm Dm) ++ ((uX8 cs (qm 3) qms Fms Ams Bms Dms) ++ ((uX3 cs (qms 0) qmh Fmh Amh Bmh Dmh) ++ ((uX5 cs (qm 6) qmn Fmn Amn Bmn Dmn) ++ (uX5 cs (qm 7) qmw Fmw Amw Bmw Dmw))))) sz) := by
  refine mkD (Qc := (QDi G (fun (r : Int32) (u : Unit) => True) (fun u : Unit => ((uX10 cs adm qm Fm Am Bm Dm) ++ ((uX8 cs (qm 3) qms Fms Ams Bms Dms) ++ ((uX3 cs (qms 0) qmh Fmh Amh Bmh Dmh) ++ ((uX5 cs (qm 6) qmn Fmn Amn Bmn Dmn) ++ (uX5 cs (qm 7) qmw Fmw Amw Bmw Dmw)))))))) (by decide) (by simp [lg_sl, Value.category]) ?_
  intro p e s m args below meth c ls A0 hx hb hml hr hlk hown hmn ht hK hP hD hS hA hl
  have hl : lv_has ls 4 [(0, .ref adm), (1, .int a1), (2, .int a2)] := hl
  refine lv_aload_n hx hb dX10_behind_0 rfl (lv_at hl 0 rfl) ?_
  refine lv_iload_n hx hb dX10_behind_1 rfl (lv_at hl 1 rfl) ?_
  refine lv_aload_n hx hb dX10_behind_2 rfl (lv_at hl 0 rfl) ?_
  refine lv_iload_n hx hb dX10_behind_3 rfl (lv_at hl 2 rfl) ?_
  refine behR (runVP (As := [.int a2]) (rest := [.int a1, .ref adm]) ⟨hx, hb, hml, hown, ht⟩ (sX10_isRoom l G cs adm qm Fm Am Bm Dm hIm qms Fms Ams Bms Dms hIms qmh Fmh Amh Bmh Dmh hImh a2 ) okV_RX10_120 ⟨by decide, by decide⟩ hK hP [0, 1, 2, 3, 4, 5, 6, 7, 8, 9, 10, 11, 12] rfl 0 rfl rfl hl.1 rfl (Nat.le_of_ble_eq_true rfl) dX10_behind_4 ⟨by decide, by decide⟩) hP hS hA (fun r1 H locs hr1 hP hS => ?_)
  have hr1 : (r1.toInt = 1 ∧ 0 ≤ a2.toInt ∧ a2.toInt < (Fmh 5).toInt ∧ a2.toInt ≤ 6) ∨ r1.toInt = 0 := hr1
  have bb2 := i32b a1
  refine behR (runVP (As := [.int a1, .int r1]) (rest := []) ⟨hx, hb, hml, hown, ht⟩ (sX10_askRound_hi l G cs adm qm Fm Am Bm Dm hIm qms Fms Ams Bms Dms hIms qmh Fmh Amh Bmh Dmh hImh a1 r1 (by omega) (by omega)) okV_RX10_186 ⟨by decide, by decide⟩ hK hP [0, 1, 2, 3, 4, 5, 6, 7, 8, 9, 10, 11, 12] rfl 0 rfl rfl hl.1 rfl (Nat.le_of_ble_eq_true rfl) dX10_behind_7 ⟨by decide, by decide⟩) hP hS hA (fun r3 H locs hr3 hP hS => ?_)
  have hr3 : r3.toInt = -2 := hr3
  refine lv_istore_n (lv' := [(3, .int r3), (0, .ref adm), (1, .int a1), (2, .int a2)]) hx hb dX10_behind_10 rfl hl (by decide) rfl (fun ls hl => ?_)
  refine lv_iload_n hx hb dX10_behind_11 rfl (lv_at hl 0 rfl) ?_
  refine lv_if_eq (tgt := 17) hx hb dX10_behind_12 (by decide) (fun c4 => False.elim (by have zz := eqK rfl (show (0 : Int32).toInt = 0 by decide) c4; omega)) (fun c4 => ?_)
  refine lv_iload_n hx hb dX10_behind_15 rfl (lv_at hl 0 rfl) ?_
  exact retDi () hx hb hr hlk hP hD hS dX10_behind_16 (trivial) (Nat.le_of_ble_eq_true rfl) (Nat.le_of_ble_eq_true rfl)

set_option maxRecDepth 100000 in
set_option maxHeartbeats 16000000 in
theorem sX10_doubt_0 (l : Launch) (G : va_G) (cs : Nat → ClassId) (adm : Nat) (qm : Nat → Nat) (Fm : Nat → Int32) (Am : Nat → Nat → Int32) (Bm : Nat → Nat → Int64) (Dm : Int64) (hIm : IX10 Fm Am) (qms : Nat → Nat) (Fms : Nat → Int32) (Ams : Nat → Nat → Int32) (Bms : Nat → Nat → Int64) (Dms : Int64) (hIms : IX8 Fms Ams) (qmh : Nat → Nat) (Fmh : Nat → Int32) (Amh : Nat → Nat → Int32) (Bmh : Nat → Nat → Int64) (Dmh : Int64) (hImh : IX3 Fmh Amh) (qmn : Nat → Nat) (Fmn : Nat → Int32) (Amn : Nat → Nat → Int32) (Bmn : Nat → Nat → Int64) (Dmn : Int64) (hImn : IX5 Fmn Amn) (qmw : Nat → Nat) (Fmw : Nat → Int32) (Amw : Nat → Nat → Int32) (Bmw : Nat → Nat → Int64) (Dmw : Int64) (hImw : IX5 Fmw Amw) (qr0 : Nat → Nat) (Fr0 : Nat → Int32) (Ar0 : Nat → Nat → Int32) (Br0 : Nat → Nat → Int64) (Dr0 : Int64) (hIr0 : IX7 Fr0 Ar0) (a2 : Int32) : ∀ sz : Nat, Met l yX10_doubt (wk yX10_doubt cX10_doubt 6 (some .int)) (rmk 4 0 0) (PreD G (TY cs) [.ref adm, .int 0, .int a2] ((uX10 cs adm qm Fm Am Bm Dm) ++ ((uX8 cs (qm 3) qms Fms Ams Bms Dms) ++ ((uX3 cs (qms 0) qmh Fmh Amh Bmh Dmh) ++ ((uX5 cs (qm 6) qmn Fmn Amn Bmn Dmn) ++ ((uX5 cs (qm 7) qmw Fmw Amw Bmw Dmw) ++ (uX7 cs (qm 20) qr0 Fr0 Ar0 Br0 Dr0)))))) sz) ((QDi G (fun (r : Int32) (u : Int32 × Int32 × (Nat → Int32) × (Nat → Int32)) => True) (fun u : Int32 × Int32 × (Nat → Int32) × (Nat → Int32) => ((uX10 cs adm qm Fm Am Bm Dm) ++ ((uX8 cs (qm 3) qms Fms Ams Bms Dms) ++ ((uX3 cs (qms 0) qmh Fmh Amh Bmh Dmh) ++ ((uX5 cs (qm 6) qmn Fmn Amn Bmn Dmn) ++ ((wX5 cs (qm 7) qmw (upd (upd Fmw 2 u.1) 3 u.2.1) (vA (vA Amw 0 u.2.2.1) 1 u.2.2.2) Bmw Dmw) ++ (uX7 cs (qm 20) qr0 Fr0 Ar0 Br0 Dr0)))))))) (va_A ((uX10 cs adm qm Fm Am Bm Dm) ++ ((uX8 cs (qm 3) qms Fms Ams Bms Dms) ++ ((uX3 cs (qms 0) qmh Fmh Amh Bmh Dmh) ++ ((uX5 cs (qm 6) qmn Fmn Amn Bmn Dmn) ++ ((uX5 cs (qm 7) qmw Fmw Amw Bmw Dmw) ++ (uX7 cs (qm 20) qr0 Fr0 Ar0 Br0 Dr0)))))) sz)) 0 0 (va_A ((uX10 cs adm qm Fm Am Bm Dm) ++ ((uX8 cs (qm 3) qms Fms Ams Bms Dms) ++ ((uX3 cs (qms 0) qmh Fmh Amh Bmh Dmh) ++ ((uX5 cs (qm 6) qmn Fmn Amn Bmn Dmn) ++ ((uX5 cs (qm 7) qmw Fmw Amw Bmw Dmw) ++ (uX7 cs (qm 20) qr0 Fr0 Ar0 Br0 Dr0)))))) sz) := by
  refine mkD (Qc := (QDi G (fun (r : Int32) (u : Int32 × Int32 × (Nat → Int32) × (Nat → Int32)) => True) (fun u : Int32 × Int32 × (Nat → Int32) × (Nat → Int32) => ((uX10 cs adm qm Fm Am Bm Dm) ++ ((uX8 cs (qm 3) qms Fms Ams Bms Dms) ++ ((uX3 cs (qms 0) qmh Fmh Amh Bmh Dmh) ++ ((uX5 cs (qm 6) qmn Fmn Amn Bmn Dmn) ++ ((wX5 cs (qm 7) qmw (upd (upd Fmw 2 u.1) 3 u.2.1) (vA (vA Amw 0 u.2.2.1) 1 u.2.2.2) Bmw Dmw) ++ (uX7 cs (qm 20) qr0 Fr0 Ar0 Br0 Dr0))))))))) (by decide) (by simp [lg_sl, Value.category]) ?_
  intro p e s m args below meth c ls A0 hx hb hml hr hlk hown hmn ht hK hP hD hS hA hl
  have hl : lv_has ls 6 [(0, .ref adm), (1, .int 0), (2, .int a2)] := hl
  refine lv_aload_n hx hb dX10_doubt_0 rfl (lv_at hl 0 rfl) ?_
  refine lv_iload_n hx hb dX10_doubt_1 rfl (lv_at hl 1 rfl) ?_
  refine lv_aload_n hx hb dX10_doubt_2 rfl (lv_at hl 0 rfl) ?_
  refine lv_iload_n hx hb dX10_doubt_3 rfl (lv_at hl 2 rfl) ?_
  refine behR (runVP (As := [.int a2]) (rest := [.int 0, .ref adm]) ⟨hx, hb, hml, hown, ht⟩ (sX10_isPartOfMillion l G cs adm qm Fm Am Bm Dm hIm a2 ) okV_RX10_205 ⟨by decide, by decide⟩ hK hP [0, 1, 2] rfl 0 rfl rfl hl.1 rfl (Nat.le_of_ble_eq_true rfl) dX10_doubt_4 ⟨by decide, by decide⟩) hP hS hA (fun r1 H locs hr1 hP hS => ?_)
  have hr1 : (r1.toInt = 1 ∧ 0 ≤ a2.toInt ∧ a2.toInt ≤ 1000000) ∨ (r1.toInt = 0 ∧ (a2.toInt < 0 ∨ 1000000 < a2.toInt)) := hr1
  refine behR (runVP (As := [.int 0, .int r1]) (rest := []) ⟨hx, hb, hml, hown, ht⟩ (sX10_askRound_0 l G cs adm qm Fm Am Bm Dm hIm qms Fms Ams Bms Dms hIms qmh Fmh Amh Bmh Dmh hImh qr0 Fr0 Ar0 Br0 Dr0 hIr0 r1 (by omega)) okV_RX10_186 ⟨by decide, by decide⟩ hK hP [0, 1, 2, 3, 4, 5, 6, 7, 8, 9, 10, 11, 12, 19, 20] rfl 0 rfl rfl hl.1 rfl (Nat.le_of_ble_eq_true rfl) dX10_doubt_7 ⟨by decide, by decide⟩) hP hS hA (fun r2 H locs hr2 hP hS => ?_)
  have kk3 : (0 : Int32).toInt = 0 := by decide
  have hr2 : ((r2.toInt = 0 ∧ r1.toInt = 1) ∨ r2.toInt = -2 ∨ r2.toInt = -6) ∧ RWk r2 0 (Br0 0) (-1) ((Fmh 5).toInt - 1) (Fr0 3).toInt := hr2
  refine lv_istore_n (lv' := [(3, .int r2), (0, .ref adm), (1, .int 0), (2, .int a2)]) hx hb dX10_doubt_10 rfl hl (by decide) rfl (fun ls hl => ?_)
  refine lv_iload_n hx hb dX10_doubt_11 rfl (lv_at hl 0 rfl) ?_
  refine lv_if_eq (tgt := 17) hx hb dX10_doubt_12 (by decide) (fun c4 => ?_) (fun c4 => ?_)
  · have zc4 := eqK rfl (show (0 : Int32).toInt = 0 by decide) c4
    refine lv_aload_n hx hb dX10_doubt_17 rfl (lv_at hl 1 rfl) ?_
    refine getF (v := .ref (qm 5)) hx hb ht hown hK hP iTX10 0 5 rfl rfl (by decide) fl_RX10_41 rfl dX10_doubt_18 ?_
    refine lv_iload_n hx hb dX10_doubt_21 rfl (lv_at hl 2 rfl) ?_
    refine va_aldq hx hb hK.1 hP 2 5 rfl rfl (show ¬ (_ ∨ _) by decide) dX10_doubt_22 ?_
    refine W.eq (g2 := F0 m 23 ls [.ref (qm 20)]) rfl ?_
    refine lv_astore (lv' := [(4, .ref (qm 20)), (3, .int r2), (0, .ref adm), (1, .int 0), (2, .int a2)]) hx hb dX10_doubt_23 hl (by decide) rfl (fun ls hl => ?_)
    refine lv_aload_n hx hb dX10_doubt_25 rfl (lv_at hl 2 rfl) ?_
    refine getF (v := .ref (qm 7)) hx hb ht hown hK hP iTX10 0 7 rfl rfl (by decide) fl_RX10_52 rfl dX10_doubt_26 ?_
    refine lv_aload_n hx hb dX10_doubt_29 rfl (lv_at hl 2 rfl) ?_
    refine getF (v := .ref (qm 6)) hx hb ht hown hK hP iTX10 0 6 rfl rfl (by decide) fl_RX10_48 rfl dX10_doubt_30 ?_
    refine behDw (wr := ((uX10 cs adm qm Fm Am Bm Dm) ++ ((uX8 cs (qm 3) qms Fms Ams Bms Dms) ++ ((uX3 cs (qms 0) qmh Fmh Amh Bmh Dmh) ++ (uX7 cs (qm 20) qr0 Fr0 Ar0 Br0 Dr0))))) (runVD (As := [.ref (qm 6)]) (rest := []) ⟨hx, hb, hml, hown, ht⟩ (sX5_copyFrom l G cs (qm 7) qmw Fmw Amw Bmw Dmw hImw (qm 6) qmn Fmn Amn Bmn Dmn hImn ) okV_RX10_179 ⟨by decide, by decide⟩ hK hP hD [16, 17, 18, 13, 14, 15] rfl (by decide) rfl 16 rfl rfl hl.1 rfl (Nat.le_of_ble_eq_true rfl) dX10_doubt_33 ⟨(Nat.le_of_ble_eq_true rfl), (Nat.le_of_ble_eq_true rfl)⟩) hP hD hS hA [16, 17, 18, 13, 14, 15] [0, 1, 2, 3, 4, 5, 6, 7, 8, 9, 10, 11, 12, 19, 20] rfl rfl (by decide) (by decide) (fun u H locs hu hP hD hS => ?_)
    obtain ⟨x5, x6, g7⟩ := u
    have hr8 := hu
    have hP : va_P G vwCl ((uX10 cs adm qm Fm Am Bm Dm) ++ ((uX8 cs (qm 3) qms Fms Ams Bms Dms) ++ ((uX3 cs (qms 0) qmh Fmh Amh Bmh Dmh) ++ ((uX5 cs (qm 6) qmn Fmn Amn Bmn Dmn) ++ ((uX5 cs (qm 7) qmw (upv 3 x6 (upv 2 x5 Fmw)) (vB 0 g7 Amw) Bmw Dmw) ++ (uX7 cs (qm 20) qr0 Fr0 Ar0 Br0 Dr0)))))) H := hP.sub [0, 1, 2, 3, 4, 5, 6, 7, 8, 9, 10, 11, 12, 18, 19, 20, 15, 16, 17, 13, 14] rfl
    have hD : va_D A0 ((uX10 cs adm qm Fm Am Bm Dm) ++ ((uX8 cs (qm 3) qms Fms Ams Bms Dms) ++ ((uX3 cs (qms 0) qmh Fmh Amh Bmh Dmh) ++ ((uX5 cs (qm 6) qmn Fmn Amn Bmn Dmn) ++ ((uX5 cs (qm 7) qmw (upv 3 x6 (upv 2 x5 Fmw)) (vB 0 g7 Amw) Bmw Dmw) ++ (uX7 cs (qm 20) qr0 Fr0 Ar0 Br0 Dr0)))))) := hD.sub [0, 1, 2, 3, 4, 5, 6, 7, 8, 9, 10, 11, 12, 18, 19, 20, 15, 16, 17, 13, 14] (by decide) rfl
    refine lv_iconst (v := 0) hx hb dX10_doubt_36 (by decide) ?_
    refine lv_istore (lv' := [(5, .int 0), (4, .ref (qm 20)), (3, .int r2), (0, .ref adm), (1, .int 0), (2, .int a2)]) hx hb dX10_doubt_37 hl (by decide) rfl (fun ls hl => ?_)
    have B39 : ∀ (n : Nat) (x39_5 : Int32) (fmw3_39 : Int32) (amw0_39 : (Nat → Int32)) (amw1_39 : (Nat → Int32)) (H : Heap) (locs : List Loc) (ls : Array Slot), (60 - x39_5.toInt).toNat < n → (0 : Int) ≤ x39_5.toInt ∧ x39_5.toInt ≤ 60 → va_P G vwCl ((uX10 cs adm qm Fm Am Bm Dm) ++ ((uX8 cs (qm 3) qms Fms Ams Bms Dms) ++ ((uX3 cs (qms 0) qmh Fmh Amh Bmh Dmh) ++ ((uX5 cs (qm 6) qmn Fmn Amn Bmn Dmn) ++ ((uX5 cs (qm 7) qmw (upv 3 fmw3_39 (upv 2 x5 Fmw)) (vB 1 amw1_39 (vB 0 amw0_39 Amw)) Bmw Dmw) ++ (uX7 cs (qm 20) qr0 Fr0 Ar0 Br0 Dr0)))))) H → va_D A0 ((uX10 cs adm qm Fm Am Bm Dm) ++ ((uX8 cs (qm 3) qms Fms Ams Bms Dms) ++ ((uX3 cs (qms 0) qmh Fmh Amh Bmh Dmh) ++ ((uX5 cs (qm 6) qmn Fmn Amn Bmn Dmn) ++ ((uX5 cs (qm 7) qmw (upv 3 fmw3_39 (upv 2 x5 Fmw)) (vB 1 amw1_39 (vB 0 amw0_39 Amw)) Bmw Dmw) ++ (uX7 cs (qm 20) qr0 Fr0 Ar0 Br0 Dr0)))))) → va_S A0 s.heap H locs → lv_has ls 6 [(0, .ref adm), (2, .int a2), (4, .ref (qm 20)), (5, .int x39_5)] → W p l e (rmk 4 0 0) s m args below meth c H locs 0 0 (MQ below ((QDi G (fun (r : Int32) (u : Int32 × Int32 × (Nat → Int32) × (Nat → Int32)) => True) (fun u : Int32 × Int32 × (Nat → Int32) × (Nat → Int32) => ((uX10 cs adm qm Fm Am Bm Dm) ++ ((uX8 cs (qm 3) qms Fms Ams Bms Dms) ++ ((uX3 cs (qms 0) qmh Fmh Amh Bmh Dmh) ++ ((uX5 cs (qm 6) qmn Fmn Amn Bmn Dmn) ++ ((wX5 cs (qm 7) qmw (upd (upd Fmw 2 u.1) 3 u.2.1) (vA (vA Amw 0 u.2.2.1) 1 u.2.2.2) Bmw Dmw) ++ (uX7 cs (qm 20) qr0 Fr0 Ar0 Br0 Dr0)))))))) A0) args s 0 0 A0) (F0 m 39 ls []) := by
      intro n
      induction n with
      | zero => intro x39_5 fmw3_39 amw0_39 amw1_39 H locs ls hmeas hx39_5 hP hD hS hl; exact absurd hmeas (Nat.not_lt_zero _)
      | succ n ih39 =>
        intro x39_5 fmw3_39 amw0_39 amw1_39 H locs ls hmeas hx39_5 hP hD hS hl
        refine lv_iload hx hb dX10_doubt_39 (lv_at hl 3 rfl) ?_
        refine lv_aload hx hb dX10_doubt_41 (lv_at hl 2 rfl) ?_
        refine getF (v := .int (Fr0 3)) hx hb ht hown hK hP iTX7 19 3 rfl rfl (by decide) fl_RX10_194 rfl dX10_doubt_43 ?_
        have zf24001 : (0 : Int) ≤ (Fr0 3).toInt ∧ (Fr0 3).toInt ≤ 60 := hIr0.1 3
        refine lv_icmp_ge (tgt := 92) hx hb dX10_doubt_46 (by decide) (fun c24002 => ?_) (fun c24002 => ?_)
        · have zc24002 := leK rfl rfl c24002
          refine lv_iconst (v := (-1)) hx hb dX10_doubt_92 (by decide) ?_
          exact retDi (x5, fmw3_39, amw0_39, amw1_39) hx hb hr hlk hP hD hS dX10_doubt_93 (trivial) (Nat.le_of_ble_eq_true rfl) (Nat.le_of_ble_eq_true rfl)
        · have zc24002 := nleK rfl rfl c24002
          refine lv_aload_n hx hb dX10_doubt_49 rfl (lv_at hl 0 rfl) ?_
          refine getF (v := .ref (qm 7)) hx hb ht hown hK hP iTX10 0 7 rfl rfl (by decide) fl_RX10_52 rfl dX10_doubt_50 ?_
          refine behR (runVP (As := []) (rest := []) ⟨hx, hb, hml, hown, ht⟩ (sX5_chanceHere l G cs (qm 7) qmw (upv 3 fmw3_39 (upv 2 x5 Fmw)) (vB 1 amw1_39 (vB 0 amw0_39 Amw)) Bmw Dmw (IB_av (k := 1) (IB_av (k := 0) (IB_pv (k := 3) (IB_pv (k := 2) hImw (i32b _)) (i32b _)) (AJ_full _)) (AJ_full _)) ) okV_RX10_165 ⟨by decide, by decide⟩ hK hP [16, 17, 18] rfl 16 rfl rfl hl.1 rfl (Nat.le_of_ble_eq_true rfl) dX10_doubt_53 ⟨by decide, by decide⟩) hP hS hA (fun r24003 H locs hr24003 hP hS => ?_)
          refine lv_iload_n hx hb dX10_doubt_56 rfl (lv_at hl 1 rfl) ?_
          refine lv_icmp_ge (tgt := 63) hx hb dX10_doubt_57 (by decide) (fun c24004 => ?_) (fun c24004 => ?_)
          · have zc24004 := leK rfl rfl c24004
            refine lv_aload_n hx hb dX10_doubt_63 rfl (lv_at hl 0 rfl) ?_
            refine getF (v := .ref (qm 7)) hx hb ht hown hK hP iTX10 0 7 rfl rfl (by decide) fl_RX10_52 rfl dX10_doubt_64 ?_
            refine lv_aload_n hx hb dX10_doubt_67 rfl (lv_at hl 0 rfl) ?_
            refine getF (v := .ref (qm 3)) hx hb ht hown hK hP iTX10 0 3 rfl rfl (by decide) fl_RX10_31 rfl dX10_doubt_68 ?_
            refine getF (v := .ref (qms 0)) hx hb ht hown hK hP iTX8 3 0 rfl rfl (by decide) fl_RX10_98 rfl dX10_doubt_71 ?_
            refine lv_aload hx hb dX10_doubt_74 (lv_at hl 2 rfl) ?_
            refine lv_iload hx hb dX10_doubt_76 (lv_at hl 3 rfl) ?_
            refine behR (runVP (As := [.int x39_5]) (rest := [.ref (qms 0), .ref (qm 7)]) ⟨hx, hb, hml, hown, ht⟩ (sX7_roomAt l G cs (qm 20) qr0 Fr0 Ar0 Br0 Dr0 hIr0 x39_5 ) okV_RX10_195 ⟨by decide, by decide⟩ hK hP [19, 20] rfl 19 rfl rfl hl.1 rfl (Nat.le_of_ble_eq_true rfl) dX10_doubt_78 ⟨by decide, by decide⟩) hP hS hA (fun r24005 H locs hr24005 hP hS => ?_)
            have hr24005 : RAt r24005 x39_5 (Br0 0) (Fr0 3).toInt := hr24005
            have z5r24005 : (0 : Int) ≤ (Fmh 5).toInt ∧ (Fmh 5).toInt ≤ 7 := hImh.1 5
            have zbr24005 := RWr hr24005 (hr2.2 (by omega)) (by omega) (by omega) (by omega) (by omega)
            refine lv_iconst (v := 0) hx hb dX10_doubt_81 (by decide) ?_
            refine behDi (wr := ((uX10 cs adm qm Fm Am Bm Dm) ++ ((uX8 cs (qm 3) qms Fms Ams Bms Dms) ++ ((uX5 cs (qm 6) qmn Fmn Amn Bmn Dmn) ++ (uX7 cs (qm 20) qr0 Fr0 Ar0 Br0 Dr0))))) (runVD (As := [.ref (qms 0), .int r24005, .int 0]) (rest := []) ⟨hx, hb, hml, hown, ht⟩ (sX5_live l G cs (qm 7) qmw (upv 3 fmw3_39 (upv 2 x5 Fmw)) (vB 1 amw1_39 (vB 0 amw0_39 Amw)) Bmw Dmw (IB_av (k := 1) (IB_av (k := 0) (IB_pv (k := 3) (IB_pv (k := 2) hImw (i32b _)) (i32b _)) (AJ_full _)) (AJ_full _)) (qms 0) qmh Fmh Amh Bmh Dmh hImh r24005 0 (by decide)) okV_RX10_175 ⟨by decide, by decide⟩ hK hP hD [16, 17, 18, 5, 6, 7, 8, 9, 10, 11, 12] rfl (by decide) rfl 16 rfl rfl hl.1 rfl (Nat.le_of_ble_eq_true rfl) dX10_doubt_82 ⟨(Nat.le_of_ble_eq_true rfl), (Nat.le_of_ble_eq_true rfl)⟩) hP hD hS hA [16, 17, 18, 5, 6, 7, 8, 9, 10, 11, 12] [0, 1, 2, 3, 4, 13, 14, 15, 19, 20] rfl rfl (by decide) (by decide) (fun r9 u H locs hu hP hD hS => ?_)
            obtain ⟨x24006, g24007, g24008⟩ := u
            obtain ⟨r24009, rfl⟩ : ∃ z, z = r9 := ⟨_, rfl⟩
            have hr24009 := hu
            have hP : va_P G vwCl ((uX10 cs adm qm Fm Am Bm Dm) ++ ((uX8 cs (qm 3) qms Fms Ams Bms Dms) ++ ((uX3 cs (qms 0) qmh Fmh Amh Bmh Dmh) ++ ((uX5 cs (qm 6) qmn Fmn Amn Bmn Dmn) ++ ((uX5 cs (qm 7) qmw (upv 3 x24006 (upv 2 x5 Fmw)) (vB 1 g24008 (vB 0 g24007 Amw)) Bmw Dmw) ++ (uX7 cs (qm 20) qr0 Fr0 Ar0 Br0 Dr0)))))) H := hP.sub [0, 1, 2, 3, 4, 13, 14, 15, 16, 17, 18, 19, 20, 5, 6, 7, 10, 11, 12, 8, 9] rfl
            have hD : va_D A0 ((uX10 cs adm qm Fm Am Bm Dm) ++ ((uX8 cs (qm 3) qms Fms Ams Bms Dms) ++ ((uX3 cs (qms 0) qmh Fmh Amh Bmh Dmh) ++ ((uX5 cs (qm 6) qmn Fmn Amn Bmn Dmn) ++ ((uX5 cs (qm 7) qmw (upv 3 x24006 (upv 2 x5 Fmw)) (vB 1 g24008 (vB 0 g24007 Amw)) Bmw Dmw) ++ (uX7 cs (qm 20) qr0 Fr0 Ar0 Br0 Dr0)))))) := hD.sub [0, 1, 2, 3, 4, 13, 14, 15, 16, 17, 18, 19, 20, 5, 6, 7, 10, 11, 12, 8, 9] (by decide) rfl
            refine lv_pop hx hb dX10_doubt_85 rfl ?_
            obtain ⟨v24010, ev24010⟩ : ∃ z : Int32, z = x39_5 + 1 := ⟨_, rfl⟩
            have tv24010 : v24010.toInt = x39_5.toInt + 1 := by rw [ev24010]; exact addT rfl (by decide) (by omega)
            refine lv_iinc (v := v24010) (lv' := [(5, .int v24010), (0, .ref adm), (2, .int a2), (4, .ref (qm 20))]) hx hb dX10_doubt_86 hl (k := 3) rfl (by rw [ev24010]; rfl) (by decide) rfl (fun ls hl => ?_)
            refine lv_goto (tgt := 39) hx hb dX10_doubt_89 (by decide) ?_
            exact ih39 v24010 x24006 g24007 g24008 H locs ls (by omega) (by omega) hP hD hS (lv_sub hl [1, 2, 3, 0] rfl)
          · have zc24004 := nleK rfl rfl c24004
            refine lv_iload hx hb dX10_doubt_60 (lv_at hl 3 rfl) ?_
            exact retDi (x5, fmw3_39, amw0_39, amw1_39) hx hb hr hlk hP hD hS dX10_doubt_62 (trivial) (Nat.le_of_ble_eq_true rfl) (Nat.le_of_ble_eq_true rfl)
    exact B39 _ 0 x6 g7 (Amw 1) H locs ls (Nat.lt_succ_self _) (by decide) hP hD hS (lv_sub hl [3, 5, 1, 0] rfl)
  · have zc4 := neK rfl (show (0 : Int32).toInt = 0 by decide) c4
    refine lv_iload_n hx hb dX10_doubt_15 rfl (lv_at hl 0 rfl) ?_
    exact retDi ((Fmw 2), (Fmw 3), (Amw 0), (Amw 1)) hx hb hr hlk hP hD hS dX10_doubt_16 (trivial) (Nat.le_of_ble_eq_true rfl) (Nat.le_of_ble_eq_true rfl)

set_option maxRecDepth 100000 in
set_option maxHeartbeats 16000000 in
theorem sX10_doubt_1 (l : Launch) (G : va_G) (cs : Nat → ClassId) (adm : Nat) (qm : Nat → Nat) (Fm : Nat → Int32) (Am : Nat → Nat → Int32) (Bm : Nat → Nat → Int64) (Dm : Int64) (hIm : IX10 Fm Am) (qms : Nat → Nat) (Fms : Nat → Int32) (Ams : Nat → Nat → Int32) (Bms : Nat → Nat → Int64) (Dms : Int64) (hIms : IX8 Fms Ams) (qmh : Nat → Nat) (Fmh : Nat → Int32) (Amh : Nat → Nat → Int32) (Bmh : Nat → Nat → Int64) (Dmh : Int64) (hImh : IX3 Fmh Amh) (qmn : Nat → Nat) (Fmn : Nat → Int32) (Amn : Nat → Nat → Int32) (Bmn : Nat → Nat → Int64) (Dmn : Int64) (hImn : IX5 Fmn Amn) (qmw : Nat → Nat) (Fmw : Nat → Int32) (Amw : Nat → Nat → Int32) (Bmw : Nat → Nat → Int64) (Dmw : Int64) (hImw : IX5 Fmw Amw) (qr1 : Nat → Nat) (Fr1 : Nat → Int32) (Ar1 : Nat → Nat → Int32) (Br1 : Nat → Nat → Int64) (Dr1 : Int64) (hIr1 : IX7 Fr1 Ar1) (a2 : Int32) : ∀ sz : Nat, Met l yX10_doubt (wk yX10_doubt cX10_doubt 6 (some .int)) (rmk 4 0 0) (PreD G (TY cs) [.ref adm, .int 1, .int a2] ((uX10 cs adm qm Fm Am Bm Dm) ++ ((uX8 cs (qm 3) qms Fms Ams Bms Dms) ++ ((uX3 cs (qms 0) qmh Fmh Amh Bmh Dmh) ++ ((uX5 cs (qm 6) qmn Fmn Amn Bmn Dmn) ++ ((uX5 cs (qm 7) qmw Fmw Amw Bmw Dmw) ++ (uX7 cs (qm 21) qr1 Fr1 Ar1 Br1 Dr1)))))) sz) ((QDi G (fun (r : Int32) (u : Int32 × Int32 × (Nat → Int32) × (Nat → Int32)) => True) (fun u : Int32 × Int32 × (Nat → Int32) × (Nat → Int32) => ((uX10 cs adm qm Fm Am Bm Dm) ++ ((uX8 cs (qm 3) qms Fms Ams Bms Dms) ++ ((uX3 cs (qms 0) qmh Fmh Amh Bmh Dmh) ++ ((uX5 cs (qm 6) qmn Fmn Amn Bmn Dmn) ++ ((wX5 cs (qm 7) qmw (upd (upd Fmw 2 u.1) 3 u.2.1) (vA (vA Amw 0 u.2.2.1) 1 u.2.2.2) Bmw Dmw) ++ (uX7 cs (qm 21) qr1 Fr1 Ar1 Br1 Dr1)))))))) (va_A ((uX10 cs adm qm Fm Am Bm Dm) ++ ((uX8 cs (qm 3) qms Fms Ams Bms Dms) ++ ((uX3 cs (qms 0) qmh Fmh Amh Bmh Dmh) ++ ((uX5 cs (qm 6) qmn Fmn Amn Bmn Dmn) ++ ((uX5 cs (qm 7) qmw Fmw Amw Bmw Dmw) ++ (uX7 cs (qm 21) qr1 Fr1 Ar1 Br1 Dr1)))))) sz)) 0 0 (va_A ((uX10 cs adm qm Fm Am Bm Dm) ++ ((uX8 cs (qm 3) qms Fms Ams Bms Dms) ++ ((uX3 cs (qms 0) qmh Fmh Amh Bmh Dmh) ++ ((uX5 cs (qm 6) qmn Fmn Amn Bmn Dmn) ++ ((uX5 cs (qm 7) qmw Fmw Amw Bmw Dmw) ++ (uX7 cs (qm 21) qr1 Fr1 Ar1 Br1 Dr1)))))) sz) := by
  refine mkD (Qc := (QDi G (fun (r : Int32) (u : Int32 × Int32 × (Nat → Int32) × (Nat → Int32)) => True) (fun u : Int32 × Int32 × (Nat → Int32) × (Nat → Int32) => ((uX10 cs adm qm Fm Am Bm Dm) ++ ((uX8 cs (qm 3) qms Fms Ams Bms Dms) ++ ((uX3 cs (qms 0) qmh Fmh Amh Bmh Dmh) ++ ((uX5 cs (qm 6) qmn Fmn Amn Bmn Dmn) ++ ((wX5 cs (qm 7) qmw (upd (upd Fmw 2 u.1) 3 u.2.1) (vA (vA Amw 0 u.2.2.1) 1 u.2.2.2) Bmw Dmw) ++ (uX7 cs (qm 21) qr1 Fr1 Ar1 Br1 Dr1))))))))) (by decide) (by simp [lg_sl, Value.category]) ?_
  intro p e s m args below meth c ls A0 hx hb hml hr hlk hown hmn ht hK hP hD hS hA hl
  have hl : lv_has ls 6 [(0, .ref adm), (1, .int 1), (2, .int a2)] := hl
  refine lv_aload_n hx hb dX10_doubt_0 rfl (lv_at hl 0 rfl) ?_
  refine lv_iload_n hx hb dX10_doubt_1 rfl (lv_at hl 1 rfl) ?_
  refine lv_aload_n hx hb dX10_doubt_2 rfl (lv_at hl 0 rfl) ?_
  refine lv_iload_n hx hb dX10_doubt_3 rfl (lv_at hl 2 rfl) ?_
  refine behR (runVP (As := [.int a2]) (rest := [.int 1, .ref adm]) ⟨hx, hb, hml, hown, ht⟩ (sX10_isPartOfMillion l G cs adm qm Fm Am Bm Dm hIm a2 ) okV_RX10_205 ⟨by decide, by decide⟩ hK hP [0, 1, 2] rfl 0 rfl rfl hl.1 rfl (Nat.le_of_ble_eq_true rfl) dX10_doubt_4 ⟨by decide, by decide⟩) hP hS hA (fun r1 H locs hr1 hP hS => ?_)
  have hr1 : (r1.toInt = 1 ∧ 0 ≤ a2.toInt ∧ a2.toInt ≤ 1000000) ∨ (r1.toInt = 0 ∧ (a2.toInt < 0 ∨ 1000000 < a2.toInt)) := hr1
  refine behR (runVP (As := [.int 1, .int r1]) (rest := []) ⟨hx, hb, hml, hown, ht⟩ (sX10_askRound_1 l G cs adm qm Fm Am Bm Dm hIm qms Fms Ams Bms Dms hIms qmh Fmh Amh Bmh Dmh hImh qr1 Fr1 Ar1 Br1 Dr1 hIr1 r1 (by omega)) okV_RX10_186 ⟨by decide, by decide⟩ hK hP [0, 1, 2, 3, 4, 5, 6, 7, 8, 9, 10, 11, 12, 19, 20] rfl 0 rfl rfl hl.1 rfl (Nat.le_of_ble_eq_true rfl) dX10_doubt_7 ⟨by decide, by decide⟩) hP hS hA (fun r2 H locs hr2 hP hS => ?_)
  have kk3 : (1 : Int32).toInt = 1 := by decide
  have hr2 : ((r2.toInt = 0 ∧ r1.toInt = 1) ∨ r2.toInt = -2 ∨ r2.toInt = -6) ∧ RWk r2 0 (Br1 0) (-1) ((Fmh 5).toInt - 1) (Fr1 3).toInt := hr2
  refine lv_istore_n (lv' := [(3, .int r2), (0, .ref adm), (1, .int 1), (2, .int a2)]) hx hb dX10_doubt_10 rfl hl (by decide) rfl (fun ls hl => ?_)
  refine lv_iload_n hx hb dX10_doubt_11 rfl (lv_at hl 0 rfl) ?_
  refine lv_if_eq (tgt := 17) hx hb dX10_doubt_12 (by decide) (fun c4 => ?_) (fun c4 => ?_)
  · have zc4 := eqK rfl (show (0 : Int32).toInt = 0 by decide) c4
    refine lv_aload_n hx hb dX10_doubt_17 rfl (lv_at hl 1 rfl) ?_
    refine getF (v := .ref (qm 5)) hx hb ht hown hK hP iTX10 0 5 rfl rfl (by decide) fl_RX10_41 rfl dX10_doubt_18 ?_
    refine lv_iload_n hx hb dX10_doubt_21 rfl (lv_at hl 2 rfl) ?_
    refine va_aldq hx hb hK.1 hP 2 5 rfl rfl (show ¬ (_ ∨ _) by decide) dX10_doubt_22 ?_
    refine W.eq (g2 := F0 m 23 ls [.ref (qm 21)]) rfl ?_
    refine lv_astore (lv' := [(4, .ref (qm 21)), (3, .int r2), (0, .ref adm), (1, .int 1), (2, .int a2)]) hx hb dX10_doubt_23 hl (by decide) rfl (fun ls hl => ?_)
    refine lv_aload_n hx hb dX10_doubt_25 rfl (lv_at hl 2 rfl) ?_
    refine getF (v := .ref (qm 7)) hx hb ht hown hK hP iTX10 0 7 rfl rfl (by decide) fl_RX10_52 rfl dX10_doubt_26 ?_
    refine lv_aload_n hx hb dX10_doubt_29 rfl (lv_at hl 2 rfl) ?_
    refine getF (v := .ref (qm 6)) hx hb ht hown hK hP iTX10 0 6 rfl rfl (by decide) fl_RX10_48 rfl dX10_doubt_30 ?_
    refine behDw (wr := ((uX10 cs adm qm Fm Am Bm Dm) ++ ((uX8 cs (qm 3) qms Fms Ams Bms Dms) ++ ((uX3 cs (qms 0) qmh Fmh Amh Bmh Dmh) ++ (uX7 cs (qm 21) qr1 Fr1 Ar1 Br1 Dr1))))) (runVD (As := [.ref (qm 6)]) (rest := []) ⟨hx, hb, hml, hown, ht⟩ (sX5_copyFrom l G cs (qm 7) qmw Fmw Amw Bmw Dmw hImw (qm 6) qmn Fmn Amn Bmn Dmn hImn ) okV_RX10_179 ⟨by decide, by decide⟩ hK hP hD [16, 17, 18, 13, 14, 15] rfl (by decide) rfl 16 rfl rfl hl.1 rfl (Nat.le_of_ble_eq_true rfl) dX10_doubt_33 ⟨(Nat.le_of_ble_eq_true rfl), (Nat.le_of_ble_eq_true rfl)⟩) hP hD hS hA [16, 17, 18, 13, 14, 15] [0, 1, 2, 3, 4, 5, 6, 7, 8, 9, 10, 11, 12, 19, 20] rfl rfl (by decide) (by decide) (fun u H locs hu hP hD hS => ?_)
    obtain ⟨x5, x6, g7⟩ := u
    have hr8 := hu
    have hP : va_P G vwCl ((uX10 cs adm qm Fm Am Bm Dm) ++ ((uX8 cs (qm 3) qms Fms Ams Bms Dms) ++ ((uX3 cs (qms 0) qmh Fmh Amh Bmh Dmh) ++ ((uX5 cs (qm 6) qmn Fmn Amn Bmn Dmn) ++ ((uX5 cs (qm 7) qmw (upv 3 x6 (upv 2 x5 Fmw)) (vB 0 g7 Amw) Bmw Dmw) ++ (uX7 cs (qm 21) qr1 Fr1 Ar1 Br1 Dr1)))))) H := hP.sub [0, 1, 2, 3, 4, 5, 6, 7, 8, 9, 10, 11, 12, 18, 19, 20, 15, 16, 17, 13, 14] rfl
    have hD : va_D A0 ((uX10 cs adm qm Fm Am Bm Dm) ++ ((uX8 cs (qm 3) qms Fms Ams Bms Dms) ++ ((uX3 cs (qms 0) qmh Fmh Amh Bmh Dmh) ++ ((uX5 cs (qm 6) qmn Fmn Amn Bmn Dmn) ++ ((uX5 cs (qm 7) qmw (upv 3 x6 (upv 2 x5 Fmw)) (vB 0 g7 Amw) Bmw Dmw) ++ (uX7 cs (qm 21) qr1 Fr1 Ar1 Br1 Dr1)))))) := hD.sub [0, 1, 2, 3, 4, 5, 6, 7, 8, 9, 10, 11, 12, 18, 19, 20, 15, 16, 17, 13, 14] (by decide) rfl
    refine lv_iconst (v := 0) hx hb dX10_doubt_36 (by decide) ?_
    refine lv_istore (lv' := [(5, .int 0), (4, .ref (qm 21)), (3, .int r2), (0, .ref adm), (1, .int 1), (2, .int a2)]) hx hb dX10_doubt_37 hl (by decide) rfl (fun ls hl => ?_)
    have B39 : ∀ (n : Nat) (x39_5 : Int32) (fmw3_39 : Int32) (amw0_39 : (Nat → Int32)) (amw1_39 : (Nat → Int32)) (H : Heap) (locs : List Loc) (ls : Array Slot), (60 - x39_5.toInt).toNat < n → (0 : Int) ≤ x39_5.toInt ∧ x39_5.toInt ≤ 60 → va_P G vwCl ((uX10 cs adm qm Fm Am Bm Dm) ++ ((uX8 cs (qm 3) qms Fms Ams Bms Dms) ++ ((uX3 cs (qms 0) qmh Fmh Amh Bmh Dmh) ++ ((uX5 cs (qm 6) qmn Fmn Amn Bmn Dmn) ++ ((uX5 cs (qm 7) qmw (upv 3 fmw3_39 (upv 2 x5 Fmw)) (vB 1 amw1_39 (vB 0 amw0_39 Amw)) Bmw Dmw) ++ (uX7 cs (qm 21) qr1 Fr1 Ar1 Br1 Dr1)))))) H → va_D A0 ((uX10 cs adm qm Fm Am Bm Dm) ++ ((uX8 cs (qm 3) qms Fms Ams Bms Dms) ++ ((uX3 cs (qms 0) qmh Fmh Amh Bmh Dmh) ++ ((uX5 cs (qm 6) qmn Fmn Amn Bmn Dmn) ++ ((uX5 cs (qm 7) qmw (upv 3 fmw3_39 (upv 2 x5 Fmw)) (vB 1 amw1_39 (vB 0 amw0_39 Amw)) Bmw Dmw) ++ (uX7 cs (qm 21) qr1 Fr1 Ar1 Br1 Dr1)))))) → va_S A0 s.heap H locs → lv_has ls 6 [(0, .ref adm), (2, .int a2), (4, .ref (qm 21)), (5, .int x39_5)] → W p l e (rmk 4 0 0) s m args below meth c H locs 0 0 (MQ below ((QDi G (fun (r : Int32) (u : Int32 × Int32 × (Nat → Int32) × (Nat → Int32)) => True) (fun u : Int32 × Int32 × (Nat → Int32) × (Nat → Int32) => ((uX10 cs adm qm Fm Am Bm Dm) ++ ((uX8 cs (qm 3) qms Fms Ams Bms Dms) ++ ((uX3 cs (qms 0) qmh Fmh Amh Bmh Dmh) ++ ((uX5 cs (qm 6) qmn Fmn Amn Bmn Dmn) ++ ((wX5 cs (qm 7) qmw (upd (upd Fmw 2 u.1) 3 u.2.1) (vA (vA Amw 0 u.2.2.1) 1 u.2.2.2) Bmw Dmw) ++ (uX7 cs (qm 21) qr1 Fr1 Ar1 Br1 Dr1)))))))) A0) args s 0 0 A0) (F0 m 39 ls []) := by
      intro n
      induction n with
      | zero => intro x39_5 fmw3_39 amw0_39 amw1_39 H locs ls hmeas hx39_5 hP hD hS hl; exact absurd hmeas (Nat.not_lt_zero _)
      | succ n ih39 =>
        intro x39_5 fmw3_39 amw0_39 amw1_39 H locs ls hmeas hx39_5 hP hD hS hl
        refine lv_iload hx hb dX10_doubt_39 (lv_at hl 3 rfl) ?_
        refine lv_aload hx hb dX10_doubt_41 (lv_at hl 2 rfl) ?_
        refine getF (v := .int (Fr1 3)) hx hb ht hown hK hP iTX7 19 3 rfl rfl (by decide) fl_RX10_194 rfl dX10_doubt_43 ?_
        have zf24001 : (0 : Int) ≤ (Fr1 3).toInt ∧ (Fr1 3).toInt ≤ 60 := hIr1.1 3
        refine lv_icmp_ge (tgt := 92) hx hb dX10_doubt_46 (by decide) (fun c24002 => ?_) (fun c24002 => ?_)
        · have zc24002 := leK rfl rfl c24002
          refine lv_iconst (v := (-1)) hx hb dX10_doubt_92 (by decide) ?_
          exact retDi (x5, fmw3_39, amw0_39, amw1_39) hx hb hr hlk hP hD hS dX10_doubt_93 (trivial) (Nat.le_of_ble_eq_true rfl) (Nat.le_of_ble_eq_true rfl)
        · have zc24002 := nleK rfl rfl c24002
          refine lv_aload_n hx hb dX10_doubt_49 rfl (lv_at hl 0 rfl) ?_
          refine getF (v := .ref (qm 7)) hx hb ht hown hK hP iTX10 0 7 rfl rfl (by decide) fl_RX10_52 rfl dX10_doubt_50 ?_
          refine behR (runVP (As := []) (rest := []) ⟨hx, hb, hml, hown, ht⟩ (sX5_chanceHere l G cs (qm 7) qmw (upv 3 fmw3_39 (upv 2 x5 Fmw)) (vB 1 amw1_39 (vB 0 amw0_39 Amw)) Bmw Dmw (IB_av (k := 1) (IB_av (k := 0) (IB_pv (k := 3) (IB_pv (k := 2) hImw (i32b _)) (i32b _)) (AJ_full _)) (AJ_full _)) ) okV_RX10_165 ⟨by decide, by decide⟩ hK hP [16, 17, 18] rfl 16 rfl rfl hl.1 rfl (Nat.le_of_ble_eq_true rfl) dX10_doubt_53 ⟨by decide, by decide⟩) hP hS hA (fun r24003 H locs hr24003 hP hS => ?_)
          refine lv_iload_n hx hb dX10_doubt_56 rfl (lv_at hl 1 rfl) ?_
          refine lv_icmp_ge (tgt := 63) hx hb dX10_doubt_57 (by decide) (fun c24004 => ?_) (fun c24004 => ?_)
          · have zc24004 := leK rfl rfl c24004
            refine lv_aload_n hx hb dX10_doubt_63 rfl (lv_at hl 0 rfl) ?_
            refine getF (v := .ref (qm 7)) hx hb ht hown hK hP iTX10 0 7 rfl rfl (by decide) fl_RX10_52 rfl dX10_doubt_64 ?_
            refine lv_aload_n hx hb dX10_doubt_67 rfl (lv_at hl 0 rfl) ?_
            refine getF (v := .ref (qm 3)) hx hb ht hown hK hP iTX10 0 3 rfl rfl (by decide) fl_RX10_31 rfl dX10_doubt_68 ?_
            refine getF (v := .ref (qms 0)) hx hb ht hown hK hP iTX8 3 0 rfl rfl (by decide) fl_RX10_98 rfl dX10_doubt_71 ?_
            refine lv_aload hx hb dX10_doubt_74 (lv_at hl 2 rfl) ?_
            refine lv_iload hx hb dX10_doubt_76 (lv_at hl 3 rfl) ?_
            refine behR (runVP (As := [.int x39_5]) (rest := [.ref (qms 0), .ref (qm 7)]) ⟨hx, hb, hml, hown, ht⟩ (sX7_roomAt l G cs (qm 21) qr1 Fr1 Ar1 Br1 Dr1 hIr1 x39_5 ) okV_RX10_195 ⟨by decide, by decide⟩ hK hP [19, 20] rfl 19 rfl rfl hl.1 rfl (Nat.le_of_ble_eq_true rfl) dX10_doubt_78 ⟨by decide, by decide⟩) hP hS hA (fun r24005 H locs hr24005 hP hS => ?_)
            have hr24005 : RAt r24005 x39_5 (Br1 0) (Fr1 3).toInt := hr24005
            have z5r24005 : (0 : Int) ≤ (Fmh 5).toInt ∧ (Fmh 5).toInt ≤ 7 := hImh.1 5
            have zbr24005 := RWr hr24005 (hr2.2 (by omega)) (by omega) (by omega) (by omega) (by omega)
            refine lv_iconst (v := 0) hx hb dX10_doubt_81 (by decide) ?_
            refine behDi (wr := ((uX10 cs adm qm Fm Am Bm Dm) ++ ((uX8 cs (qm 3) qms Fms Ams Bms Dms) ++ ((uX5 cs (qm 6) qmn Fmn Amn Bmn Dmn) ++ (uX7 cs (qm 21) qr1 Fr1 Ar1 Br1 Dr1))))) (runVD (As := [.ref (qms 0), .int r24005, .int 0]) (rest := []) ⟨hx, hb, hml, hown, ht⟩ (sX5_live l G cs (qm 7) qmw (upv 3 fmw3_39 (upv 2 x5 Fmw)) (vB 1 amw1_39 (vB 0 amw0_39 Amw)) Bmw Dmw (IB_av (k := 1) (IB_av (k := 0) (IB_pv (k := 3) (IB_pv (k := 2) hImw (i32b _)) (i32b _)) (AJ_full _)) (AJ_full _)) (qms 0) qmh Fmh Amh Bmh Dmh hImh r24005 0 (by decide)) okV_RX10_175 ⟨by decide, by decide⟩ hK hP hD [16, 17, 18, 5, 6, 7, 8, 9, 10, 11, 12] rfl (by decide) rfl 16 rfl rfl hl.1 rfl (Nat.le_of_ble_eq_true rfl) dX10_doubt_82 ⟨(Nat.le_of_ble_eq_true rfl), (Nat.le_of_ble_eq_true rfl)⟩) hP hD hS hA [16, 17, 18, 5, 6, 7, 8, 9, 10, 11, 12] [0, 1, 2, 3, 4, 13, 14, 15, 19, 20] rfl rfl (by decide) (by decide) (fun r9 u H locs hu hP hD hS => ?_)
            obtain ⟨x24006, g24007, g24008⟩ := u
            obtain ⟨r24009, rfl⟩ : ∃ z, z = r9 := ⟨_, rfl⟩
            have hr24009 := hu
            have hP : va_P G vwCl ((uX10 cs adm qm Fm Am Bm Dm) ++ ((uX8 cs (qm 3) qms Fms Ams Bms Dms) ++ ((uX3 cs (qms 0) qmh Fmh Amh Bmh Dmh) ++ ((uX5 cs (qm 6) qmn Fmn Amn Bmn Dmn) ++ ((uX5 cs (qm 7) qmw (upv 3 x24006 (upv 2 x5 Fmw)) (vB 1 g24008 (vB 0 g24007 Amw)) Bmw Dmw) ++ (uX7 cs (qm 21) qr1 Fr1 Ar1 Br1 Dr1)))))) H := hP.sub [0, 1, 2, 3, 4, 13, 14, 15, 16, 17, 18, 19, 20, 5, 6, 7, 10, 11, 12, 8, 9] rfl
            have hD : va_D A0 ((uX10 cs adm qm Fm Am Bm Dm) ++ ((uX8 cs (qm 3) qms Fms Ams Bms Dms) ++ ((uX3 cs (qms 0) qmh Fmh Amh Bmh Dmh) ++ ((uX5 cs (qm 6) qmn Fmn Amn Bmn Dmn) ++ ((uX5 cs (qm 7) qmw (upv 3 x24006 (upv 2 x5 Fmw)) (vB 1 g24008 (vB 0 g24007 Amw)) Bmw Dmw) ++ (uX7 cs (qm 21) qr1 Fr1 Ar1 Br1 Dr1)))))) := hD.sub [0, 1, 2, 3, 4, 13, 14, 15, 16, 17, 18, 19, 20, 5, 6, 7, 10, 11, 12, 8, 9] (by decide) rfl
            refine lv_pop hx hb dX10_doubt_85 rfl ?_
            obtain ⟨v24010, ev24010⟩ : ∃ z : Int32, z = x39_5 + 1 := ⟨_, rfl⟩
            have tv24010 : v24010.toInt = x39_5.toInt + 1 := by rw [ev24010]; exact addT rfl (by decide) (by omega)
            refine lv_iinc (v := v24010) (lv' := [(5, .int v24010), (0, .ref adm), (2, .int a2), (4, .ref (qm 21))]) hx hb dX10_doubt_86 hl (k := 3) rfl (by rw [ev24010]; rfl) (by decide) rfl (fun ls hl => ?_)
            refine lv_goto (tgt := 39) hx hb dX10_doubt_89 (by decide) ?_
            exact ih39 v24010 x24006 g24007 g24008 H locs ls (by omega) (by omega) hP hD hS (lv_sub hl [1, 2, 3, 0] rfl)
          · have zc24004 := nleK rfl rfl c24004
            refine lv_iload hx hb dX10_doubt_60 (lv_at hl 3 rfl) ?_
            exact retDi (x5, fmw3_39, amw0_39, amw1_39) hx hb hr hlk hP hD hS dX10_doubt_62 (trivial) (Nat.le_of_ble_eq_true rfl) (Nat.le_of_ble_eq_true rfl)
    exact B39 _ 0 x6 g7 (Amw 1) H locs ls (Nat.lt_succ_self _) (by decide) hP hD hS (lv_sub hl [3, 5, 1, 0] rfl)
  · have zc4 := neK rfl (show (0 : Int32).toInt = 0 by decide) c4
    refine lv_iload_n hx hb dX10_doubt_15 rfl (lv_at hl 0 rfl) ?_
    exact retDi ((Fmw 2), (Fmw 3), (Amw 0), (Amw 1)) hx hb hr hlk hP hD hS dX10_doubt_16 (trivial) (Nat.le_of_ble_eq_true rfl) (Nat.le_of_ble_eq_true rfl)

set_option maxRecDepth 100000 in
set_option maxHeartbeats 16000000 in
theorem sX10_doubt_2 (l : Launch) (G : va_G) (cs : Nat → ClassId) (adm : Nat) (qm : Nat → Nat) (Fm : Nat → Int32) (Am : Nat → Nat → Int32) (Bm : Nat → Nat → Int64) (Dm : Int64) (hIm : IX10 Fm Am) (qms : Nat → Nat) (Fms : Nat → Int32) (Ams : Nat → Nat → Int32) (Bms : Nat → Nat → Int64) (Dms : Int64) (hIms : IX8 Fms Ams) (qmh : Nat → Nat) (Fmh : Nat → Int32) (Amh : Nat → Nat → Int32) (Bmh : Nat → Nat → Int64) (Dmh : Int64) (hImh : IX3 Fmh Amh) (qmn : Nat → Nat) (Fmn : Nat → Int32) (Amn : Nat → Nat → Int32) (Bmn : Nat → Nat → Int64) (Dmn : Int64) (hImn : IX5 Fmn Amn) (qmw : Nat → Nat) (Fmw : Nat → Int32) (Amw : Nat → Nat → Int32) (Bmw : Nat → Nat → Int64) (Dmw : Int64) (hImw : IX5 Fmw Amw) (qr2 : Nat → Nat) (Fr2 : Nat → Int32) (Ar2 : Nat → Nat → Int32) (Br2 : Nat → Nat → Int64) (Dr2 : Int64) (hIr2 : IX7 Fr2 Ar2) (a2 : Int32) : ∀ sz : Nat, Met l yX10_doubt (wk yX10_doubt cX10_doubt 6 (some .int)) (rmk 4 0 0) (PreD G (TY cs) [.ref adm, .int 2, .int a2] ((uX10 cs adm qm Fm Am Bm Dm) ++ ((uX8 cs (qm 3) qms Fms Ams Bms Dms) ++ ((uX3 cs (qms 0) qmh Fmh Amh Bmh Dmh) ++ ((uX5 cs (qm 6) qmn Fmn Amn Bmn Dmn) ++ ((uX5 cs (qm 7) qmw Fmw Amw Bmw Dmw) ++ (uX7 cs (qm 22) qr2 Fr2 Ar2 Br2 Dr2)))))) sz) ((QDi G (fun (r : Int32) (u : Int32 × Int32 × (Nat → Int32) × (Nat → Int32)) => True) (fun u : Int32 × Int32 × (Nat → Int32) × (Nat → Int32) => ((uX10 cs adm qm Fm Am Bm Dm) ++ ((uX8 cs (qm 3) qms Fms Ams Bms Dms) ++ ((uX3 cs (qms 0) qmh Fmh Amh Bmh Dmh) ++ ((uX5 cs (qm 6) qmn Fmn Amn Bmn Dmn) ++ ((wX5 cs (qm 7) qmw (upd (upd Fmw 2 u.1) 3 u.2.1) (vA (vA Amw 0 u.2.2.1) 1 u.2.2.2) Bmw Dmw) ++ (uX7 cs (qm 22) qr2 Fr2 Ar2 Br2 Dr2)))))))) (va_A ((uX10 cs adm qm Fm Am Bm Dm) ++ ((uX8 cs (qm 3) qms Fms Ams Bms Dms) ++ ((uX3 cs (qms 0) qmh Fmh Amh Bmh Dmh) ++ ((uX5 cs (qm 6) qmn Fmn Amn Bmn Dmn) ++ ((uX5 cs (qm 7) qmw Fmw Amw Bmw Dmw) ++ (uX7 cs (qm 22) qr2 Fr2 Ar2 Br2 Dr2)))))) sz)) 0 0 (va_A ((uX10 cs adm qm Fm Am Bm Dm) ++ ((uX8 cs (qm 3) qms Fms Ams Bms Dms) ++ ((uX3 cs (qms 0) qmh Fmh Amh Bmh Dmh) ++ ((uX5 cs (qm 6) qmn Fmn Amn Bmn Dmn) ++ ((uX5 cs (qm 7) qmw Fmw Amw Bmw Dmw) ++ (uX7 cs (qm 22) qr2 Fr2 Ar2 Br2 Dr2)))))) sz) := by
  refine mkD (Qc := (QDi G (fun (r : Int32) (u : Int32 × Int32 × (Nat → Int32) × (Nat → Int32)) => True) (fun u : Int32 × Int32 × (Nat → Int32) × (Nat → Int32) => ((uX10 cs adm qm Fm Am Bm Dm) ++ ((uX8 cs (qm 3) qms Fms Ams Bms Dms) ++ ((uX3 cs (qms 0) qmh Fmh Amh Bmh Dmh) ++ ((uX5 cs (qm 6) qmn Fmn Amn Bmn Dmn) ++ ((wX5 cs (qm 7) qmw (upd (upd Fmw 2 u.1) 3 u.2.1) (vA (vA Amw 0 u.2.2.1) 1 u.2.2.2) Bmw Dmw) ++ (uX7 cs (qm 22) qr2 Fr2 Ar2 Br2 Dr2))))))))) (by decide) (by simp [lg_sl, Value.category]) ?_
  intro p e s m args below meth c ls A0 hx hb hml hr hlk hown hmn ht hK hP hD hS hA hl
  have hl : lv_has ls 6 [(0, .ref adm), (1, .int 2), (2, .int a2)] := hl
  refine lv_aload_n hx hb dX10_doubt_0 rfl (lv_at hl 0 rfl) ?_
  refine lv_iload_n hx hb dX10_doubt_1 rfl (lv_at hl 1 rfl) ?_
  refine lv_aload_n hx hb dX10_doubt_2 rfl (lv_at hl 0 rfl) ?_
  refine lv_iload_n hx hb dX10_doubt_3 rfl (lv_at hl 2 rfl) ?_
  refine behR (runVP (As := [.int a2]) (rest := [.int 2, .ref adm]) ⟨hx, hb, hml, hown, ht⟩ (sX10_isPartOfMillion l G cs adm qm Fm Am Bm Dm hIm a2 ) okV_RX10_205 ⟨by decide, by decide⟩ hK hP [0, 1, 2] rfl 0 rfl rfl hl.1 rfl (Nat.le_of_ble_eq_true rfl) dX10_doubt_4 ⟨by decide, by decide⟩) hP hS hA (fun r1 H locs hr1 hP hS => ?_)
  have hr1 : (r1.toInt = 1 ∧ 0 ≤ a2.toInt ∧ a2.toInt ≤ 1000000) ∨ (r1.toInt = 0 ∧ (a2.toInt < 0 ∨ 1000000 < a2.toInt)) := hr1
  refine behR (runVP (As := [.int 2, .int r1]) (rest := []) ⟨hx, hb, hml, hown, ht⟩ (sX10_askRound_2 l G cs adm qm Fm Am Bm Dm hIm qms Fms Ams Bms Dms hIms qmh Fmh Amh Bmh Dmh hImh qr2 Fr2 Ar2 Br2 Dr2 hIr2 r1 (by omega)) okV_RX10_186 ⟨by decide, by decide⟩ hK hP [0, 1, 2, 3, 4, 5, 6, 7, 8, 9, 10, 11, 12, 19, 20] rfl 0 rfl rfl hl.1 rfl (Nat.le_of_ble_eq_true rfl) dX10_doubt_7 ⟨by decide, by decide⟩) hP hS hA (fun r2 H locs hr2 hP hS => ?_)
  have kk3 : (2 : Int32).toInt = 2 := by decide
  have hr2 : ((r2.toInt = 0 ∧ r1.toInt = 1) ∨ r2.toInt = -2 ∨ r2.toInt = -6) ∧ RWk r2 0 (Br2 0) (-1) ((Fmh 5).toInt - 1) (Fr2 3).toInt := hr2
  refine lv_istore_n (lv' := [(3, .int r2), (0, .ref adm), (1, .int 2), (2, .int a2)]) hx hb dX10_doubt_10 rfl hl (by decide) rfl (fun ls hl => ?_)
  refine lv_iload_n hx hb dX10_doubt_11 rfl (lv_at hl 0 rfl) ?_
  refine lv_if_eq (tgt := 17) hx hb dX10_doubt_12 (by decide) (fun c4 => ?_) (fun c4 => ?_)
  · have zc4 := eqK rfl (show (0 : Int32).toInt = 0 by decide) c4
    refine lv_aload_n hx hb dX10_doubt_17 rfl (lv_at hl 1 rfl) ?_
    refine getF (v := .ref (qm 5)) hx hb ht hown hK hP iTX10 0 5 rfl rfl (by decide) fl_RX10_41 rfl dX10_doubt_18 ?_
    refine lv_iload_n hx hb dX10_doubt_21 rfl (lv_at hl 2 rfl) ?_
    refine va_aldq hx hb hK.1 hP 2 5 rfl rfl (show ¬ (_ ∨ _) by decide) dX10_doubt_22 ?_
    refine W.eq (g2 := F0 m 23 ls [.ref (qm 22)]) rfl ?_
    refine lv_astore (lv' := [(4, .ref (qm 22)), (3, .int r2), (0, .ref adm), (1, .int 2), (2, .int a2)]) hx hb dX10_doubt_23 hl (by decide) rfl (fun ls hl => ?_)
    refine lv_aload_n hx hb dX10_doubt_25 rfl (lv_at hl 2 rfl) ?_
    refine getF (v := .ref (qm 7)) hx hb ht hown hK hP iTX10 0 7 rfl rfl (by decide) fl_RX10_52 rfl dX10_doubt_26 ?_
    refine lv_aload_n hx hb dX10_doubt_29 rfl (lv_at hl 2 rfl) ?_
    refine getF (v := .ref (qm 6)) hx hb ht hown hK hP iTX10 0 6 rfl rfl (by decide) fl_RX10_48 rfl dX10_doubt_30 ?_
    refine behDw (wr := ((uX10 cs adm qm Fm Am Bm Dm) ++ ((uX8 cs (qm 3) qms Fms Ams Bms Dms) ++ ((uX3 cs (qms 0) qmh Fmh Amh Bmh Dmh) ++ (uX7 cs (qm 22) qr2 Fr2 Ar2 Br2 Dr2))))) (runVD (As := [.ref (qm 6)]) (rest := []) ⟨hx, hb, hml, hown, ht⟩ (sX5_copyFrom l G cs (qm 7) qmw Fmw Amw Bmw Dmw hImw (qm 6) qmn Fmn Amn Bmn Dmn hImn ) okV_RX10_179 ⟨by decide, by decide⟩ hK hP hD [16, 17, 18, 13, 14, 15] rfl (by decide) rfl 16 rfl rfl hl.1 rfl (Nat.le_of_ble_eq_true rfl) dX10_doubt_33 ⟨(Nat.le_of_ble_eq_true rfl), (Nat.le_of_ble_eq_true rfl)⟩) hP hD hS hA [16, 17, 18, 13, 14, 15] [0, 1, 2, 3, 4, 5, 6, 7, 8, 9, 10, 11, 12, 19, 20] rfl rfl (by decide) (by decide) (fun u H locs hu hP hD hS => ?_)
    obtain ⟨x5, x6, g7⟩ := u
    have hr8 := hu
    have hP : va_P G vwCl ((uX10 cs adm qm Fm Am Bm Dm) ++ ((uX8 cs (qm 3) qms Fms Ams Bms Dms) ++ ((uX3 cs (qms 0) qmh Fmh Amh Bmh Dmh) ++ ((uX5 cs (qm 6) qmn Fmn Amn Bmn Dmn) ++ ((uX5 cs (qm 7) qmw (upv 3 x6 (upv 2 x5 Fmw)) (vB 0 g7 Amw) Bmw Dmw) ++ (uX7 cs (qm 22) qr2 Fr2 Ar2 Br2 Dr2)))))) H := hP.sub [0, 1, 2, 3, 4, 5, 6, 7, 8, 9, 10, 11, 12, 18, 19, 20, 15, 16, 17, 13, 14] rfl
    have hD : va_D A0 ((uX10 cs adm qm Fm Am Bm Dm) ++ ((uX8 cs (qm 3) qms Fms Ams Bms Dms) ++ ((uX3 cs (qms 0) qmh Fmh Amh Bmh Dmh) ++ ((uX5 cs (qm 6) qmn Fmn Amn Bmn Dmn) ++ ((uX5 cs (qm 7) qmw (upv 3 x6 (upv 2 x5 Fmw)) (vB 0 g7 Amw) Bmw Dmw) ++ (uX7 cs (qm 22) qr2 Fr2 Ar2 Br2 Dr2)))))) := hD.sub [0, 1, 2, 3, 4, 5, 6, 7, 8, 9, 10, 11, 12, 18, 19, 20, 15, 16, 17, 13, 14] (by decide) rfl
    refine lv_iconst (v := 0) hx hb dX10_doubt_36 (by decide) ?_
    refine lv_istore (lv' := [(5, .int 0), (4, .ref (qm 22)), (3, .int r2), (0, .ref adm), (1, .int 2), (2, .int a2)]) hx hb dX10_doubt_37 hl (by decide) rfl (fun ls hl => ?_)
    have B39 : ∀ (n : Nat) (x39_5 : Int32) (fmw3_39 : Int32) (amw0_39 : (Nat → Int32)) (amw1_39 : (Nat → Int32)) (H : Heap) (locs : List Loc) (ls : Array Slot), (60 - x39_5.toInt).toNat < n → (0 : Int) ≤ x39_5.toInt ∧ x39_5.toInt ≤ 60 → va_P G vwCl ((uX10 cs adm qm Fm Am Bm Dm) ++ ((uX8 cs (qm 3) qms Fms Ams Bms Dms) ++ ((uX3 cs (qms 0) qmh Fmh Amh Bmh Dmh) ++ ((uX5 cs (qm 6) qmn Fmn Amn Bmn Dmn) ++ ((uX5 cs (qm 7) qmw (upv 3 fmw3_39 (upv 2 x5 Fmw)) (vB 1 amw1_39 (vB 0 amw0_39 Amw)) Bmw Dmw) ++ (uX7 cs (qm 22) qr2 Fr2 Ar2 Br2 Dr2)))))) H → va_D A0 ((uX10 cs adm qm Fm Am Bm Dm) ++ ((uX8 cs (qm 3) qms Fms Ams Bms Dms) ++ ((uX3 cs (qms 0) qmh Fmh Amh Bmh Dmh) ++ ((uX5 cs (qm 6) qmn Fmn Amn Bmn Dmn) ++ ((uX5 cs (qm 7) qmw (upv 3 fmw3_39 (upv 2 x5 Fmw)) (vB 1 amw1_39 (vB 0 amw0_39 Amw)) Bmw Dmw) ++ (uX7 cs (qm 22) qr2 Fr2 Ar2 Br2 Dr2)))))) → va_S A0 s.heap H locs → lv_has ls 6 [(0, .ref adm), (2, .int a2), (4, .ref (qm 22)), (5, .int x39_5)] → W p l e (rmk 4 0 0) s m args below meth c H locs 0 0 (MQ below ((QDi G (fun (r : Int32) (u : Int32 × Int32 × (Nat → Int32) × (Nat → Int32)) => True) (fun u : Int32 × Int32 × (Nat → Int32) × (Nat → Int32) => ((uX10 cs adm qm Fm Am Bm Dm) ++ ((uX8 cs (qm 3) qms Fms Ams Bms Dms) ++ ((uX3 cs (qms 0) qmh Fmh Amh Bmh Dmh) ++ ((uX5 cs (qm 6) qmn Fmn Amn Bmn Dmn) ++ ((wX5 cs (qm 7) qmw (upd (upd Fmw 2 u.1) 3 u.2.1) (vA (vA Amw 0 u.2.2.1) 1 u.2.2.2) Bmw Dmw) ++ (uX7 cs (qm 22) qr2 Fr2 Ar2 Br2 Dr2)))))))) A0) args s 0 0 A0) (F0 m 39 ls []) := by
      intro n
      induction n with
      | zero => intro x39_5 fmw3_39 amw0_39 amw1_39 H locs ls hmeas hx39_5 hP hD hS hl; exact absurd hmeas (Nat.not_lt_zero _)
      | succ n ih39 =>
        intro x39_5 fmw3_39 amw0_39 amw1_39 H locs ls hmeas hx39_5 hP hD hS hl
        refine lv_iload hx hb dX10_doubt_39 (lv_at hl 3 rfl) ?_
        refine lv_aload hx hb dX10_doubt_41 (lv_at hl 2 rfl) ?_
        refine getF (v := .int (Fr2 3)) hx hb ht hown hK hP iTX7 19 3 rfl rfl (by decide) fl_RX10_194 rfl dX10_doubt_43 ?_
        have zf24001 : (0 : Int) ≤ (Fr2 3).toInt ∧ (Fr2 3).toInt ≤ 60 := hIr2.1 3
        refine lv_icmp_ge (tgt := 92) hx hb dX10_doubt_46 (by decide) (fun c24002 => ?_) (fun c24002 => ?_)
        · have zc24002 := leK rfl rfl c24002
          refine lv_iconst (v := (-1)) hx hb dX10_doubt_92 (by decide) ?_
          exact retDi (x5, fmw3_39, amw0_39, amw1_39) hx hb hr hlk hP hD hS dX10_doubt_93 (trivial) (Nat.le_of_ble_eq_true rfl) (Nat.le_of_ble_eq_true rfl)
        · have zc24002 := nleK rfl rfl c24002
          refine lv_aload_n hx hb dX10_doubt_49 rfl (lv_at hl 0 rfl) ?_
          refine getF (v := .ref (qm 7)) hx hb ht hown hK hP iTX10 0 7 rfl rfl (by decide) fl_RX10_52 rfl dX10_doubt_50 ?_
          refine behR (runVP (As := []) (rest := []) ⟨hx, hb, hml, hown, ht⟩ (sX5_chanceHere l G cs (qm 7) qmw (upv 3 fmw3_39 (upv 2 x5 Fmw)) (vB 1 amw1_39 (vB 0 amw0_39 Amw)) Bmw Dmw (IB_av (k := 1) (IB_av (k := 0) (IB_pv (k := 3) (IB_pv (k := 2) hImw (i32b _)) (i32b _)) (AJ_full _)) (AJ_full _)) ) okV_RX10_165 ⟨by decide, by decide⟩ hK hP [16, 17, 18] rfl 16 rfl rfl hl.1 rfl (Nat.le_of_ble_eq_true rfl) dX10_doubt_53 ⟨by decide, by decide⟩) hP hS hA (fun r24003 H locs hr24003 hP hS => ?_)
          refine lv_iload_n hx hb dX10_doubt_56 rfl (lv_at hl 1 rfl) ?_
          refine lv_icmp_ge (tgt := 63) hx hb dX10_doubt_57 (by decide) (fun c24004 => ?_) (fun c24004 => ?_)
          · have zc24004 := leK rfl rfl c24004
            refine lv_aload_n hx hb dX10_doubt_63 rfl (lv_at hl 0 rfl) ?_
            refine getF (v := .ref (qm 7)) hx hb ht hown hK hP iTX10 0 7 rfl rfl (by decide) fl_RX10_52 rfl dX10_doubt_64 ?_
            refine lv_aload_n hx hb dX10_doubt_67 rfl (lv_at hl 0 rfl) ?_
            refine getF (v := .ref (qm 3)) hx hb ht hown hK hP iTX10 0 3 rfl rfl (by decide) fl_RX10_31 rfl dX10_doubt_68 ?_
            refine getF (v := .ref (qms 0)) hx hb ht hown hK hP iTX8 3 0 rfl rfl (by decide) fl_RX10_98 rfl dX10_doubt_71 ?_
            refine lv_aload hx hb dX10_doubt_74 (lv_at hl 2 rfl) ?_
            refine lv_iload hx hb dX10_doubt_76 (lv_at hl 3 rfl) ?_
            refine behR (runVP (As := [.int x39_5]) (rest := [.ref (qms 0), .ref (qm 7)]) ⟨hx, hb, hml, hown, ht⟩ (sX7_roomAt l G cs (qm 22) qr2 Fr2 Ar2 Br2 Dr2 hIr2 x39_5 ) okV_RX10_195 ⟨by decide, by decide⟩ hK hP [19, 20] rfl 19 rfl rfl hl.1 rfl (Nat.le_of_ble_eq_true rfl) dX10_doubt_78 ⟨by decide, by decide⟩) hP hS hA (fun r24005 H locs hr24005 hP hS => ?_)
            have hr24005 : RAt r24005 x39_5 (Br2 0) (Fr2 3).toInt := hr24005
            have z5r24005 : (0 : Int) ≤ (Fmh 5).toInt ∧ (Fmh 5).toInt ≤ 7 := hImh.1 5
            have zbr24005 := RWr hr24005 (hr2.2 (by omega)) (by omega) (by omega) (by omega) (by omega)
            refine lv_iconst (v := 0) hx hb dX10_doubt_81 (by decide) ?_
            refine behDi (wr := ((uX10 cs adm qm Fm Am Bm Dm) ++ ((uX8 cs (qm 3) qms Fms Ams Bms Dms) ++ ((uX5 cs (qm 6) qmn Fmn Amn Bmn Dmn) ++ (uX7 cs (qm 22) qr2 Fr2 Ar2 Br2 Dr2))))) (runVD (As := [.ref (qms 0), .int r24005, .int 0]) (rest := []) ⟨hx, hb, hml, hown, ht⟩ (sX5_live l G cs (qm 7) qmw (upv 3 fmw3_39 (upv 2 x5 Fmw)) (vB 1 amw1_39 (vB 0 amw0_39 Amw)) Bmw Dmw (IB_av (k := 1) (IB_av (k := 0) (IB_pv (k := 3) (IB_pv (k := 2) hImw (i32b _)) (i32b _)) (AJ_full _)) (AJ_full _)) (qms 0) qmh Fmh Amh Bmh Dmh hImh r24005 0 (by decide)) okV_RX10_175 ⟨by decide, by decide⟩ hK hP hD [16, 17, 18, 5, 6, 7, 8, 9, 10, 11, 12] rfl (by decide) rfl 16 rfl rfl hl.1 rfl (Nat.le_of_ble_eq_true rfl) dX10_doubt_82 ⟨(Nat.le_of_ble_eq_true rfl), (Nat.le_of_ble_eq_true rfl)⟩) hP hD hS hA [16, 17, 18, 5, 6, 7, 8, 9, 10, 11, 12] [0, 1, 2, 3, 4, 13, 14, 15, 19, 20] rfl rfl (by decide) (by decide) (fun r9 u H locs hu hP hD hS => ?_)
            obtain ⟨x24006, g24007, g24008⟩ := u
            obtain ⟨r24009, rfl⟩ : ∃ z, z = r9 := ⟨_, rfl⟩
            have hr24009 := hu
            have hP : va_P G vwCl ((uX10 cs adm qm Fm Am Bm Dm) ++ ((uX8 cs (qm 3) qms Fms Ams Bms Dms) ++ ((uX3 cs (qms 0) qmh Fmh Amh Bmh Dmh) ++ ((uX5 cs (qm 6) qmn Fmn Amn Bmn Dmn) ++ ((uX5 cs (qm 7) qmw (upv 3 x24006 (upv 2 x5 Fmw)) (vB 1 g24008 (vB 0 g24007 Amw)) Bmw Dmw) ++ (uX7 cs (qm 22) qr2 Fr2 Ar2 Br2 Dr2)))))) H := hP.sub [0, 1, 2, 3, 4, 13, 14, 15, 16, 17, 18, 19, 20, 5, 6, 7, 10, 11, 12, 8, 9] rfl
            have hD : va_D A0 ((uX10 cs adm qm Fm Am Bm Dm) ++ ((uX8 cs (qm 3) qms Fms Ams Bms Dms) ++ ((uX3 cs (qms 0) qmh Fmh Amh Bmh Dmh) ++ ((uX5 cs (qm 6) qmn Fmn Amn Bmn Dmn) ++ ((uX5 cs (qm 7) qmw (upv 3 x24006 (upv 2 x5 Fmw)) (vB 1 g24008 (vB 0 g24007 Amw)) Bmw Dmw) ++ (uX7 cs (qm 22) qr2 Fr2 Ar2 Br2 Dr2)))))) := hD.sub [0, 1, 2, 3, 4, 13, 14, 15, 16, 17, 18, 19, 20, 5, 6, 7, 10, 11, 12, 8, 9] (by decide) rfl
            refine lv_pop hx hb dX10_doubt_85 rfl ?_
            obtain ⟨v24010, ev24010⟩ : ∃ z : Int32, z = x39_5 + 1 := ⟨_, rfl⟩
            have tv24010 : v24010.toInt = x39_5.toInt + 1 := by rw [ev24010]; exact addT rfl (by decide) (by omega)
            refine lv_iinc (v := v24010) (lv' := [(5, .int v24010), (0, .ref adm), (2, .int a2), (4, .ref (qm 22))]) hx hb dX10_doubt_86 hl (k := 3) rfl (by rw [ev24010]; rfl) (by decide) rfl (fun ls hl => ?_)
            refine lv_goto (tgt := 39) hx hb dX10_doubt_89 (by decide) ?_
            exact ih39 v24010 x24006 g24007 g24008 H locs ls (by omega) (by omega) hP hD hS (lv_sub hl [1, 2, 3, 0] rfl)
          · have zc24004 := nleK rfl rfl c24004
            refine lv_iload hx hb dX10_doubt_60 (lv_at hl 3 rfl) ?_
            exact retDi (x5, fmw3_39, amw0_39, amw1_39) hx hb hr hlk hP hD hS dX10_doubt_62 (trivial) (Nat.le_of_ble_eq_true rfl) (Nat.le_of_ble_eq_true rfl)
    exact B39 _ 0 x6 g7 (Amw 1) H locs ls (Nat.lt_succ_self _) (by decide) hP hD hS (lv_sub hl [3, 5, 1, 0] rfl)
  · have zc4 := neK rfl (show (0 : Int32).toInt = 0 by decide) c4
    refine lv_iload_n hx hb dX10_doubt_15 rfl (lv_at hl 0 rfl) ?_
    exact retDi ((Fmw 2), (Fmw 3), (Amw 0), (Amw 1)) hx hb hr hlk hP hD hS dX10_doubt_16 (trivial) (Nat.le_of_ble_eq_true rfl) (Nat.le_of_ble_eq_true rfl)

set_option maxRecDepth 100000 in
set_option maxHeartbeats 16000000 in
theorem sX10_doubt_3 (l : Launch) (G : va_G) (cs : Nat → ClassId) (adm : Nat) (qm : Nat → Nat) (Fm : Nat → Int32) (Am : Nat → Nat → Int32) (Bm : Nat → Nat → Int64) (Dm : Int64) (hIm : IX10 Fm Am) (qms : Nat → Nat) (Fms : Nat → Int32) (Ams : Nat → Nat → Int32) (Bms : Nat → Nat → Int64) (Dms : Int64) (hIms : IX8 Fms Ams) (qmh : Nat → Nat) (Fmh : Nat → Int32) (Amh : Nat → Nat → Int32) (Bmh : Nat → Nat → Int64) (Dmh : Int64) (hImh : IX3 Fmh Amh) (qmn : Nat → Nat) (Fmn : Nat → Int32) (Amn : Nat → Nat → Int32) (Bmn : Nat → Nat → Int64) (Dmn : Int64) (hImn : IX5 Fmn Amn) (qmw : Nat → Nat) (Fmw : Nat → Int32) (Amw : Nat → Nat → Int32) (Bmw : Nat → Nat → Int64) (Dmw : Int64) (hImw : IX5 Fmw Amw) (qr3 : Nat → Nat) (Fr3 : Nat → Int32) (Ar3 : Nat → Nat → Int32) (Br3 : Nat → Nat → Int64) (Dr3 : Int64) (hIr3 : IX7 Fr3 Ar3) (a2 : Int32) : ∀ sz : Nat, Met l yX10_doubt (wk yX10_doubt cX10_doubt 6 (some .int)) (rmk 4 0 0) (PreD G (TY cs) [.ref adm, .int 3, .int a2] ((uX10 cs adm qm Fm Am Bm Dm) ++ ((uX8 cs (qm 3) qms Fms Ams Bms Dms) ++ ((uX3 cs (qms 0) qmh Fmh Amh Bmh Dmh) ++ ((uX5 cs (qm 6) qmn Fmn Amn Bmn Dmn) ++ ((uX5 cs (qm 7) qmw Fmw Amw Bmw Dmw) ++ (uX7 cs (qm 23) qr3 Fr3 Ar3 Br3 Dr3)))))) sz) ((QDi G (fun (r : Int32) (u : Int32 × Int32 × (Nat → Int32) × (Nat → Int32)) => True) (fun u : Int32 × Int32 × (Nat → Int32) × (Nat → Int32) => ((uX10 cs adm qm Fm Am Bm Dm) ++ ((uX8 cs (qm 3) qms Fms Ams Bms Dms) ++ ((uX3 cs (qms 0) qmh Fmh Amh Bmh Dmh) ++ ((uX5 cs (qm 6) qmn Fmn Amn Bmn Dmn) ++ ((wX5 cs (qm 7) qmw (upd (upd Fmw 2 u.1) 3 u.2.1) (vA (vA Amw 0 u.2.2.1) 1 u.2.2.2) Bmw Dmw) ++ (uX7 cs (qm 23) qr3 Fr3 Ar3 Br3 Dr3)))))))) (va_A ((uX10 cs adm qm Fm Am Bm Dm) ++ ((uX8 cs (qm 3) qms Fms Ams Bms Dms) ++ ((uX3 cs (qms 0) qmh Fmh Amh Bmh Dmh) ++ ((uX5 cs (qm 6) qmn Fmn Amn Bmn Dmn) ++ ((uX5 cs (qm 7) qmw Fmw Amw Bmw Dmw) ++ (uX7 cs (qm 23) qr3 Fr3 Ar3 Br3 Dr3)))))) sz)) 0 0 (va_A ((uX10 cs adm qm Fm Am Bm Dm) ++ ((uX8 cs (qm 3) qms Fms Ams Bms Dms) ++ ((uX3 cs (qms 0) qmh Fmh Amh Bmh Dmh) ++ ((uX5 cs (qm 6) qmn Fmn Amn Bmn Dmn) ++ ((uX5 cs (qm 7) qmw Fmw Amw Bmw Dmw) ++ (uX7 cs (qm 23) qr3 Fr3 Ar3 Br3 Dr3)))))) sz) := by
  refine mkD (Qc := (QDi G (fun (r : Int32) (u : Int32 × Int32 × (Nat → Int32) × (Nat → Int32)) => True) (fun u : Int32 × Int32 × (Nat → Int32) × (Nat → Int32) => ((uX10 cs adm qm Fm Am Bm Dm) ++ ((uX8 cs (qm 3) qms Fms Ams Bms Dms) ++ ((uX3 cs (qms 0) qmh Fmh Amh Bmh Dmh) ++ ((uX5 cs (qm 6) qmn Fmn Amn Bmn Dmn) ++ ((wX5 cs (qm 7) qmw (upd (upd Fmw 2 u.1) 3 u.2.1) (vA (vA Amw 0 u.2.2.1) 1 u.2.2.2) Bmw Dmw) ++ (uX7 cs (qm 23) qr3 Fr3 Ar3 Br3 Dr3))))))))) (by decide) (by simp [lg_sl, Value.category]) ?_
  intro p e s m args below meth c ls A0 hx hb hml hr hlk hown hmn ht hK hP hD hS hA hl
  have hl : lv_has ls 6 [(0, .ref adm), (1, .int 3), (2, .int a2)] := hl
  refine lv_aload_n hx hb dX10_doubt_0 rfl (lv_at hl 0 rfl) ?_
  refine lv_iload_n hx hb dX10_doubt_1 rfl (lv_at hl 1 rfl) ?_
  refine lv_aload_n hx hb dX10_doubt_2 rfl (lv_at hl 0 rfl) ?_
  refine lv_iload_n hx hb dX10_doubt_3 rfl (lv_at hl 2 rfl) ?_
  refine behR (runVP (As := [.int a2]) (rest := [.int 3, .ref adm]) ⟨hx, hb, hml, hown, ht⟩ (sX10_isPartOfMillion l G cs adm qm Fm Am Bm Dm hIm a2 ) okV_RX10_205 ⟨by decide, by decide⟩ hK hP [0, 1, 2] rfl 0 rfl rfl hl.1 rfl (Nat.le_of_ble_eq_true rfl) dX10_doubt_4 ⟨by decide, by decide⟩) hP hS hA (fun r1 H locs hr1 hP hS => ?_)
  have hr1 : (r1.toInt = 1 ∧ 0 ≤ a2.toInt ∧ a2.toInt ≤ 1000000) ∨ (r1.toInt = 0 ∧ (a2.toInt < 0 ∨ 1000000 < a2.toInt)) := hr1
  refine behR (runVP (As := [.int 3, .int r1]) (rest := []) ⟨hx, hb, hml, hown, ht⟩ (sX10_askRound_3 l G cs adm qm Fm Am Bm Dm hIm qms Fms Ams Bms Dms hIms qmh Fmh Amh Bmh Dmh hImh qr3 Fr3 Ar3 Br3 Dr3 hIr3 r1 (by omega)) okV_RX10_186 ⟨by decide, by decide⟩ hK hP [0, 1, 2, 3, 4, 5, 6, 7, 8, 9, 10, 11, 12, 19, 20] rfl 0 rfl rfl hl.1 rfl (Nat.le_of_ble_eq_true rfl) dX10_doubt_7 ⟨by decide, by decide⟩) hP hS hA (fun r2 H locs hr2 hP hS => ?_)
  have kk3 : (3 : Int32).toInt = 3 := by decide
  have hr2 : ((r2.toInt = 0 ∧ r1.toInt = 1) ∨ r2.toInt = -2 ∨ r2.toInt = -6) ∧ RWk r2 0 (Br3 0) (-1) ((Fmh 5).toInt - 1) (Fr3 3).toInt := hr2
  refine lv_istore_n (lv' := [(3, .int r2), (0, .ref adm), (1, .int 3), (2, .int a2)]) hx hb dX10_doubt_10 rfl hl (by decide) rfl (fun ls hl => ?_)
  refine lv_iload_n hx hb dX10_doubt_11 rfl (lv_at hl 0 rfl) ?_
  refine lv_if_eq (tgt := 17) hx hb dX10_doubt_12 (by decide) (fun c4 => ?_) (fun c4 => ?_)
  · have zc4 := eqK rfl (show (0 : Int32).toInt = 0 by decide) c4
    refine lv_aload_n hx hb dX10_doubt_17 rfl (lv_at hl 1 rfl) ?_
    refine getF (v := .ref (qm 5)) hx hb ht hown hK hP iTX10 0 5 rfl rfl (by decide) fl_RX10_41 rfl dX10_doubt_18 ?_
    refine lv_iload_n hx hb dX10_doubt_21 rfl (lv_at hl 2 rfl) ?_
    refine va_aldq hx hb hK.1 hP 2 5 rfl rfl (show ¬ (_ ∨ _) by decide) dX10_doubt_22 ?_
    refine W.eq (g2 := F0 m 23 ls [.ref (qm 23)]) rfl ?_
    refine lv_astore (lv' := [(4, .ref (qm 23)), (3, .int r2), (0, .ref adm), (1, .int 3), (2, .int a2)]) hx hb dX10_doubt_23 hl (by decide) rfl (fun ls hl => ?_)
    refine lv_aload_n hx hb dX10_doubt_25 rfl (lv_at hl 2 rfl) ?_
    refine getF (v := .ref (qm 7)) hx hb ht hown hK hP iTX10 0 7 rfl rfl (by decide) fl_RX10_52 rfl dX10_doubt_26 ?_
    refine lv_aload_n hx hb dX10_doubt_29 rfl (lv_at hl 2 rfl) ?_
    refine getF (v := .ref (qm 6)) hx hb ht hown hK hP iTX10 0 6 rfl rfl (by decide) fl_RX10_48 rfl dX10_doubt_30 ?_
    refine behDw (wr := ((uX10 cs adm qm Fm Am Bm Dm) ++ ((uX8 cs (qm 3) qms Fms Ams Bms Dms) ++ ((uX3 cs (qms 0) qmh Fmh Amh Bmh Dmh) ++ (uX7 cs (qm 23) qr3 Fr3 Ar3 Br3 Dr3))))) (runVD (As := [.ref (qm 6)]) (rest := []) ⟨hx, hb, hml, hown, ht⟩ (sX5_copyFrom l G cs (qm 7) qmw Fmw Amw Bmw Dmw hImw (qm 6) qmn Fmn Amn Bmn Dmn hImn ) okV_RX10_179 ⟨by decide, by decide⟩ hK hP hD [16, 17, 18, 13, 14, 15] rfl (by decide) rfl 16 rfl rfl hl.1 rfl (Nat.le_of_ble_eq_true rfl) dX10_doubt_33 ⟨(Nat.le_of_ble_eq_true rfl), (Nat.le_of_ble_eq_true rfl)⟩) hP hD hS hA [16, 17, 18, 13, 14, 15] [0, 1, 2, 3, 4, 5, 6, 7, 8, 9, 10, 11, 12, 19, 20] rfl rfl (by decide) (by decide) (fun u H locs hu hP hD hS => ?_)
    obtain ⟨x5, x6, g7⟩ := u
    have hr8 := hu
    have hP : va_P G vwCl ((uX10 cs adm qm Fm Am Bm Dm) ++ ((uX8 cs (qm 3) qms Fms Ams Bms Dms) ++ ((uX3 cs (qms 0) qmh Fmh Amh Bmh Dmh) ++ ((uX5 cs (qm 6) qmn Fmn Amn Bmn Dmn) ++ ((uX5 cs (qm 7) qmw (upv 3 x6 (upv 2 x5 Fmw)) (vB 0 g7 Amw) Bmw Dmw) ++ (uX7 cs (qm 23) qr3 Fr3 Ar3 Br3 Dr3)))))) H := hP.sub [0, 1, 2, 3, 4, 5, 6, 7, 8, 9, 10, 11, 12, 18, 19, 20, 15, 16, 17, 13, 14] rfl
    have hD : va_D A0 ((uX10 cs adm qm Fm Am Bm Dm) ++ ((uX8 cs (qm 3) qms Fms Ams Bms Dms) ++ ((uX3 cs (qms 0) qmh Fmh Amh Bmh Dmh) ++ ((uX5 cs (qm 6) qmn Fmn Amn Bmn Dmn) ++ ((uX5 cs (qm 7) qmw (upv 3 x6 (upv 2 x5 Fmw)) (vB 0 g7 Amw) Bmw Dmw) ++ (uX7 cs (qm 23) qr3 Fr3 Ar3 Br3 Dr3)))))) := hD.sub [0, 1, 2, 3, 4, 5, 6, 7, 8, 9, 10, 11, 12, 18, 19, 20, 15, 16, 17, 13, 14] (by decide) rfl
    refine lv_iconst (v := 0) hx hb dX10_doubt_36 (by decide) ?_
    refine lv_istore (lv' := [(5, .int 0), (4, .ref (qm 23)), (3, .int r2), (0, .ref adm), (1, .int 3), (2, .int a2)]) hx hb dX10_doubt_37 hl (by decide) rfl (fun ls hl => ?_)
    have B39 : ∀ (n : Nat) (x39_5 : Int32) (fmw3_39 : Int32) (amw0_39 : (Nat → Int32)) (amw1_39 : (Nat → Int32)) (H : Heap) (locs : List Loc) (ls : Array Slot), (60 - x39_5.toInt).toNat < n → (0 : Int) ≤ x39_5.toInt ∧ x39_5.toInt ≤ 60 → va_P G vwCl ((uX10 cs adm qm Fm Am Bm Dm) ++ ((uX8 cs (qm 3) qms Fms Ams Bms Dms) ++ ((uX3 cs (qms 0) qmh Fmh Amh Bmh Dmh) ++ ((uX5 cs (qm 6) qmn Fmn Amn Bmn Dmn) ++ ((uX5 cs (qm 7) qmw (upv 3 fmw3_39 (upv 2 x5 Fmw)) (vB 1 amw1_39 (vB 0 amw0_39 Amw)) Bmw Dmw) ++ (uX7 cs (qm 23) qr3 Fr3 Ar3 Br3 Dr3)))))) H → va_D A0 ((uX10 cs adm qm Fm Am Bm Dm) ++ ((uX8 cs (qm 3) qms Fms Ams Bms Dms) ++ ((uX3 cs (qms 0) qmh Fmh Amh Bmh Dmh) ++ ((uX5 cs (qm 6) qmn Fmn Amn Bmn Dmn) ++ ((uX5 cs (qm 7) qmw (upv 3 fmw3_39 (upv 2 x5 Fmw)) (vB 1 amw1_39 (vB 0 amw0_39 Amw)) Bmw Dmw) ++ (uX7 cs (qm 23) qr3 Fr3 Ar3 Br3 Dr3)))))) → va_S A0 s.heap H locs → lv_has ls 6 [(0, .ref adm), (2, .int a2), (4, .ref (qm 23)), (5, .int x39_5)] → W p l e (rmk 4 0 0) s m args below meth c H locs 0 0 (MQ below ((QDi G (fun (r : Int32) (u : Int32 × Int32 × (Nat → Int32) × (Nat → Int32)) => True) (fun u : Int32 × Int32 × (Nat → Int32) × (Nat → Int32) => ((uX10 cs adm qm Fm Am Bm Dm) ++ ((uX8 cs (qm 3) qms Fms Ams Bms Dms) ++ ((uX3 cs (qms 0) qmh Fmh Amh Bmh Dmh) ++ ((uX5 cs (qm 6) qmn Fmn Amn Bmn Dmn) ++ ((wX5 cs (qm 7) qmw (upd (upd Fmw 2 u.1) 3 u.2.1) (vA (vA Amw 0 u.2.2.1) 1 u.2.2.2) Bmw Dmw) ++ (uX7 cs (qm 23) qr3 Fr3 Ar3 Br3 Dr3)))))))) A0) args s 0 0 A0) (F0 m 39 ls []) := by
      intro n
      induction n with
      | zero => intro x39_5 fmw3_39 amw0_39 amw1_39 H locs ls hmeas hx39_5 hP hD hS hl; exact absurd hmeas (Nat.not_lt_zero _)
      | succ n ih39 =>
        intro x39_5 fmw3_39 amw0_39 amw1_39 H locs ls hmeas hx39_5 hP hD hS hl
        refine lv_iload hx hb dX10_doubt_39 (lv_at hl 3 rfl) ?_
        refine lv_aload hx hb dX10_doubt_41 (lv_at hl 2 rfl) ?_
        refine getF (v := .int (Fr3 3)) hx hb ht hown hK hP iTX7 19 3 rfl rfl (by decide) fl_RX10_194 rfl dX10_doubt_43 ?_
        have zf24001 : (0 : Int) ≤ (Fr3 3).toInt ∧ (Fr3 3).toInt ≤ 60 := hIr3.1 3
        refine lv_icmp_ge (tgt := 92) hx hb dX10_doubt_46 (by decide) (fun c24002 => ?_) (fun c24002 => ?_)
        · have zc24002 := leK rfl rfl c24002
          refine lv_iconst (v := (-1)) hx hb dX10_doubt_92 (by decide) ?_
          exact retDi (x5, fmw3_39, amw0_39, amw1_39) hx hb hr hlk hP hD hS dX10_doubt_93 (trivial) (Nat.le_of_ble_eq_true rfl) (Nat.le_of_ble_eq_true rfl)
        · have zc24002 := nleK rfl rfl c24002
          refine lv_aload_n hx hb dX10_doubt_49 rfl (lv_at hl 0 rfl) ?_
          refine getF (v := .ref (qm 7)) hx hb ht hown hK hP iTX10 0 7 rfl rfl (by decide) fl_RX10_52 rfl dX10_doubt_50 ?_
          refine behR (runVP (As := []) (rest := []) ⟨hx, hb, hml, hown, ht⟩ (sX5_chanceHere l G cs (qm 7) qmw (upv 3 fmw3_39 (upv 2 x5 Fmw)) (vB 1 amw1_39 (vB 0 amw0_39 Amw)) Bmw Dmw (IB_av (k := 1) (IB_av (k := 0) (IB_pv (k := 3) (IB_pv (k := 2) hImw (i32b _)) (i32b _)) (AJ_full _)) (AJ_full _)) ) okV_RX10_165 ⟨by decide, by decide⟩ hK hP [16, 17, 18] rfl 16 rfl rfl hl.1 rfl (Nat.le_of_ble_eq_true rfl) dX10_doubt_53 ⟨by decide, by decide⟩) hP hS hA (fun r24003 H locs hr24003 hP hS => ?_)
          refine lv_iload_n hx hb dX10_doubt_56 rfl (lv_at hl 1 rfl) ?_
          refine lv_icmp_ge (tgt := 63) hx hb dX10_doubt_57 (by decide) (fun c24004 => ?_) (fun c24004 => ?_)
          · have zc24004 := leK rfl rfl c24004
            refine lv_aload_n hx hb dX10_doubt_63 rfl (lv_at hl 0 rfl) ?_
            refine getF (v := .ref (qm 7)) hx hb ht hown hK hP iTX10 0 7 rfl rfl (by decide) fl_RX10_52 rfl dX10_doubt_64 ?_
            refine lv_aload_n hx hb dX10_doubt_67 rfl (lv_at hl 0 rfl) ?_
            refine getF (v := .ref (qm 3)) hx hb ht hown hK hP iTX10 0 3 rfl rfl (by decide) fl_RX10_31 rfl dX10_doubt_68 ?_
            refine getF (v := .ref (qms 0)) hx hb ht hown hK hP iTX8 3 0 rfl rfl (by decide) fl_RX10_98 rfl dX10_doubt_71 ?_
            refine lv_aload hx hb dX10_doubt_74 (lv_at hl 2 rfl) ?_
            refine lv_iload hx hb dX10_doubt_76 (lv_at hl 3 rfl) ?_
            refine behR (runVP (As := [.int x39_5]) (rest := [.ref (qms 0), .ref (qm 7)]) ⟨hx, hb, hml, hown, ht⟩ (sX7_roomAt l G cs (qm 23) qr3 Fr3 Ar3 Br3 Dr3 hIr3 x39_5 ) okV_RX10_195 ⟨by decide, by decide⟩ hK hP [19, 20] rfl 19 rfl rfl hl.1 rfl (Nat.le_of_ble_eq_true rfl) dX10_doubt_78 ⟨by decide, by decide⟩) hP hS hA (fun r24005 H locs hr24005 hP hS => ?_)
            have hr24005 : RAt r24005 x39_5 (Br3 0) (Fr3 3).toInt := hr24005
            have z5r24005 : (0 : Int) ≤ (Fmh 5).toInt ∧ (Fmh 5).toInt ≤ 7 := hImh.1 5
            have zbr24005 := RWr hr24005 (hr2.2 (by omega)) (by omega) (by omega) (by omega) (by omega)
            refine lv_iconst (v := 0) hx hb dX10_doubt_81 (by decide) ?_
            refine behDi (wr := ((uX10 cs adm qm Fm Am Bm Dm) ++ ((uX8 cs (qm 3) qms Fms Ams Bms Dms) ++ ((uX5 cs (qm 6) qmn Fmn Amn Bmn Dmn) ++ (uX7 cs (qm 23) qr3 Fr3 Ar3 Br3 Dr3))))) (runVD (As := [.ref (qms 0), .int r24005, .int 0]) (rest := []) ⟨hx, hb, hml, hown, ht⟩ (sX5_live l G cs (qm 7) qmw (upv 3 fmw3_39 (upv 2 x5 Fmw)) (vB 1 amw1_39 (vB 0 amw0_39 Amw)) Bmw Dmw (IB_av (k := 1) (IB_av (k := 0) (IB_pv (k := 3) (IB_pv (k := 2) hImw (i32b _)) (i32b _)) (AJ_full _)) (AJ_full _)) (qms 0) qmh Fmh Amh Bmh Dmh hImh r24005 0 (by decide)) okV_RX10_175 ⟨by decide, by decide⟩ hK hP hD [16, 17, 18, 5, 6, 7, 8, 9, 10, 11, 12] rfl (by decide) rfl 16 rfl rfl hl.1 rfl (Nat.le_of_ble_eq_true rfl) dX10_doubt_82 ⟨(Nat.le_of_ble_eq_true rfl), (Nat.le_of_ble_eq_true rfl)⟩) hP hD hS hA [16, 17, 18, 5, 6, 7, 8, 9, 10, 11, 12] [0, 1, 2, 3, 4, 13, 14, 15, 19, 20] rfl rfl (by decide) (by decide) (fun r9 u H locs hu hP hD hS => ?_)
            obtain ⟨x24006, g24007, g24008⟩ := u
            obtain ⟨r24009, rfl⟩ : ∃ z, z = r9 := ⟨_, rfl⟩
            have hr24009 := hu
            have hP : va_P G vwCl ((uX10 cs adm qm Fm Am Bm Dm) ++ ((uX8 cs (qm 3) qms Fms Ams Bms Dms) ++ ((uX3 cs (qms 0) qmh Fmh Amh Bmh Dmh) ++ ((uX5 cs (qm 6) qmn Fmn Amn Bmn Dmn) ++ ((uX5 cs (qm 7) qmw (upv 3 x24006 (upv 2 x5 Fmw)) (vB 1 g24008 (vB 0 g24007 Amw)) Bmw Dmw) ++ (uX7 cs (qm 23) qr3 Fr3 Ar3 Br3 Dr3)))))) H := hP.sub [0, 1, 2, 3, 4, 13, 14, 15, 16, 17, 18, 19, 20, 5, 6, 7, 10, 11, 12, 8, 9] rfl
            have hD : va_D A0 ((uX10 cs adm qm Fm Am Bm Dm) ++ ((uX8 cs (qm 3) qms Fms Ams Bms Dms) ++ ((uX3 cs (qms 0) qmh Fmh Amh Bmh Dmh) ++ ((uX5 cs (qm 6) qmn Fmn Amn Bmn Dmn) ++ ((uX5 cs (qm 7) qmw (upv 3 x24006 (upv 2 x5 Fmw)) (vB 1 g24008 (vB 0 g24007 Amw)) Bmw Dmw) ++ (uX7 cs (qm 23) qr3 Fr3 Ar3 Br3 Dr3)))))) := hD.sub [0, 1, 2, 3, 4, 13, 14, 15, 16, 17, 18, 19, 20, 5, 6, 7, 10, 11, 12, 8, 9] (by decide) rfl
            refine lv_pop hx hb dX10_doubt_85 rfl ?_
            obtain ⟨v24010, ev24010⟩ : ∃ z : Int32, z = x39_5 + 1 := ⟨_, rfl⟩
            have tv24010 : v24010.toInt = x39_5.toInt + 1 := by rw [ev24010]; exact addT rfl (by decide) (by omega)
            refine lv_iinc (v := v24010) (lv' := [(5, .int v24010), (0, .ref adm), (2, .int a2), (4, .ref (qm 23))]) hx hb dX10_doubt_86 hl (k := 3) rfl (by rw [ev24010]; rfl) (by decide) rfl (fun ls hl => ?_)
            refine lv_goto (tgt := 39) hx hb dX10_doubt_89 (by decide) ?_
            exact ih39 v24010 x24006 g24007 g24008 H locs ls (by omega) (by omega) hP hD hS (lv_sub hl [1, 2, 3, 0] rfl)
          · have zc24004 := nleK rfl rfl c24004
            refine lv_iload hx hb dX10_doubt_60 (lv_at hl 3 rfl) ?_
            exact retDi (x5, fmw3_39, amw0_39, amw1_39) hx hb hr hlk hP hD hS dX10_doubt_62 (trivial) (Nat.le_of_ble_eq_true rfl) (Nat.le_of_ble_eq_true rfl)
    exact B39 _ 0 x6 g7 (Amw 1) H locs ls (Nat.lt_succ_self _) (by decide) hP hD hS (lv_sub hl [3, 5, 1, 0] rfl)
  · have zc4 := neK rfl (show (0 : Int32).toInt = 0 by decide) c4
    refine lv_iload_n hx hb dX10_doubt_15 rfl (lv_at hl 0 rfl) ?_
    exact retDi ((Fmw 2), (Fmw 3), (Amw 0), (Amw 1)) hx hb hr hlk hP hD hS dX10_doubt_16 (trivial) (Nat.le_of_ble_eq_true rfl) (Nat.le_of_ble_eq_true rfl)

set_option maxRecDepth 100000 in
set_option maxHeartbeats 16000000 in
theorem sX10_doubt_lo (l : Launch) (G : va_G) (cs : Nat → ClassId) (adm : Nat) (qm : Nat → Nat) (Fm : Nat → Int32) (Am : Nat → Nat → Int32) (Bm : Nat → Nat → Int64) (Dm : Int64) (hIm : IX10 Fm Am) (qms : Nat → Nat) (Fms : Nat → Int32) (Ams : Nat → Nat → Int32) (Bms : Nat → Nat → Int64) (Dms : Int64) (hIms : IX8 Fms Ams) (qmh : Nat → Nat) (Fmh : Nat → Int32) (Amh : Nat → Nat → Int32) (Bmh : Nat → Nat → Int64) (Dmh : Int64) (hImh : IX3 Fmh Amh) (qmn : Nat → Nat) (Fmn : Nat → Int32) (Amn : Nat → Nat → Int32) (Bmn : Nat → Nat → Int64) (Dmn : Int64) (hImn : IX5 Fmn Amn) (qmw : Nat → Nat) (Fmw : Nat → Int32) (Amw : Nat → Nat → Int32) (Bmw : Nat → Nat → Int64) (Dmw : Int64) (hImw : IX5 Fmw Amw) (a1 : Int32) (a2 : Int32) (ha1 : (-2147483648 : Int) ≤ a1.toInt ∧ a1.toInt ≤ -1) : ∀ sz : Nat, Met l yX10_doubt (wk yX10_doubt cX10_doubt 6 (some .int)) (rmk 3 0 0) (PreD G (TY cs) [.ref adm, .int a1, .int a2] ((uX10 cs adm qm Fm Am Bm Dm) ++ ((uX8 cs (qm 3) qms Fms Ams Bms Dms) ++ ((uX3 cs (qms 0) qmh Fmh Amh Bmh Dmh) ++ ((uX5 cs (qm 6) qmn Fmn Amn Bmn Dmn) ++ (uX5 cs (qm 7) qmw Fmw Amw Bmw Dmw))))) sz) ((QDi G (fun (r : Int32) (u : Unit) => True) (fun u : Unit => ((uX10 cs adm qm Fm Am Bm Dm) ++ ((uX8 cs (qm 3) qms Fms Ams Bms Dms) ++ ((uX3 cs (qms 0) qmh Fmh Amh Bmh Dmh) ++ ((uX5 cs (qm 6) qmn Fmn Amn Bmn Dmn) ++ (uX5 cs (qm 7) qmw Fmw Amw Bmw Dmw))))))) (va_A ((uX10 cs adm qm Fm Am Bm Dm) ++ ((uX8 cs (qm 3) qms Fms Ams Bms Dms) ++ ((uX3 cs (qms 0) qmh Fmh Amh Bmh Dmh) ++ ((uX5 cs (qm 6) qmn Fmn Amn Bmn Dmn) ++ (uX5 cs (qm 7) qmw Fmw Amw Bmw Dmw))))) sz)) 0 0 (va_A ((uX10 cs adm qm Fm Am Bm Dm) ++ ((uX8 cs (qm 3) qms Fms Ams Bms Dms) ++ ((uX3 cs (qms 0) qmh Fmh Amh Bmh Dmh) ++ ((uX5 cs (qm 6) qmn Fmn Amn Bmn Dmn) ++ (uX5 cs (qm 7) qmw Fmw Amw Bmw Dmw))))) sz) := by
  refine mkD (Qc := (QDi G (fun (r : Int32) (u : Unit) => True) (fun u : Unit => ((uX10 cs adm qm Fm Am Bm Dm) ++ ((uX8 cs (qm 3) qms Fms Ams Bms Dms) ++ ((uX3 cs (qms 0) qmh Fmh Amh Bmh Dmh) ++ ((uX5 cs (qm 6) qmn Fmn Amn Bmn Dmn) ++ (uX5 cs (qm 7) qmw Fmw Amw Bmw Dmw)))))))) (by decide) (by simp [lg_sl, Value.category]) ?_
  intro p e s m args below meth c ls A0 hx hb hml hr hlk hown hmn ht hK hP hD hS hA hl
  have hl : lv_has ls 6 [(0, .ref adm), (1, .int a1), (2, .int a2)] := hl
  refine lv_aload_n hx hb dX10_doubt_0 rfl (lv_at hl 0 rfl) ?_
  refine lv_iload_n hx hb dX10_doubt_1 rfl (lv_at hl 1 rfl) ?_
  refine lv_aload_n hx hb dX10_doubt_2 rfl (lv_at hl 0 rfl) ?_
  refine lv_iload_n hx hb dX10_doubt_3 rfl (lv_at hl 2 rfl) ?_
  refine behR (runVP (As := [.int a2]) (rest := [.int a1, .ref adm]) ⟨hx, hb, hml, hown, ht⟩ (sX10_isPartOfMillion l G cs adm qm Fm Am Bm Dm hIm a2 ) okV_RX10_205 ⟨by decide, by decide⟩ hK hP [0, 1, 2] rfl 0 rfl rfl hl.1 rfl (Nat.le_of_ble_eq_true rfl) dX10_doubt_4 ⟨by decide, by decide⟩) hP hS hA (fun r1 H locs hr1 hP hS => ?_)
  have hr1 : (r1.toInt = 1 ∧ 0 ≤ a2.toInt ∧ a2.toInt ≤ 1000000) ∨ (r1.toInt = 0 ∧ (a2.toInt < 0 ∨ 1000000 < a2.toInt)) := hr1
  have bb2 := i32b a1
  refine behR (runVP (As := [.int a1, .int r1]) (rest := []) ⟨hx, hb, hml, hown, ht⟩ (sX10_askRound_lo l G cs adm qm Fm Am Bm Dm hIm qms Fms Ams Bms Dms hIms qmh Fmh Amh Bmh Dmh hImh a1 r1 (by omega) (by omega)) okV_RX10_186 ⟨by decide, by decide⟩ hK hP [0, 1, 2, 3, 4, 5, 6, 7, 8, 9, 10, 11, 12] rfl 0 rfl rfl hl.1 rfl (Nat.le_of_ble_eq_true rfl) dX10_doubt_7 ⟨by decide, by decide⟩) hP hS hA (fun r3 H locs hr3 hP hS => ?_)
  have hr3 : r3.toInt = -2 := hr3
  refine lv_istore_n (lv' := [(3, .int r3), (0, .ref adm), (1, .int a1), (2, .int a2)]) hx hb dX10_doubt_10 rfl hl (by decide) rfl (fun ls hl => ?_)
  refine lv_iload_n hx hb dX10_doubt_11 rfl (lv_at hl 0 rfl) ?_
  refine lv_if_eq (tgt := 17) hx hb dX10_doubt_12 (by decide) (fun c4 => False.elim (by have zz := eqK rfl (show (0 : Int32).toInt = 0 by decide) c4; omega)) (fun c4 => ?_)
  refine lv_iload_n hx hb dX10_doubt_15 rfl (lv_at hl 0 rfl) ?_
  exact retDi () hx hb hr hlk hP hD hS dX10_doubt_16 (trivial) (Nat.le_of_ble_eq_true rfl) (Nat.le_of_ble_eq_true rfl)

