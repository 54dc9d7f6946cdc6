set_option maxRecDepth 100000 in
set_option maxHeartbeats 16000000 in
theorem sX10_follows_hi (l : Launch) (G : va_G) (cs : Nat → ClassId) (adm : Nat) (qm : Nat → Nat) (Fm : Nat → Int32) (Am : Nat → Nat → Int32) (Bm : Nat → Nat → Int64) (Dm : Int64) (hIm : IX10 Fm Am) (qms : Nat → Nat) (Fms : Nat → Int32) (Ams : Nat → Nat → Int32) (Bms : Nat → Nat → Int64) (Dms : Int64) (hIms : IX8 Fms Ams) (qmh : Nat → Nat) (Fmh : Nat → Int32) (Amh : Nat → Nat → Int32) (Bmh : Nat → Nat → Int64) (Dmh : Int64) (hImh : IX3 Fmh Amh) (a1 : Int32) (a2 : Int32) (ha1 : (4 : Int) ≤ a1.toInt ∧ a1.toInt ≤ 2147483647) : ∀ sz : Nat, Met l yX10_follows (wk yX10_follows cX10_follows 4 (some .int)) (rmk 3 0 0) (PreP G (TY cs) [.ref adm, .int a1, .int a2] ((uX10 cs adm qm Fm Am Bm Dm) ++ ((uX8 cs (qm 3) qms Fms Ams Bms Dms) ++ (uX3 cs (qms 0) qmh Fmh Amh Bmh Dmh))) sz) (QRi (fun r : Int32 => True) sz) 0 0 (fun q => sz ≤ q) := by
  refine mkP (Qc := QRi (fun r : Int32 => True)) (by decide) (by simp [lg_sl, Value.category]) ?_
  intro p e s m args below meth c ls hx hb hml hr hlk hown ht hK hP hS hl
  have hl : lv_has ls 4 [(0, .ref adm), (1, .int a1), (2, .int a2)] := hl
  refine lv_aload_n hx hb dX10_follows_0 rfl (lv_at hl 0 rfl) ?_
  refine lv_iload_n hx hb dX10_follows_1 rfl (lv_at hl 1 rfl) ?_
  refine lv_aload_n hx hb dX10_follows_2 rfl (lv_at hl 0 rfl) ?_
  refine lv_iload_n hx hb dX10_follows_3 rfl (lv_at hl 2 rfl) ?_
  refine behR (runVP (As := [.int a2]) (rest := [.int a1, .ref adm]) ⟨hx, hb, hml, hown, ht⟩ (sX10_isRoom l G cs adm qm Fm Am Bm Dm hIm qms Fms Ams Bms Dms hIms qmh Fmh Amh Bmh Dmh hImh a2 ) okV_RX10_120 ⟨by decide, by decide⟩ hK hP [0, 1, 2, 3, 4, 5, 6, 7, 8, 9, 10, 11, 12] rfl 0 rfl rfl hl.1 rfl (Nat.le_of_ble_eq_true rfl) dX10_follows_4 ⟨by decide, by decide⟩) hP hS (fun _ h => h) (fun r1 H locs hr1 hP hS => ?_)
  have hr1 : (r1.toInt = 1 ∧ 0 ≤ a2.toInt ∧ a2.toInt < (Fmh 5).toInt ∧ a2.toInt ≤ 6) ∨ r1.toInt = 0 := hr1
  have bb2 := i32b a1
  refine behR (runVP (As := [.int a1, .int r1]) (rest := []) ⟨hx, hb, hml, hown, ht⟩ (sX10_askHabits_hi l G cs adm qm Fm Am Bm Dm hIm qms Fms Ams Bms Dms hIms qmh Fmh Amh Bmh Dmh hImh a1 r1 (by omega) (by omega)) okV_RX10_299 ⟨by decide, by decide⟩ hK hP [0, 1, 2, 3, 4, 5, 6, 7, 8, 9, 10, 11, 12] rfl 0 rfl rfl hl.1 rfl (Nat.le_of_ble_eq_true rfl) dX10_follows_7 ⟨by decide, by decide⟩) hP hS (fun _ h => h) (fun r3 H locs hr3 hP hS => ?_)
  have hr3 : r3.toInt = -2 := hr3
  refine lv_istore_n (lv' := [(3, .int r3), (0, .ref adm), (1, .int a1), (2, .int a2)]) hx hb dX10_follows_10 rfl hl (by decide) rfl (fun ls hl => ?_)
  refine lv_iload_n hx hb dX10_follows_11 rfl (lv_at hl 0 rfl) ?_
  refine lv_if_eq (tgt := 17) hx hb dX10_follows_12 (by decide) (fun c4 => False.elim (by have zz := eqK rfl (show (0 : Int32).toInt = 0 by decide) c4; omega)) (fun c4 => ?_)
  refine lv_iload_n hx hb dX10_follows_15 rfl (lv_at hl 0 rfl) ?_
  exact retRi hx hb hr hlk hS dX10_follows_16 (trivial)

set_option maxRecDepth 100000 in
set_option maxHeartbeats 16000000 in
theorem sX10_drawn_0 (l : Launch) (G : va_G) (cs : Nat → ClassId) (adm : Nat) (qm : Nat → Nat) (Fm : Nat → Int32) (Am : Nat → Nat → Int32) (Bm : Nat → Nat → Int64) (Dm : Int64) (hIm : IX10 Fm Am) (qms : Nat → Nat) (Fms : Nat → Int32) (Ams : Nat → Nat → Int32) (Bms : Nat → Nat → Int64) (Dms : Int64) (hIms : IX8 Fms Ams) (qmh : Nat → Nat) (Fmh : Nat → Int32) (Amh : Nat → Nat → Int32) (Bmh : Nat → Nat → Int64) (Dmh : Int64) (hImh : IX3 Fmh Amh) (qmv : Nat → Nat) (Fmv : Nat → Int32) (Amv : Nat → Nat → Int32) (Bmv : Nat → Nat → Int64) (Dmv : Int64) (hImv : IX2 Fmv Amv) (qr0 : Nat → Nat) (Fr0 : Nat → Int32) (Ar0 : Nat → Nat → Int32) (Br0 : Nat → Nat → Int64) (Dr0 : Int64) (hIr0 : IX7 Fr0 Ar0) (a1 : Int32) (a3 : Int32) : ∀ sz : Nat, Met l yX10_drawn (wk yX10_drawn cX10_drawn 5 (some .int)) (rmk 3 0 0) (PreD G (TY cs) [.ref adm, .int a1, .int 0, .int a3] ((uX10 cs adm qm Fm Am Bm Dm) ++ ((uX8 cs (qm 3) qms Fms Ams Bms Dms) ++ ((uX3 cs (qms 0) qmh Fmh Amh Bmh Dmh) ++ ((uX2 cs (qm 11) qmv Fmv Amv Bmv Dmv) ++ (uX7 cs (qm 20) qr0 Fr0 Ar0 Br0 Dr0))))) sz) ((QDi G (fun (r : Int32) (u : Int32 × Int32 × Int64) => ((-1 : Int) ≤ u.2.1.toInt ∧ u.2.1.toInt ≤ 6) ∧ (True)) (fun u : Int32 × Int32 × Int64 => ((uX10 cs adm qm Fm Am Bm Dm) ++ ((uX8 cs (qm 3) qms Fms Ams Bms Dms) ++ ((uX3 cs (qms 0) qmh Fmh Amh Bmh Dmh) ++ ((wX2 cs (qm 11) qmv (upd (upd Fmv 1 u.1) 2 u.2.1) Amv Bmv u.2.2) ++ (uX7 cs (qm 20) qr0 Fr0 Ar0 Br0 Dr0))))))) (va_A ((uX10 cs adm qm Fm Am Bm Dm) ++ ((uX8 cs (qm 3) qms Fms Ams Bms Dms) ++ ((uX3 cs (qms 0) qmh Fmh Amh Bmh Dmh) ++ ((uX2 cs (qm 11) qmv Fmv Amv Bmv Dmv) ++ (uX7 cs (qm 20) qr0 Fr0 Ar0 Br0 Dr0))))) sz)) 0 0 (va_A ((uX10 cs adm qm Fm Am Bm Dm) ++ ((uX8 cs (qm 3) qms Fms Ams Bms Dms) ++ ((uX3 cs (qms 0) qmh Fmh Amh Bmh Dmh) ++ ((uX2 cs (qm 11) qmv Fmv Amv Bmv Dmv) ++ (uX7 cs (qm 20) qr0 Fr0 Ar0 Br0 Dr0))))) sz) := by
  refine mkD (Qc := (QDi G (fun (r : Int32) (u : Int32 × Int32 × Int64) => ((-1 : Int) ≤ u.2.1.toInt ∧ u.2.1.toInt ≤ 6) ∧ (True)) (fun u : Int32 × Int32 × Int64 => ((uX10 cs adm qm Fm Am Bm Dm) ++ ((uX8 cs (qm 3) qms Fms Ams Bms Dms) ++ ((uX3 cs (qms 0) qmh Fmh Amh Bmh Dmh) ++ ((wX2 cs (qm 11) qmv (upd (upd Fmv 1 u.1) 2 u.2.1) Amv Bmv u.2.2) ++ (uX7 cs (qm 20) qr0 Fr0 Ar0 Br0 Dr0)))))))) (by decide) (by simp [lg_sl, Value.category]) ?_
  intro p e s m args below meth c ls A0 hx hb hml hr hlk hown hmn ht hK hP hD hS hA hl
  have hl : lv_has ls 5 [(0, .ref adm), (1, .int a1), (2, .int 0), (3, .int a3)] := hl
  refine lv_aload_n hx hb dX10_drawn_0 rfl (lv_at hl 0 rfl) ?_
  refine lv_iload_n hx hb dX10_drawn_1 rfl (lv_at hl 2 rfl) ?_
  refine lv_aload_n hx hb dX10_drawn_2 rfl (lv_at hl 0 rfl) ?_
  refine lv_iload_n hx hb dX10_drawn_3 rfl (lv_at hl 1 rfl) ?_
  refine behR (runVP (As := [.int a1]) (rest := [.int 0, .ref adm]) ⟨hx, hb, hml, hown, ht⟩ (sX10_isSeed l G cs adm qm Fm Am Bm Dm hIm a1 ) okV_RX10_308 ⟨by decide, by decide⟩ hK hP [0, 1, 2] rfl 0 rfl rfl hl.1 rfl (Nat.le_of_ble_eq_true rfl) dX10_drawn_4 ⟨by decide, by decide⟩) hP hS hA (fun r1 H locs hr1 hP hS => ?_)
  have hr1 : (r1.toInt = 1 ∧ 0 ≤ a1.toInt ∧ a1.toInt ≤ 2000000000) ∨ (r1.toInt = 0 ∧ (a1.toInt < 0 ∨ 2000000000 < a1.toInt)) := hr1
  have B24 : ∀ (s24_0 : Int32) (H : Heap) (locs : List Loc) (ls : Array Slot), (0 : Int) ≤ s24_0.toInt ∧ s24_0.toInt ≤ 1 → va_P G vwCl ((uX10 cs adm qm Fm Am Bm Dm) ++ ((uX8 cs (qm 3) qms Fms Ams Bms Dms) ++ ((uX3 cs (qms 0) qmh Fmh Amh Bmh Dmh) ++ ((uX2 cs (qm 11) qmv Fmv Amv Bmv Dmv) ++ (uX7 cs (qm 20) qr0 Fr0 Ar0 Br0 Dr0))))) H → va_D A0 ((uX10 cs adm qm Fm Am Bm Dm) ++ ((uX8 cs (qm 3) qms Fms Ams Bms Dms) ++ ((uX3 cs (qms 0) qmh Fmh Amh Bmh Dmh) ++ ((uX2 cs (qm 11) qmv Fmv Amv Bmv Dmv) ++ (uX7 cs (qm 20) qr0 Fr0 Ar0 Br0 Dr0))))) → va_S A0 s.heap H locs → lv_has ls 5 [(0, .ref adm), (1, .int a1), (2, .int 0), (3, .int a3)] → W p l e (rmk 3 0 0) s m args below meth c H locs 0 0 (MQ below ((QDi G (fun (r : Int32) (u : Int32 × Int32 × Int64) => ((-1 : Int) ≤ u.2.1.toInt ∧ u.2.1.toInt ≤ 6) ∧ (True)) (fun u : Int32 × Int32 × Int64 => ((uX10 cs adm qm Fm Am Bm Dm) ++ ((uX8 cs (qm 3) qms Fms Ams Bms Dms) ++ ((uX3 cs (qms 0) qmh Fmh Amh Bmh Dmh) ++ ((wX2 cs (qm 11) qmv (upd (upd Fmv 1 u.1) 2 u.2.1) Amv Bmv u.2.2) ++ (uX7 cs (qm 20) qr0 Fr0 Ar0 Br0 Dr0))))))) A0) args s 0 0 A0) (F0 m 24 ls [.int s24_0, .int 0, .ref adm]) := by
    intro s24_0 H locs ls hs24_0 hP hD hS hl
    refine behR (runVP (As := [.int 0, .int s24_0]) (rest := []) ⟨hx, hb, hml, hown, ht⟩ (sX10_askRound_0 l G cs adm qm Fm Am Bm Dm hIm qms Fms Ams Bms Dms hIms qmh Fmh Amh Bmh Dmh hImh qr0 Fr0 Ar0 Br0 Dr0 hIr0 s24_0 (by omega)) okV_RX10_186 ⟨by decide, by decide⟩ hK hP [0, 1, 2, 3, 4, 5, 6, 7, 8, 9, 10, 11, 12, 14, 15] rfl 0 rfl rfl hl.1 rfl (Nat.le_of_ble_eq_true rfl) dX10_drawn_24 ⟨by decide, by decide⟩) hP hS hA (fun r15001 H locs hr15001 hP hS => ?_)
    have kk15002 : (0 : Int32).toInt = 0 := by decide
    have hr15001 : ((r15001.toInt = 0 ∧ s24_0.toInt = 1) ∨ r15001.toInt = -2 ∨ r15001.toInt = -6) ∧ RWk r15001 0 (Br0 0) (-1) ((Fmh 5).toInt - 1) (Fr0 3).toInt := hr15001
    refine lv_istore (lv' := [(4, .int r15001), (0, .ref adm), (1, .int a1), (2, .int 0), (3, .int a3)]) hx hb dX10_drawn_27 hl (by decide) rfl (fun ls hl => ?_)
    refine lv_iload hx hb dX10_drawn_29 (lv_at hl 0 rfl) ?_
    refine lv_if_eq (tgt := 37) hx hb dX10_drawn_31 (by decide) (fun c15003 => ?_) (fun c15003 => ?_)
    · have zc15003 := eqK rfl (show (0 : Int32).toInt = 0 by decide) c15003
      refine lv_aload_n hx hb dX10_drawn_37 rfl (lv_at hl 1 rfl) ?_
      refine getF (v := .ref (qm 11)) hx hb ht hown hK hP iTX10 0 11 rfl rfl (by decide) fl_RX10_79 rfl dX10_drawn_38 ?_
      refine lv_aload_n hx hb dX10_drawn_41 rfl (lv_at hl 1 rfl) ?_
      refine getF (v := .ref (qm 3)) hx hb ht hown hK hP iTX10 0 3 rfl rfl (by decide) fl_RX10_31 rfl dX10_drawn_42 ?_
      refine getF (v := .ref (qms 0)) hx hb ht hown hK hP iTX8 3 0 rfl rfl (by decide) fl_RX10_98 rfl dX10_drawn_45 ?_
      refine lv_aload_n hx hb dX10_drawn_48 rfl (lv_at hl 1 rfl) ?_
      refine getF (v := .ref (qm 5)) hx hb ht hown hK hP iTX10 0 5 rfl rfl (by decide) fl_RX10_41 rfl dX10_drawn_49 ?_
      refine lv_iload_n hx hb dX10_drawn_52 rfl (lv_at hl 3 rfl) ?_
      refine va_aldq hx hb hK.1 hP 2 5 rfl rfl (show ¬ (_ ∨ _) by decide) dX10_drawn_53 ?_
      refine W.eq (g2 := F0 m 54 ls [.ref (qm 20), .ref (qms 0), .ref (qm 11)]) rfl ?_
      refine lv_iload_n hx hb dX10_drawn_54 rfl (lv_at hl 2 rfl) ?_
      refine lv_i2l hx hb dX10_drawn_55 rfl ?_
      have bb15004 := i32b a1
      refine lv_topl (fun v15005 ev15005 => ?_)
      have tv15005 : v15005.toInt = a1.toInt := by rw [ev15005]; exact Int32.toInt_toInt64 _
      refine behDw (wr := ((uX10 cs adm qm Fm Am Bm Dm) ++ (uX8 cs (qm 3) qms Fms Ams Bms Dms))) (runVD (As := [.ref (qms 0), .ref (qm 20), .long v15005]) (rest := []) ⟨hx, hb, hml, hown, ht⟩ (sX2_draw l G cs (qm 11) qmv Fmv Amv Bmv Dmv hImv (qms 0) qmh Fmh Amh Bmh Dmh hImh (qm 20) qr0 Fr0 Ar0 Br0 Dr0 hIr0 v15005 ) okV_RX10_311 ⟨by decide, by decide⟩ hK hP hD [13, 5, 6, 7, 8, 9, 10, 11, 12, 14, 15] rfl (by decide) rfl 13 rfl rfl hl.1 rfl (Nat.le_of_ble_eq_true rfl) dX10_drawn_56 ⟨(Nat.le_of_ble_eq_true rfl), (Nat.le_of_ble_eq_true rfl)⟩) hP hD hS hA [13, 5, 6, 7, 8, 9, 10, 11, 12, 14, 15] [0, 1, 2, 3, 4] rfl rfl (by decide) (by decide) (fun u H locs hu hP hD hS => ?_)
      obtain ⟨x15006, x15007, d15008⟩ := u
      obtain ⟨hbx15007, hr15009⟩ := hu
      have hbx15007 : (-1 : Int) ≤ x15007.toInt ∧ x15007.toInt ≤ 6 := hbx15007
      have hP : va_P G vwCl ((uX10 cs adm qm Fm Am Bm Dm) ++ ((uX8 cs (qm 3) qms Fms Ams Bms Dms) ++ ((uX3 cs (qms 0) qmh Fmh Amh Bmh Dmh) ++ ((uX2 cs (qm 11) qmv (upv 2 x15007 (upv 1 x15006 Fmv)) Amv Bmv d15008) ++ (uX7 cs (qm 20) qr0 Fr0 Ar0 Br0 Dr0))))) H := hP.sub [0, 1, 2, 3, 4, 6, 7, 8, 9, 10, 11, 12, 13, 5, 14, 15] rfl
      have hD : va_D A0 ((uX10 cs adm qm Fm Am Bm Dm) ++ ((uX8 cs (qm 3) qms Fms Ams Bms Dms) ++ ((uX3 cs (qms 0) qmh Fmh Amh Bmh Dmh) ++ ((uX2 cs (qm 11) qmv (upv 2 x15007 (upv 1 x15006 Fmv)) Amv Bmv d15008) ++ (uX7 cs (qm 20) qr0 Fr0 Ar0 Br0 Dr0))))) := hD.sub [0, 1, 2, 3, 4, 6, 7, 8, 9, 10, 11, 12, 13, 5, 14, 15] (by decide) rfl
      refine lv_iload_n hx hb dX10_drawn_59 rfl (lv_at hl 4 rfl) ?_
      refine lv_if_ne (tgt := 73) hx hb dX10_drawn_60 (by decide) (fun c15010 => ?_) (fun c15010 => ?_)
      · have zc15010 := neK rfl (show (0 : Int32).toInt = 0 by decide) c15010
        refine lv_aload_n hx hb dX10_drawn_73 rfl (lv_at hl 1 rfl) ?_
        refine getF (v := .ref (qm 11)) hx hb ht hown hK hP iTX10 0 11 rfl rfl (by decide) fl_RX10_79 rfl dX10_drawn_74 ?_
        refine getF (v := .int x15007) hx hb ht hown hK hP iTX2 13 2 rfl rfl (by decide) fl_RX10_318 rfl dX10_drawn_77 ?_
        exact retDi (x15006, x15007, d15008) hx hb hr hlk hP hD hS dX10_drawn_80 (⟨show (-1 : Int) ≤ x15007.toInt ∧ x15007.toInt ≤ 6 by omega, trivial⟩) (Nat.le_of_ble_eq_true rfl) (Nat.le_of_ble_eq_true rfl)
      · have zc15010 := eqK rfl (show (0 : Int32).toInt = 0 by decide) c15010
        refine lv_aload_n hx hb dX10_drawn_63 rfl (lv_at hl 1 rfl) ?_
        refine getF (v := .ref (qm 11)) hx hb ht hown hK hP iTX10 0 11 rfl rfl (by decide) fl_RX10_79 rfl dX10_drawn_64 ?_
        refine getF (v := .int x15006) hx hb ht hown hK hP iTX2 13 1 rfl rfl (by decide) fl_RX10_315 rfl dX10_drawn_67 ?_
        refine lv_goto (tgt := 80) hx hb dX10_drawn_70 (by decide) ?_
        exact retDi (x15006, x15007, d15008) hx hb hr hlk hP hD hS dX10_drawn_80 (⟨show (-1 : Int) ≤ x15007.toInt ∧ x15007.toInt ≤ 6 by omega, trivial⟩) (Nat.le_of_ble_eq_true rfl) (Nat.le_of_ble_eq_true rfl)
    · have zc15003 := neK rfl (show (0 : Int32).toInt = 0 by decide) c15003
      refine lv_iload hx hb dX10_drawn_34 (lv_at hl 0 rfl) ?_
      exact retDi ((Fmv 1), (Fmv 2), Dmv) hx hb hr hlk hP hD hS dX10_drawn_36 (⟨hImv.1 2, trivial⟩) (Nat.le_of_ble_eq_true rfl) (Nat.le_of_ble_eq_true rfl)
  have B23 : ∀ (H : Heap) (locs : List Loc) (ls : Array Slot), va_P G vwCl ((uX10 cs adm qm Fm Am Bm Dm) ++ ((uX8 cs (qm 3) qms Fms Ams Bms Dms) ++ ((uX3 cs (qms 0) qmh Fmh Amh Bmh Dmh) ++ ((uX2 cs (qm 11) qmv Fmv Amv Bmv Dmv) ++ (uX7 cs (qm 20) qr0 Fr0 Ar0 Br0 Dr0))))) H → va_D A0 ((uX10 cs adm qm Fm Am Bm Dm) ++ ((uX8 cs (qm 3) qms Fms Ams Bms Dms) ++ ((uX3 cs (qms 0) qmh Fmh Amh Bmh Dmh) ++ ((uX2 cs (qm 11) qmv Fmv Amv Bmv Dmv) ++ (uX7 cs (qm 20) qr0 Fr0 Ar0 Br0 Dr0))))) → va_S A0 s.heap H locs → lv_has ls 5 [(0, .ref adm), (1, .int a1), (2, .int 0), (3, .int a3)] → W p l e (rmk 3 0 0) s m args below meth c H locs 0 0 (MQ below ((QDi G (fun (r : Int32) (u : Int32 × Int32 × Int64) => ((-1 : Int) ≤ u.2.1.toInt ∧ u.2.1.toInt ≤ 6) ∧ (True)) (fun u : Int32 × Int32 × Int64 => ((uX10 cs adm qm Fm Am Bm Dm) ++ ((uX8 cs (qm 3) qms Fms Ams Bms Dms) ++ ((uX3 cs (qms 0) qmh Fmh Amh Bmh Dmh) ++ ((wX2 cs (qm 11) qmv (upd (upd Fmv 1 u.1) 2 u.2.1) Amv Bmv u.2.2) ++ (uX7 cs (qm 20) qr0 Fr0 Ar0 Br0 Dr0))))))) A0) args s 0 0 A0) (F0 m 23 ls [.int 0, .ref adm]) := by
    intro H locs ls hP hD hS hl
    refine lv_iconst (v := 0) hx hb dX10_drawn_23 (by decide) ?_
    exact B24 0 H locs ls (by decide) hP hD hS (lv_sub hl [0, 1, 2, 3] rfl)
  refine lv_if_eq (tgt := 23) hx hb dX10_drawn_7 (by decide) (fun c2 => ?_) (fun c2 => ?_)
  · have zc2 := eqK rfl (show (0 : Int32).toInt = 0 by decide) c2
    exact B23 H locs ls hP hD hS (lv_sub hl [0, 1, 2, 3] rfl)
  · have zc2 := neK rfl (show (0 : Int32).toInt = 0 by decide) c2
    refine lv_iload_n hx hb dX10_drawn_10 rfl (lv_at hl 3 rfl) ?_
    refine lv_if_lt (tgt := 23) hx hb dX10_drawn_11 (by decide) (fun c3 => ?_) (fun c3 => ?_)
    · have zc3 := ltK rfl (show (0 : Int32).toInt = 0 by decide) c3
      exact B23 H locs ls hP hD hS (lv_sub hl [0, 1, 2, 3] rfl)
    · have zc3 := nltK rfl (show (0 : Int32).toInt = 0 by decide) c3
      refine lv_iload_n hx hb dX10_drawn_14 rfl (lv_at hl 3 rfl) ?_
      refine lv_iconst (v := 1) hx hb dX10_drawn_15 (by decide) ?_
      refine lv_icmp_gt (tgt := 23) hx hb dX10_drawn_16 (by decide) (fun c4 => ?_) (fun c4 => ?_)
      · have zc4 := ltK (show (1 : Int32).toInt = 1 by decide) rfl c4
        exact B23 H locs ls hP hD hS (lv_sub hl [0, 1, 2, 3] rfl)
      · have zc4 := nltK (show (1 : Int32).toInt = 1 by decide) rfl c4
        refine lv_iconst (v := 1) hx hb dX10_drawn_19 (by decide) ?_
        refine lv_goto (tgt := 24) hx hb dX10_drawn_20 (by decide) ?_
        exact B24 1 H locs ls (by decide) hP hD hS (lv_sub hl [0, 1, 2, 3] rfl)

set_option maxRecDepth 100000 in
set_option maxHeartbeats 16000000 in
theorem sX10_drawn_1 (l : Launch) (G : va_G) (cs : Nat → ClassId) (adm : Nat) (qm : Nat → Nat) (Fm : Nat → Int32) (Am : Nat → Nat → Int32) (Bm : Nat → Nat → Int64) (Dm : Int64) (hIm : IX10 Fm Am) (qms : Nat → Nat) (Fms : Nat → Int32) (Ams : Nat → Nat → Int32) (Bms : Nat → Nat → Int64) (Dms : Int64) (hIms : IX8 Fms Ams) (qmh : Nat → Nat) (Fmh : Nat → Int32) (Amh : Nat → Nat → Int32) (Bmh : Nat → Nat → Int64) (Dmh : Int64) (hImh : IX3 Fmh Amh) (qmv : Nat → Nat) (Fmv : Nat → Int32) (Amv : Nat → Nat → Int32) (Bmv : Nat → Nat → Int64) (Dmv : Int64) (hImv : IX2 Fmv Amv) (qr1 : Nat → Nat) (Fr1 : Nat → Int32) (Ar1 : Nat → Nat → Int32) (Br1 : Nat → Nat → Int64) (Dr1 : Int64) (hIr1 : IX7 Fr1 Ar1) (a1 : Int32) (a3 : Int32) : ∀ sz : Nat, Met l yX10_drawn (wk yX10_drawn cX10_drawn 5 (some .int)) (rmk 3 0 0) (PreD G (TY cs) [.ref adm, .int a1, .int 1, .int a3] ((uX10 cs adm qm Fm Am Bm Dm) ++ ((uX8 cs (qm 3) qms Fms Ams Bms Dms) ++ ((uX3 cs (qms 0) qmh Fmh Amh Bmh Dmh) ++ ((uX2 cs (qm 11) qmv Fmv Amv Bmv Dmv) ++ (uX7 cs (qm 21) qr1 Fr1 Ar1 Br1 Dr1))))) sz) ((QDi G (fun (r : Int32) (u : Int32 × Int32 × Int64) => ((-1 : Int) ≤ u.2.1.toInt ∧ u.2.1.toInt ≤ 6) ∧ (True)) (fun u : Int32 × Int32 × Int64 => ((uX10 cs adm qm Fm Am Bm Dm) ++ ((uX8 cs (qm 3) qms Fms Ams Bms Dms) ++ ((uX3 cs (qms 0) qmh Fmh Amh Bmh Dmh) ++ ((wX2 cs (qm 11) qmv (upd (upd Fmv 1 u.1) 2 u.2.1) Amv Bmv u.2.2) ++ (uX7 cs (qm 21) qr1 Fr1 Ar1 Br1 Dr1))))))) (va_A ((uX10 cs adm qm Fm Am Bm Dm) ++ ((uX8 cs (qm 3) qms Fms Ams Bms Dms) ++ ((uX3 cs (qms 0) qmh Fmh Amh Bmh Dmh) ++ ((uX2 cs (qm 11) qmv Fmv Amv Bmv Dmv) ++ (uX7 cs (qm 21) qr1 Fr1 Ar1 Br1 Dr1))))) sz)) 0 0 (va_A ((uX10 cs adm qm Fm Am Bm Dm) ++ ((uX8 cs (qm 3) qms Fms Ams Bms Dms) ++ ((uX3 cs (qms 0) qmh Fmh Amh Bmh Dmh) ++ ((uX2 cs (qm 11) qmv Fmv Amv Bmv Dmv) ++ (uX7 cs (qm 21) qr1 Fr1 Ar1 Br1 Dr1))))) sz) := by
  refine mkD (Qc := (QDi G (fun (r : Int32) (u : Int32 × Int32 × Int64) => ((-1 : Int) ≤ u.2.1.toInt ∧ u.2.1.toInt ≤ 6) ∧ (True)) (fun u : Int32 × Int32 × Int64 => ((uX10 cs adm qm Fm Am Bm Dm) ++ ((uX8 cs (qm 3) qms Fms Ams Bms Dms) ++ ((uX3 cs (qms 0) qmh Fmh Amh Bmh Dmh) ++ ((wX2 cs (qm 11) qmv (upd (upd Fmv 1 u.1) 2 u.2.1) Amv Bmv u.2.2) ++ (uX7 cs (qm 21) qr1 Fr1 Ar1 Br1 Dr1)))))))) (by decide) (by simp [lg_sl, Value.category]) ?_
  intro p e s m args below meth c ls A0 hx hb hml hr hlk hown hmn ht hK hP hD hS hA hl
  have hl : lv_has ls 5 [(0, .ref adm), (1, .int a1), (2, .int 1), (3, .int a3)] := hl
  refine lv_aload_n hx hb dX10_drawn_0 rfl (lv_at hl 0 rfl) ?_
  refine lv_iload_n hx hb dX10_drawn_1 rfl (lv_at hl 2 rfl) ?_
  refine lv_aload_n hx hb dX10_drawn_2 rfl (lv_at hl 0 rfl) ?_
  refine lv_iload_n hx hb dX10_drawn_3 rfl (lv_at hl 1 rfl) ?_
  refine behR (runVP (As := [.int a1]) (rest := [.int 1, .ref adm]) ⟨hx, hb, hml, hown, ht⟩ (sX10_isSeed l G cs adm qm Fm Am Bm Dm hIm a1 ) okV_RX10_308 ⟨by decide, by decide⟩ hK hP [0, 1, 2] rfl 0 rfl rfl hl.1 rfl (Nat.le_of_ble_eq_true rfl) dX10_drawn_4 ⟨by decide, by decide⟩) hP hS hA (fun r1 H locs hr1 hP hS => ?_)
  have hr1 : (r1.toInt = 1 ∧ 0 ≤ a1.toInt ∧ a1.toInt ≤ 2000000000) ∨ (r1.toInt = 0 ∧ (a1.toInt < 0 ∨ 2000000000 < a1.toInt)) := hr1
  have B24 : ∀ (s24_0 : Int32) (H : Heap) (locs : List Loc) (ls : Array Slot), (0 : Int) ≤ s24_0.toInt ∧ s24_0.toInt ≤ 1 → va_P G vwCl ((uX10 cs adm qm Fm Am Bm Dm) ++ ((uX8 cs (qm 3) qms Fms Ams Bms Dms) ++ ((uX3 cs (qms 0) qmh Fmh Amh Bmh Dmh) ++ ((uX2 cs (qm 11) qmv Fmv Amv Bmv Dmv) ++ (uX7 cs (qm 21) qr1 Fr1 Ar1 Br1 Dr1))))) H → va_D A0 ((uX10 cs adm qm Fm Am Bm Dm) ++ ((uX8 cs (qm 3) qms Fms Ams Bms Dms) ++ ((uX3 cs (qms 0) qmh Fmh Amh Bmh Dmh) ++ ((uX2 cs (qm 11) qmv Fmv Amv Bmv Dmv) ++ (uX7 cs (qm 21) qr1 Fr1 Ar1 Br1 Dr1))))) → va_S A0 s.heap H locs → lv_has ls 5 [(0, .ref adm), (1, .int a1), (2, .int 1), (3, .int a3)] → W p l e (rmk 3 0 0) s m args below meth c H locs 0 0 (MQ below ((QDi G (fun (r : Int32) (u : Int32 × Int32 × Int64) => ((-1 : Int) ≤ u.2.1.toInt ∧ u.2.1.toInt ≤ 6) ∧ (True)) (fun u : Int32 × Int32 × Int64 => ((uX10 cs adm qm Fm Am Bm Dm) ++ ((uX8 cs (qm 3) qms Fms Ams Bms Dms) ++ ((uX3 cs (qms 0) qmh Fmh Amh Bmh Dmh) ++ ((wX2 cs (qm 11) qmv (upd (upd Fmv 1 u.1) 2 u.2.1) Amv Bmv u.2.2) ++ (uX7 cs (qm 21) qr1 Fr1 Ar1 Br1 Dr1))))))) A0) args s 0 0 A0) (F0 m 24 ls [.int s24_0, .int 1, .ref adm]) := by
    intro s24_0 H locs ls hs24_0 hP hD hS hl
    refine behR (runVP (As := [.int 1, .int s24_0]) (rest := []) ⟨hx, hb, hml, hown, ht⟩ (sX10_askRound_1 l G cs adm qm Fm Am Bm Dm hIm qms Fms Ams Bms Dms hIms qmh Fmh Amh Bmh Dmh hImh qr1 Fr1 Ar1 Br1 Dr1 hIr1 s24_0 (by omega)) okV_RX10_186 ⟨by decide, by decide⟩ hK hP [0, 1, 2, 3, 4, 5, 6, 7, 8, 9, 10, 11, 12, 14, 15] rfl 0 rfl rfl hl.1 rfl (Nat.le_of_ble_eq_true rfl) dX10_drawn_24 ⟨by decide, by decide⟩) hP hS hA (fun r15001 H locs hr15001 hP hS => ?_)
    have kk15002 : (1 : Int32).toInt = 1 := by decide
    have hr15001 : ((r15001.toInt = 0 ∧ s24_0.toInt = 1) ∨ r15001.toInt = -2 ∨ r15001.toInt = -6) ∧ RWk r15001 0 (Br1 0) (-1) ((Fmh 5).toInt - 1) (Fr1 3).toInt := hr15001
    refine lv_istore (lv' := [(4, .int r15001), (0, .ref adm), (1, .int a1), (2, .int 1), (3, .int a3)]) hx hb dX10_drawn_27 hl (by decide) rfl (fun ls hl => ?_)
    refine lv_iload hx hb dX10_drawn_29 (lv_at hl 0 rfl) ?_
    refine lv_if_eq (tgt := 37) hx hb dX10_drawn_31 (by decide) (fun c15003 => ?_) (fun c15003 => ?_)
    · have zc15003 := eqK rfl (show (0 : Int32).toInt = 0 by decide) c15003
      refine lv_aload_n hx hb dX10_drawn_37 rfl (lv_at hl 1 rfl) ?_
      refine getF (v := .ref (qm 11)) hx hb ht hown hK hP iTX10 0 11 rfl rfl (by decide) fl_RX10_79 rfl dX10_drawn_38 ?_
      refine lv_aload_n hx hb dX10_drawn_41 rfl (lv_at hl 1 rfl) ?_
      refine getF (v := .ref (qm 3)) hx hb ht hown hK hP iTX10 0 3 rfl rfl (by decide) fl_RX10_31 rfl dX10_drawn_42 ?_
      refine getF (v := .ref (qms 0)) hx hb ht hown hK hP iTX8 3 0 rfl rfl (by decide) fl_RX10_98 rfl dX10_drawn_45 ?_
      refine lv_aload_n hx hb dX10_drawn_48 rfl (lv_at hl 1 rfl) ?_
      refine getF (v := .ref (qm 5)) hx hb ht hown hK hP iTX10 0 5 rfl rfl (by decide) fl_RX10_41 rfl dX10_drawn_49 ?_
      refine lv_iload_n hx hb dX10_drawn_52 rfl (lv_at hl 3 rfl) ?_
      refine va_aldq hx hb hK.1 hP 2 5 rfl rfl (show ¬ (_ ∨ _) by decide) dX10_drawn_53 ?_
      refine W.eq (g2 := F0 m 54 ls [.ref (qm 21), .ref (qms 0), .ref (qm 11)]) rfl ?_
      refine lv_iload_n hx hb dX10_drawn_54 rfl (lv_at hl 2 rfl) ?_
      refine lv_i2l hx hb dX10_drawn_55 rfl ?_
      have bb15004 := i32b a1
      refine lv_topl (fun v15005 ev15005 => ?_)
      have tv15005 : v15005.toInt = a1.toInt := by rw [ev15005]; exact Int32.toInt_toInt64 _
      refine behDw (wr := ((uX10 cs adm qm Fm Am Bm Dm) ++ (uX8 cs (qm 3) qms Fms Ams Bms Dms))) (runVD (As := [.ref (qms 0), .ref (qm 21), .long v15005]) (rest := []) ⟨hx, hb, hml, hown, ht⟩ (sX2_draw l G cs (qm 11) qmv Fmv Amv Bmv Dmv hImv (qms 0) qmh Fmh Amh Bmh Dmh hImh (qm 21) qr1 Fr1 Ar1 Br1 Dr1 hIr1 v15005 ) okV_RX10_311 ⟨by decide, by decide⟩ hK hP hD [13, 5, 6, 7, 8, 9, 10, 11, 12, 14, 15] rfl (by decide) rfl 13 rfl rfl hl.1 rfl (Nat.le_of_ble_eq_true rfl) dX10_drawn_56 ⟨(Nat.le_of_ble_eq_true rfl), (Nat.le_of_ble_eq_true rfl)⟩) hP hD hS hA [13, 5, 6, 7, 8, 9, 10, 11, 12, 14, 15] [0, 1, 2, 3, 4] rfl rfl (by decide) (by decide) (fun u H locs hu hP hD hS => ?_)
      obtain ⟨x15006, x15007, d15008⟩ := u
      obtain ⟨hbx15007, hr15009⟩ := hu
      have hbx15007 : (-1 : Int) ≤ x15007.toInt ∧ x15007.toInt ≤ 6 := hbx15007
      have hP : va_P G vwCl ((uX10 cs adm qm Fm Am Bm Dm) ++ ((uX8 cs (qm 3) qms Fms Ams Bms Dms) ++ ((uX3 cs (qms 0) qmh Fmh Amh Bmh Dmh) ++ ((uX2 cs (qm 11) qmv (upv 2 x15007 (upv 1 x15006 Fmv)) Amv Bmv d15008) ++ (uX7 cs (qm 21) qr1 Fr1 Ar1 Br1 Dr1))))) H := hP.sub [0, 1, 2, 3, 4, 6, 7, 8, 9, 10, 11, 12, 13, 5, 14, 15] rfl
      have hD : va_D A0 ((uX10 cs adm qm Fm Am Bm Dm) ++ ((uX8 cs (qm 3) qms Fms Ams Bms Dms) ++ ((uX3 cs (qms 0) qmh Fmh Amh Bmh Dmh) ++ ((uX2 cs (qm 11) qmv (upv 2 x15007 (upv 1 x15006 Fmv)) Amv Bmv d15008) ++ (uX7 cs (qm 21) qr1 Fr1 Ar1 Br1 Dr1))))) := hD.sub [0, 1, 2, 3, 4, 6, 7, 8, 9, 10, 11, 12, 13, 5, 14, 15] (by decide) rfl
      refine lv_iload_n hx hb dX10_drawn_59 rfl (lv_at hl 4 rfl) ?_
      refine lv_if_ne (tgt := 73) hx hb dX10_drawn_60 (by decide) (fun c15010 => ?_) (fun c15010 => ?_)
      · have zc15010 := neK rfl (show (0 : Int32).toInt = 0 by decide) c15010
        refine lv_aload_n hx hb dX10_drawn_73 rfl (lv_at hl 1 rfl) ?_
        refine getF (v := .ref (qm 11)) hx hb ht hown hK hP iTX10 0 11 rfl rfl (by decide) fl_RX10_79 rfl dX10_drawn_74 ?_
        refine getF (v := .int x15007) hx hb ht hown hK hP iTX2 13 2 rfl rfl (by decide) fl_RX10_318 rfl dX10_drawn_77 ?_
        exact retDi (x15006, x15007, d15008) hx hb hr hlk hP hD hS dX10_drawn_80 (⟨show (-1 : Int) ≤ x15007.toInt ∧ x15007.toInt ≤ 6 by omega, trivial⟩) (Nat.le_of_ble_eq_true rfl) (Nat.le_of_ble_eq_true rfl)
      · have zc15010 := eqK rfl (show (0 : Int32).toInt = 0 by decide) c15010
        refine lv_aload_n hx hb dX10_drawn_63 rfl (lv_at hl 1 rfl) ?_
        refine getF (v := .ref (qm 11)) hx hb ht hown hK hP iTX10 0 11 rfl rfl (by decide) fl_RX10_79 rfl dX10_drawn_64 ?_
        refine getF (v := .int x15006) hx hb ht hown hK hP iTX2 13 1 rfl rfl (by decide) fl_RX10_315 rfl dX10_drawn_67 ?_
        refine lv_goto (tgt := 80) hx hb dX10_drawn_70 (by decide) ?_
        exact retDi (x15006, x15007, d15008) hx hb hr hlk hP hD hS dX10_drawn_80 (⟨show (-1 : Int) ≤ x15007.toInt ∧ x15007.toInt ≤ 6 by omega, trivial⟩) (Nat.le_of_ble_eq_true rfl) (Nat.le_of_ble_eq_true rfl)
    · have zc15003 := neK rfl (show (0 : Int32).toInt = 0 by decide) c15003
      refine lv_iload hx hb dX10_drawn_34 (lv_at hl 0 rfl) ?_
      exact retDi ((Fmv 1), (Fmv 2), Dmv) hx hb hr hlk hP hD hS dX10_drawn_36 (⟨hImv.1 2, trivial⟩) (Nat.le_of_ble_eq_true rfl) (Nat.le_of_ble_eq_true rfl)
  have B23 : ∀ (H : Heap) (locs : List Loc) (ls : Array Slot), va_P G vwCl ((uX10 cs adm qm Fm Am Bm Dm) ++ ((uX8 cs (qm 3) qms Fms Ams Bms Dms) ++ ((uX3 cs (qms 0) qmh Fmh Amh Bmh Dmh) ++ ((uX2 cs (qm 11) qmv Fmv Amv Bmv Dmv) ++ (uX7 cs (qm 21) qr1 Fr1 Ar1 Br1 Dr1))))) H → va_D A0 ((uX10 cs adm qm Fm Am Bm Dm) ++ ((uX8 cs (qm 3) qms Fms Ams Bms Dms) ++ ((uX3 cs (qms 0) qmh Fmh Amh Bmh Dmh) ++ ((uX2 cs (qm 11) qmv Fmv Amv Bmv Dmv) ++ (uX7 cs (qm 21) qr1 Fr1 Ar1 Br1 Dr1))))) → va_S A0 s.heap H locs → lv_has ls 5 [(0, .ref adm), (1, .int a1), (2, .int 1), (3, .int a3)] → W p l e (rmk 3 0 0) s m args below meth c H locs 0 0 (MQ below ((QDi G (fun (r : Int32) (u : Int32 × Int32 × Int64) => ((-1 : Int) ≤ u.2.1.toInt ∧ u.2.1.toInt ≤ 6) ∧ (True)) (fun u : Int32 × Int32 × Int64 => ((uX10 cs adm qm Fm Am Bm Dm) ++ ((uX8 cs (qm 3) qms Fms Ams Bms Dms) ++ ((uX3 cs (qms 0) qmh Fmh Amh Bmh Dmh) ++ ((wX2 cs (qm 11) qmv (upd (upd Fmv 1 u.1) 2 u.2.1) Amv Bmv u.2.2) ++ (uX7 cs (qm 21) qr1 Fr1 Ar1 Br1 Dr1))))))) A0) args s 0 0 A0) (F0 m 23 ls [.int 1, .ref adm]) := by
    intro H locs ls hP hD hS hl
    refine lv_iconst (v := 0) hx hb dX10_drawn_23 (by decide) ?_
    exact B24 0 H locs ls (by decide) hP hD hS (lv_sub hl [0, 1, 2, 3] rfl)
  refine lv_if_eq (tgt := 23) hx hb dX10_drawn_7 (by decide) (fun c2 => ?_) (fun c2 => ?_)
  · have zc2 := eqK rfl (show (0 : Int32).toInt = 0 by decide) c2
    exact B23 H locs ls hP hD hS (lv_sub hl [0, 1, 2, 3] rfl)
  · have zc2 := neK rfl (show (0 : Int32).toInt = 0 by decide) c2
    refine lv_iload_n hx hb dX10_drawn_10 rfl (lv_at hl 3 rfl) ?_
    refine lv_if_lt (tgt := 23) hx hb dX10_drawn_11 (by decide) (fun c3 => ?_) (fun c3 => ?_)
    · have zc3 := ltK rfl (show (0 : Int32).toInt = 0 by decide) c3
      exact B23 H locs ls hP hD hS (lv_sub hl [0, 1, 2, 3] rfl)
    · have zc3 := nltK rfl (show (0 : Int32).toInt = 0 by decide) c3
      refine lv_iload_n hx hb dX10_drawn_14 rfl (lv_at hl 3 rfl) ?_
      refine lv_iconst (v := 1) hx hb dX10_drawn_15 (by decide) ?_
      refine lv_icmp_gt (tgt := 23) hx hb dX10_drawn_16 (by decide) (fun c4 => ?_) (fun c4 => ?_)
      · have zc4 := ltK (show (1 : Int32).toInt = 1 by decide) rfl c4
        exact B23 H locs ls hP hD hS (lv_sub hl [0, 1, 2, 3] rfl)
      · have zc4 := nltK (show (1 : Int32).toInt = 1 by decide) rfl c4
        refine lv_iconst (v := 1) hx hb dX10_drawn_19 (by decide) ?_
        refine lv_goto (tgt := 24) hx hb dX10_drawn_20 (by decide) ?_
        exact B24 1 H locs ls (by decide) hP hD hS (lv_sub hl [0, 1, 2, 3] rfl)

set_option maxRecDepth 100000 in
set_option maxHeartbeats 16000000 in
theorem sX10_drawn_2 (l : Launch) (G : va_G) (cs : Nat → ClassId) (adm : Nat) (qm : Nat → Nat) (Fm : Nat → Int32) (Am : Nat → Nat → Int32) (Bm : Nat → Nat → Int64) (Dm : Int64) (hIm : IX10 Fm Am) (qms : Nat → Nat) (Fms : Nat → Int32) (Ams : Nat → Nat → Int32) (Bms : Nat → Nat → Int64) (Dms : Int64) (hIms : IX8 Fms Ams) (qmh : Nat → Nat) (Fmh : Nat → Int32) (Amh : Nat → Nat → Int32) (Bmh : Nat → Nat → Int64) (Dmh : Int64) (hImh : IX3 Fmh Amh) (qmv : Nat → Nat) (Fmv : Nat → Int32) (Amv : Nat → Nat → Int32) (Bmv : Nat → Nat → Int64) (Dmv : Int64) (hImv : IX2 Fmv Amv) (qr2 : Nat → Nat) (Fr2 : Nat → Int32) (Ar2 : Nat → Nat → Int32) (Br2 : Nat → Nat → Int64) (Dr2 : Int64) (hIr2 : IX7 Fr2 Ar2) (a1 : Int32) (a3 : Int32) : ∀ sz : Nat, Met l yX10_drawn (wk yX10_drawn cX10_drawn 5 (some .int)) (rmk 3 0 0) (PreD G (TY cs) [.ref adm, .int a1, .int 2, .int a3] ((uX10 cs adm qm Fm Am Bm Dm) ++ ((uX8 cs (qm 3) qms Fms Ams Bms Dms) ++ ((uX3 cs (qms 0) qmh Fmh Amh Bmh Dmh) ++ ((uX2 cs (qm 11) qmv Fmv Amv Bmv Dmv) ++ (uX7 cs (qm 22) qr2 Fr2 Ar2 Br2 Dr2))))) sz) ((QDi G (fun (r : Int32) (u : Int32 × Int32 × Int64) => ((-1 : Int) ≤ u.2.1.toInt ∧ u.2.1.toInt ≤ 6) ∧ (True)) (fun u : Int32 × Int32 × Int64 => ((uX10 cs adm qm Fm Am Bm Dm) ++ ((uX8 cs (qm 3) qms Fms Ams Bms Dms) ++ ((uX3 cs (qms 0) qmh Fmh Amh Bmh Dmh) ++ ((wX2 cs (qm 11) qmv (upd (upd Fmv 1 u.1) 2 u.2.1) Amv Bmv u.2.2) ++ (uX7 cs (qm 22) qr2 Fr2 Ar2 Br2 Dr2))))))) (va_A ((uX10 cs adm qm Fm Am Bm Dm) ++ ((uX8 cs (qm 3) qms Fms Ams Bms Dms) ++ ((uX3 cs (qms 0) qmh Fmh Amh Bmh Dmh) ++ ((uX2 cs (qm 11) qmv Fmv Amv Bmv Dmv) ++ (uX7 cs (qm 22) qr2 Fr2 Ar2 Br2 Dr2))))) sz)) 0 0 (va_A ((uX10 cs adm qm Fm Am Bm Dm) ++ ((uX8 cs (qm 3) qms Fms Ams Bms Dms) ++ ((uX3 cs (qms 0) qmh Fmh Amh Bmh Dmh) ++ ((uX2 cs (qm 11) qmv Fmv Amv Bmv Dmv) ++ (uX7 cs (qm 22) qr2 Fr2 Ar2 Br2 Dr2))))) sz) := by
  refine mkD (Qc := (QDi G (fun (r : Int32) (u : Int32 × Int32 × Int64) => ((-1 : Int) ≤ u.2.1.toInt ∧ u.2.1.toInt ≤ 6) ∧ (True)) (fun u : Int32 × Int32 × Int64 => ((uX10 cs adm qm Fm Am Bm Dm) ++ ((uX8 cs (qm 3) qms Fms Ams Bms Dms) ++ ((uX3 cs (qms 0) qmh Fmh Amh Bmh Dmh) ++ ((wX2 cs (qm 11) qmv (upd (upd Fmv 1 u.1) 2 u.2.1) Amv Bmv u.2.2) ++ (uX7 cs (qm 22) qr2 Fr2 Ar2 Br2 Dr2)))))))) (by decide) (by simp [lg_sl, Value.category]) ?_
  intro p e s m args below meth c ls A0 hx hb hml hr hlk hown hmn ht hK hP hD hS hA hl
  have hl : lv_has ls 5 [(0, .ref adm), (1, .int a1), (2, .int 2), (3, .int a3)] := hl
  refine lv_aload_n hx hb dX10_drawn_0 rfl (lv_at hl 0 rfl) ?_
  refine lv_iload_n hx hb dX10_drawn_1 rfl (lv_at hl 2 rfl) ?_
  refine lv_aload_n hx hb dX10_drawn_2 rfl (lv_at hl 0 rfl) ?_
  refine lv_iload_n hx hb dX10_drawn_3 rfl (lv_at hl 1 rfl) ?_
  refine behR (runVP (As := [.int a1]) (rest := [.int 2, .ref adm]) ⟨hx, hb, hml, hown, ht⟩ (sX10_isSeed l G cs adm qm Fm Am Bm Dm hIm a1 ) okV_RX10_308 ⟨by decide, by decide⟩ hK hP [0, 1, 2] rfl 0 rfl rfl hl.1 rfl (Nat.le_of_ble_eq_true rfl) dX10_drawn_4 ⟨by decide, by decide⟩) hP hS hA (fun r1 H locs hr1 hP hS => ?_)
  have hr1 : (r1.toInt = 1 ∧ 0 ≤ a1.toInt ∧ a1.toInt ≤ 2000000000) ∨ (r1.toInt = 0 ∧ (a1.toInt < 0 ∨ 2000000000 < a1.toInt)) := hr1
  have B24 : ∀ (s24_0 : Int32) (H : Heap) (locs : List Loc) (ls : Array Slot), (0 : Int) ≤ s24_0.toInt ∧ s24_0.toInt ≤ 1 → va_P G vwCl ((uX10 cs adm qm Fm Am Bm Dm) ++ ((uX8 cs (qm 3) qms Fms Ams Bms Dms) ++ ((uX3 cs (qms 0) qmh Fmh Amh Bmh Dmh) ++ ((uX2 cs (qm 11) qmv Fmv Amv Bmv Dmv) ++ (uX7 cs (qm 22) qr2 Fr2 Ar2 Br2 Dr2))))) H → va_D A0 ((uX10 cs adm qm Fm Am Bm Dm) ++ ((uX8 cs (qm 3) qms Fms Ams Bms Dms) ++ ((uX3 cs (qms 0) qmh Fmh Amh Bmh Dmh) ++ ((uX2 cs (qm 11) qmv Fmv Amv Bmv Dmv) ++ (uX7 cs (qm 22) qr2 Fr2 Ar2 Br2 Dr2))))) → va_S A0 s.heap H locs → lv_has ls 5 [(0, .ref adm), (1, .int a1), (2, .int 2), (3, .int a3)] → W p l e (rmk 3 0 0) s m args below meth c H locs 0 0 (MQ below ((QDi G (fun (r : Int32) (u : Int32 × Int32 × Int64) => ((-1 : Int) ≤ u.2.1.toInt ∧ u.2.1.toInt ≤ 6) ∧ (True)) (fun u : Int32 × Int32 × Int64 => ((uX10 cs adm qm Fm Am Bm Dm) ++ ((uX8 cs (qm 3) qms Fms Ams Bms Dms) ++ ((uX3 cs (qms 0) qmh Fmh Amh Bmh Dmh) ++ ((wX2 cs (qm 11) qmv (upd (upd Fmv 1 u.1) 2 u.2.1) Amv Bmv u.2.2) ++ (uX7 cs (qm 22) qr2 Fr2 Ar2 Br2 Dr2))))))) A0) args s 0 0 A0) (F0 m 24 ls [.int s24_0, .int 2, .ref adm]) := by
    intro s24_0 H locs ls hs24_0 hP hD hS hl
    refine behR (runVP (As := [.int 2, .int s24_0]) (rest := []) ⟨hx, hb, hml, hown, ht⟩ (sX10_askRound_2 l G cs adm qm Fm Am Bm Dm hIm qms Fms Ams Bms Dms hIms qmh Fmh Amh Bmh Dmh hImh qr2 Fr2 Ar2 Br2 Dr2 hIr2 s24_0 (by omega)) okV_RX10_186 ⟨by decide, by decide⟩ hK hP [0, 1, 2, 3, 4, 5, 6, 7, 8, 9, 10, 11, 12, 14, 15] rfl 0 rfl rfl hl.1 rfl (Nat.le_of_ble_eq_true rfl) dX10_drawn_24 ⟨by decide, by decide⟩) hP hS hA (fun r15001 H locs hr15001 hP hS => ?_)
    have kk15002 : (2 : Int32).toInt = 2 := by decide
    have hr15001 : ((r15001.toInt = 0 ∧ s24_0.toInt = 1) ∨ r15001.toInt = -2 ∨ r15001.toInt = -6) ∧ RWk r15001 0 (Br2 0) (-1) ((Fmh 5).toInt - 1) (Fr2 3).toInt := hr15001
    refine lv_istore (lv' := [(4, .int r15001), (0, .ref adm), (1, .int a1), (2, .int 2), (3, .int a3)]) hx hb dX10_drawn_27 hl (by decide) rfl (fun ls hl => ?_)
    refine lv_iload hx hb dX10_drawn_29 (lv_at hl 0 rfl) ?_
    refine lv_if_eq (tgt := 37) hx hb dX10_drawn_31 (by decide) (fun c15003 => ?_) (fun c15003 => ?_)
    · have zc15003 := eqK rfl (show (0 : Int32).toInt = 0 by decide) c15003
      refine lv_aload_n hx hb dX10_drawn_37 rfl (lv_at hl 1 rfl) ?_
      refine getF (v := .ref (qm 11)) hx hb ht hown hK hP iTX10 0 11 rfl rfl (by decide) fl_RX10_79 rfl dX10_drawn_38 ?_
      refine lv_aload_n hx hb dX10_drawn_41 rfl (lv_at hl 1 rfl) ?_
      refine getF (v := .ref (qm 3)) hx hb ht hown hK hP iTX10 0 3 rfl rfl (by decide) fl_RX10_31 rfl dX10_drawn_42 ?_
      refine getF (v := .ref (qms 0)) hx hb ht hown hK hP iTX8 3 0 rfl rfl (by decide) fl_RX10_98 rfl dX10_drawn_45 ?_
      refine lv_aload_n hx hb dX10_drawn_48 rfl (lv_at hl 1 rfl) ?_
      refine getF (v := .ref (qm 5)) hx hb ht hown hK hP iTX10 0 5 rfl rfl (by decide) fl_RX10_41 rfl dX10_drawn_49 ?_
      refine lv_iload_n hx hb dX10_drawn_52 rfl (lv_at hl 3 rfl) ?_
      refine va_aldq hx hb hK.1 hP 2 5 rfl rfl (show ¬ (_ ∨ _) by decide) dX10_drawn_53 ?_
      refine W.eq (g2 := F0 m 54 ls [.ref (qm 22), .ref (qms 0), .ref (qm 11)]) rfl ?_
      refine lv_iload_n hx hb dX10_drawn_54 rfl (lv_at hl 2 rfl) ?_
      refine lv_i2l hx hb dX10_drawn_55 rfl ?_
      have bb15004 := i32b a1
      refine lv_topl (fun v15005 ev15005 => ?_)
      have tv15005 : v15005.toInt = a1.toInt := by rw [ev15005]; exact Int32.toInt_toInt64 _
      refine behDw (wr := ((uX10 cs adm qm Fm Am Bm Dm) ++ (uX8 cs (qm 3) qms Fms Ams Bms Dms))) (runVD (As := [.ref (qms 0), .ref (qm 22), .long v15005]) (rest := []) ⟨hx, hb, hml, hown, ht⟩ (sX2_draw l G cs (qm 11) qmv Fmv Amv Bmv Dmv hImv (qms 0) qmh Fmh Amh Bmh Dmh hImh (qm 22) qr2 Fr2 Ar2 Br2 Dr2 hIr2 v15005 ) okV_RX10_311 ⟨by decide, by decide⟩ hK hP hD [13, 5, 6, 7, 8, 9, 10, 11, 12, 14, 15] rfl (by decide) rfl 13 rfl rfl hl.1 rfl (Nat.le_of_ble_eq_true rfl) dX10_drawn_56 ⟨(Nat.le_of_ble_eq_true rfl), (Nat.le_of_ble_eq_true rfl)⟩) hP hD hS hA [13, 5, 6, 7, 8, 9, 10, 11, 12, 14, 15] [0, 1, 2, 3, 4] rfl rfl (by decide) (by decide) (fun u H locs hu hP hD hS => ?_)
      obtain ⟨x15006, x15007, d15008⟩ := u
      obtain ⟨hbx15007, hr15009⟩ := hu
      have hbx15007 : (-1 : Int) ≤ x15007.toInt ∧ x15007.toInt ≤ 6 := hbx15007
      have hP : va_P G vwCl ((uX10 cs adm qm Fm Am Bm Dm) ++ ((uX8 cs (qm 3) qms Fms Ams Bms Dms) ++ ((uX3 cs (qms 0) qmh Fmh Amh Bmh Dmh) ++ ((uX2 cs (qm 11) qmv (upv 2 x15007 (upv 1 x15006 Fmv)) Amv Bmv d15008) ++ (uX7 cs (qm 22) qr2 Fr2 Ar2 Br2 Dr2))))) H := hP.sub [0, 1, 2, 3, 4, 6, 7, 8, 9, 10, 11, 12, 13, 5, 14, 15] rfl
      have hD : va_D A0 ((uX10 cs adm qm Fm Am Bm Dm) ++ ((uX8 cs (qm 3) qms Fms Ams Bms Dms) ++ ((uX3 cs (qms 0) qmh Fmh Amh Bmh Dmh) ++ ((uX2 cs (qm 11) qmv (upv 2 x15007 (upv 1 x15006 Fmv)) Amv Bmv d15008) ++ (uX7 cs (qm 22) qr2 Fr2 Ar2 Br2 Dr2))))) := hD.sub [0, 1, 2, 3, 4, 6, 7, 8, 9, 10, 11, 12, 13, 5, 14, 15] (by decide) rfl
      refine lv_iload_n hx hb dX10_drawn_59 rfl (lv_at hl 4 rfl) ?_
      refine lv_if_ne (tgt := 73) hx hb dX10_drawn_60 (by decide) (fun c15010 => ?_) (fun c15010 => ?_)
      · have zc15010 := neK rfl (show (0 : Int32).toInt = 0 by decide) c15010
        refine lv_aload_n hx hb dX10_drawn_73 rfl (lv_at hl 1 rfl) ?_
        refine getF (v := .ref (qm 11)) hx hb ht hown hK hP iTX10 0 11 rfl rfl (by decide) fl_RX10_79 rfl dX10_drawn_74 ?_
        refine getF (v := .int x15007) hx hb ht hown hK hP iTX2 13 2 rfl rfl (by decide) fl_RX10_318 rfl dX10_drawn_77 ?_
        exact retDi (x15006, x15007, d15008) hx hb hr hlk hP hD hS dX10_drawn_80 (⟨show (-1 : Int) ≤ x15007.toInt ∧ x15007.toInt ≤ 6 by omega, trivial⟩) (Nat.le_of_ble_eq_true rfl) (Nat.le_of_ble_eq_true rfl)
      · have zc15010 := eqK rfl (show (0 : Int32).toInt = 0 by decide) c15010
        refine lv_aload_n hx hb dX10_drawn_63 rfl (lv_at hl 1 rfl) ?_
        refine getF (v := .ref (qm 11)) hx hb ht hown hK hP iTX10 0 11 rfl rfl (by decide) fl_RX10_79 rfl dX10_drawn_64 ?_
        refine getF (v := .int x15006) hx hb ht hown hK hP iTX2 13 1 rfl rfl (by decide) fl_RX10_315 rfl dX10_drawn_67 ?_
        refine lv_goto (tgt := 80) hx hb dX10_drawn_70 (by decide) ?_
        exact retDi (x15006, x15007, d15008) hx hb hr hlk hP hD hS dX10_drawn_80 (⟨show (-1 : Int) ≤ x15007.toInt ∧ x15007.toInt ≤ 6 by omega, trivial⟩) (Nat.le_of_ble_eq_true rfl) (Nat.le_of_ble_eq_true rfl)
    · have zc15003 := neK rfl (show (0 : Int32).toInt = 0 by decide) c15003
      refine lv_iload hx hb dX10_drawn_34 (lv_at hl 0 rfl) ?_
      exact retDi ((Fmv 1), (Fmv 2), Dmv) hx hb hr hlk hP hD hS dX10_drawn_36 (⟨hImv.1 2, trivial⟩) (Nat.le_of_ble_eq_true rfl) (Nat.le_of_ble_eq_true rfl)
  have B23 : ∀ (H : Heap) (locs : List Loc) (ls : Array Slot), va_P G vwCl ((uX10 cs adm qm Fm Am Bm Dm) ++ ((uX8 cs (qm 3) qms Fms Ams Bms Dms) ++ ((uX3 cs (qms 0) qmh Fmh Amh Bmh Dmh) ++ ((uX2 cs (qm 11) qmv Fmv Amv Bmv Dmv) ++ (uX7 cs (qm 22) qr2 Fr2 Ar2 Br2 Dr2))))) H → va_D A0 ((uX10 cs adm qm Fm Am Bm Dm) ++ ((uX8 cs (qm 3) qms Fms Ams Bms Dms) ++ ((uX3 cs (qms 0) qmh Fmh Amh Bmh Dmh) ++ ((uX2 cs (qm 11) qmv Fmv Amv Bmv Dmv) ++ (uX7 cs (qm 22) qr2 Fr2 Ar2 Br2 Dr2))))) → va_S A0 s.heap H locs → lv_has ls 5 [(0, .ref adm), (1, .int a1), (2, .int 2), (3, .int a3)] → W p l e (rmk 3 0 0) s m args below meth c H locs 0 0 (MQ below ((QDi G (fun (r : Int32) (u : Int32 × Int32 × Int64) => ((-1 : Int) ≤ u.2.1.toInt ∧ u.2.1.toInt ≤ 6) ∧ (True)) (fun u : Int32 × Int32 × Int64 => ((uX10 cs adm qm Fm Am Bm Dm) ++ ((uX8 cs (qm 3) qms Fms Ams Bms Dms) ++ ((uX3 cs (qms 0) qmh Fmh Amh Bmh Dmh) ++ ((wX2 cs (qm 11) qmv (upd (upd Fmv 1 u.1) 2 u.2.1) Amv Bmv u.2.2) ++ (uX7 cs (qm 22) qr2 Fr2 Ar2 Br2 Dr2))))))) A0) args s 0 0 A0) (F0 m 23 ls [.int 2, .ref adm]) := by
    intro H locs ls hP hD hS hl
    refine lv_iconst (v := 0) hx hb dX10_drawn_23 (by decide) ?_
    exact B24 0 H locs ls (by decide) hP hD hS (lv_sub hl [0, 1, 2, 3] rfl)
  refine lv_if_eq (tgt := 23) hx hb dX10_drawn_7 (by decide) (fun c2 => ?_) (fun c2 => ?_)
  · have zc2 := eqK rfl (show (0 : Int32).toInt = 0 by decide) c2
    exact B23 H locs ls hP hD hS (lv_sub hl [0, 1, 2, 3] rfl)
  · have zc2 := neK rfl (show (0 : Int32).toInt = 0 by decide) c2
    refine lv_iload_n hx hb dX10_drawn_10 rfl (lv_at hl 3 rfl) ?_
    refine lv_if_lt (tgt := 23) hx hb dX10_drawn_11 (by decide) (fun c3 => ?_) (fun c3 => ?_)
    · have zc3 := ltK rfl (show (0 : Int32).toInt = 0 by decide) c3
      exact B23 H locs ls hP hD hS (lv_sub hl [0, 1, 2, 3] rfl)
    · have zc3 := nltK rfl (show (0 : Int32).toInt = 0 by decide) c3
      refine lv_iload_n hx hb dX10_drawn_14 rfl (lv_at hl 3 rfl) ?_
      refine lv_iconst (v := 1) hx hb dX10_drawn_15 (by decide) ?_
      refine lv_icmp_gt (tgt := 23) hx hb dX10_drawn_16 (by decide) (fun c4 => ?_) (fun c4 => ?_)
      · have zc4 := ltK (show (1 : Int32).toInt = 1 by decide) rfl c4
        exact B23 H locs ls hP hD hS (lv_sub hl [0, 1, 2, 3] rfl)
      · have zc4 := nltK (show (1 : Int32).toInt = 1 by decide) rfl c4
        refine lv_iconst (v := 1) hx hb dX10_drawn_19 (by decide) ?_
        refine lv_goto (tgt := 24) hx hb dX10_drawn_20 (by decide) ?_
        exact B24 1 H locs ls (by decide) hP hD hS (lv_sub hl [0, 1, 2, 3] rfl)

set_option maxRecDepth 100000 in
set_option maxHeartbeats 16000000 in
theorem sX10_drawn_3 (l : Launch) (G : va_G) (cs : Nat → ClassId) (adm : Nat) (qm : Nat → Nat) (Fm : Nat → Int32) (Am : Nat → Nat → Int32) (Bm : Nat → Nat → Int64) (Dm : Int64) (hIm : IX10 Fm Am) (qms : Nat → Nat) (Fms : Nat → Int32) (Ams : Nat → Nat → Int32) (Bms : Nat → Nat → Int64) (Dms : Int64) (hIms : IX8 Fms Ams) (qmh : Nat → Nat) (Fmh : Nat → Int32) (Amh : Nat → Nat → Int32) (Bmh : Nat → Nat → Int64) (Dmh : Int64) (hImh : IX3 Fmh Amh) (qmv : Nat → Nat) (Fmv : Nat → Int32) (Amv : Nat → Nat → Int32) (Bmv : Nat → Nat → Int64) (Dmv : Int64) (hImv : IX2 Fmv Amv) (qr3 : Nat → Nat) (Fr3 : Nat → Int32) (Ar3 : Nat → Nat → Int32) (Br3 : Nat → Nat → Int64) (Dr3 : Int64) (hIr3 : IX7 Fr3 Ar3) (a1 : Int32) (a3 : Int32) : ∀ sz : Nat, Met l yX10_drawn (wk yX10_drawn cX10_drawn 5 (some .int)) (rmk 3 0 0) (PreD G (TY cs) [.ref adm, .int a1, .int 3, .int a3] ((uX10 cs adm qm Fm Am Bm Dm) ++ ((uX8 cs (qm 3) qms Fms Ams Bms Dms) ++ ((uX3 cs (qms 0) qmh Fmh Amh Bmh Dmh) ++ ((uX2 cs (qm 11) qmv Fmv Amv Bmv Dmv) ++ (uX7 cs (qm 23) qr3 Fr3 Ar3 Br3 Dr3))))) sz) ((QDi G (fun (r : Int32) (u : Int32 × Int32 × Int64) => ((-1 : Int) ≤ u.2.1.toInt ∧ u.2.1.toInt ≤ 6) ∧ (True)) (fun u : Int32 × Int32 × Int64 => ((uX10 cs adm qm Fm Am Bm Dm) ++ ((uX8 cs (qm 3) qms Fms Ams Bms Dms) ++ ((uX3 cs (qms 0) qmh Fmh Amh Bmh Dmh) ++ ((wX2 cs (qm 11) qmv (upd (upd Fmv 1 u.1) 2 u.2.1) Amv Bmv u.2.2) ++ (uX7 cs (qm 23) qr3 Fr3 Ar3 Br3 Dr3))))))) (va_A ((uX10 cs adm qm Fm Am Bm Dm) ++ ((uX8 cs (qm 3) qms Fms Ams Bms Dms) ++ ((uX3 cs (qms 0) qmh Fmh Amh Bmh Dmh) ++ ((uX2 cs (qm 11) qmv Fmv Amv Bmv Dmv) ++ (uX7 cs (qm 23) qr3 Fr3 Ar3 Br3 Dr3))))) sz)) 0 0 (va_A ((uX10 cs adm qm Fm Am Bm Dm) ++ ((uX8 cs (qm 3) qms Fms Ams Bms Dms) ++ ((uX3 cs (qms 0) qmh Fmh Amh Bmh Dmh) ++ ((uX2 cs (qm 11) qmv Fmv Amv Bmv Dmv) ++ (uX7 cs (qm 23) qr3 Fr3 Ar3 Br3 Dr3))))) sz) := by
  refine mkD (Qc := (QDi G (fun (r : Int32) (u : Int32 × Int32 × Int64) => ((-1 : Int) ≤ u.2.1.toInt ∧ u.2.1.toInt ≤ 6) ∧ (True)) (fun u : Int32 × Int32 × Int64 => ((uX10 cs adm qm Fm Am Bm Dm) ++ ((uX8 cs (qm 3) qms Fms Ams Bms Dms) ++ ((uX3 cs (qms 0) qmh Fmh Amh Bmh Dmh) ++ ((wX2 cs (qm 11) qmv (upd (upd Fmv 1 u.1) 2 u.2.1) Amv Bmv u.2.2) ++ (uX7 cs (qm 23) qr3 Fr3 Ar3 Br3 Dr3)))))))) (by decide) (by simp [lg_sl, Value.category]) ?_
  intro p e s m args below meth c ls A0 hx hb hml hr hlk hown hmn ht hK hP hD hS hA hl
  have hl : lv_has ls 5 [(0, .ref adm), (1, .int a1), (2, .int 3), (3, .int a3)] := hl
  refine lv_aload_n hx hb dX10_drawn_0 rfl (lv_at hl 0 rfl) ?_
  refine lv_iload_n hx hb dX10_drawn_1 rfl (lv_at hl 2 rfl) ?_
  refine lv_aload_n hx hb dX10_drawn_2 rfl (lv_at hl 0 rfl) ?_
  refine lv_iload_n hx hb dX10_drawn_3 rfl (lv_at hl 1 rfl) ?_
  refine behR (runVP (As := [.int a1]) (rest := [.int 3, .ref adm]) ⟨hx, hb, hml, hown, ht⟩ (sX10_isSeed l G cs adm qm Fm Am Bm Dm hIm a1 ) okV_RX10_308 ⟨by decide, by decide⟩ hK hP [0, 1, 2] rfl 0 rfl rfl hl.1 rfl (Nat.le_of_ble_eq_true rfl) dX10_drawn_4 ⟨by decide, by decide⟩) hP hS hA (fun r1 H locs hr1 hP hS => ?_)
  have hr1 : (r1.toInt = 1 ∧ 0 ≤ a1.toInt ∧ a1.toInt ≤ 2000000000) ∨ (r1.toInt = 0 ∧ (a1.toInt < 0 ∨ 2000000000 < a1.toInt)) := hr1
  have B24 : ∀ (s24_0 : Int32) (H : Heap) (locs : List Loc) (ls : Array Slot), (0 : Int) ≤ s24_0.toInt ∧ s24_0.toInt ≤ 1 → va_P G vwCl ((uX10 cs adm qm Fm Am Bm Dm) ++ ((uX8 cs (qm 3) qms Fms Ams Bms Dms) ++ ((uX3 cs (qms 0) qmh Fmh Amh Bmh Dmh) ++ ((uX2 cs (qm 11) qmv Fmv Amv Bmv Dmv) ++ (uX7 cs (qm 23) qr3 Fr3 Ar3 Br3 Dr3))))) H → va_D A0 ((uX10 cs adm qm Fm Am Bm Dm) ++ ((uX8 cs (qm 3) qms Fms Ams Bms Dms) ++ ((uX3 cs (qms 0) qmh Fmh Amh Bmh Dmh) ++ ((uX2 cs (qm 11) qmv Fmv Amv Bmv Dmv) ++ (uX7 cs (qm 23) qr3 Fr3 Ar3 Br3 Dr3))))) → va_S A0 s.heap H locs → lv_has ls 5 [(0, .ref adm), (1, .int a1), (2, .int 3), (3, .int a3)] → W p l e (rmk 3 0 0) s m args below meth c H locs 0 0 (MQ below ((QDi G (fun (r : Int32) (u : Int32 × Int32 × Int64) => ((-1 : Int) ≤ u.2.1.toInt ∧ u.2.1.toInt ≤ 6) ∧ (True)) (fun u : Int32 × Int32 × Int64 => ((uX10 cs adm qm Fm Am Bm Dm) ++ ((uX8 cs (qm 3) qms Fms Ams Bms Dms) ++ ((uX3 cs (qms 0) qmh Fmh Amh Bmh Dmh) ++ ((wX2 cs (qm 11) qmv (upd (upd Fmv 1 u.1) 2 u.2.1) Amv Bmv u.2.2) ++ (uX7 cs (qm 23) qr3 Fr3 Ar3 Br3 Dr3))))))) A0) args s 0 0 A0) (F0 m 24 ls [.int s24_0, .int 3, .ref adm]) := by
    intro s24_0 H locs ls hs24_0 hP hD hS hl
    refine behR (runVP (As := [.int 3, .int s24_0]) (rest := []) ⟨hx, hb, hml, hown, ht⟩ (sX10_askRound_3 l G cs adm qm Fm Am Bm Dm hIm qms Fms Ams Bms Dms hIms qmh Fmh Amh Bmh Dmh hImh qr3 Fr3 Ar3 Br3 Dr3 hIr3 s24_0 (by omega)) okV_RX10_186 ⟨by decide, by decide⟩ hK hP [0, 1, 2, 3, 4, 5, 6, 7, 8, 9, 10, 11, 12, 14, 15] rfl 0 rfl rfl hl.1 rfl (Nat.le_of_ble_eq_true rfl) dX10_drawn_24 ⟨by decide, by decide⟩) hP hS hA (fun r15001 H locs hr15001 hP hS => ?_)
    have kk15002 : (3 : Int32).toInt = 3 := by decide
    have hr15001 : ((r15001.toInt = 0 ∧ s24_0.toInt = 1) ∨ r15001.toInt = -2 ∨ r15001.toInt = -6) ∧ RWk r15001 0 (Br3 0) (-1) ((Fmh 5).toInt - 1) (Fr3 3).toInt := hr15001
    refine lv_istore (lv' := [(4, .int r15001), (0, .ref adm), (1, .int a1), (2, .int 3), (3, .int a3)]) hx hb dX10_drawn_27 hl (by decide) rfl (fun ls hl => ?_)
    refine lv_iload hx hb dX10_drawn_29 (lv_at hl 0 rfl) ?_
    refine lv_if_eq (tgt := 37) hx hb dX10_drawn_31 (by decide) (fun c15003 => ?_) (fun c15003 => ?_)
    · have zc15003 := eqK rfl (show (0 : Int32).toInt = 0 by decide) c15003
      refine lv_aload_n hx hb dX10_drawn_37 rfl (lv_at hl 1 rfl) ?_
      refine getF (v := .ref (qm 11)) hx hb ht hown hK hP iTX10 0 11 rfl rfl (by decide) fl_RX10_79 rfl dX10_drawn_38 ?_
      refine lv_aload_n hx hb dX10_drawn_41 rfl (lv_at hl 1 rfl) ?_
      refine getF (v := .ref (qm 3)) hx hb ht hown hK hP iTX10 0 3 rfl rfl (by decide) fl_RX10_31 rfl dX10_drawn_42 ?_
      refine getF (v := .ref (qms 0)) hx hb ht hown hK hP iTX8 3 0 rfl rfl (by decide) fl_RX10_98 rfl dX10_drawn_45 ?_
      refine lv_aload_n hx hb dX10_drawn_48 rfl (lv_at hl 1 rfl) ?_
      refine getF (v := .ref (qm 5)) hx hb ht hown hK hP iTX10 0 5 rfl rfl (by decide) fl_RX10_41 rfl dX10_drawn_49 ?_
      refine lv_iload_n hx hb dX10_drawn_52 rfl (lv_at hl 3 rfl) ?_
      refine va_aldq hx hb hK.1 hP 2 5 rfl rfl (show ¬ (_ ∨ _) by decide) dX10_drawn_53 ?_
      refine W.eq (g2 := F0 m 54 ls [.ref (qm 23), .ref (qms 0), .ref (qm 11)]) rfl ?_
      refine lv_iload_n hx hb dX10_drawn_54 rfl (lv_at hl 2 rfl) ?_
      refine lv_i2l hx hb dX10_drawn_55 rfl ?_
      have bb15004 := i32b a1
      refine lv_topl (fun v15005 ev15005 => ?_)
      have tv15005 : v15005.toInt = a1.toInt := by rw [ev15005]; exact Int32.toInt_toInt64 _
      refine behDw (wr := ((uX10 cs adm qm Fm Am Bm Dm) ++ (uX8 cs (qm 3) qms Fms Ams Bms Dms))) (runVD (As := [.ref (qms 0), .ref (qm 23), .long v15005]) (rest := []) ⟨hx, hb, hml, hown, ht⟩ (sX2_draw l G cs (qm 11) qmv Fmv Amv Bmv Dmv hImv (qms 0) qmh Fmh Amh Bmh Dmh hImh (qm 23) qr3 Fr3 Ar3 Br3 Dr3 hIr3 v15005 ) okV_RX10_311 ⟨by decide, by decide⟩ hK hP hD [13, 5, 6, 7, 8, 9, 10, 11, 12, 14, 15] rfl (by decide) rfl 13 rfl rfl hl.1 rfl (Nat.le_of_ble_eq_true rfl) dX10_drawn_56 ⟨(Nat.le_of_ble_eq_true rfl), (Nat.le_of_ble_eq_true rfl)⟩) hP hD hS hA [13, 5, 6, 7, 8, 9, 10, 11, 12, 14, 15] [0, 1, 2, 3, 4] rfl rfl (by decide) (by decide) (fun u H locs hu hP hD hS => ?_)
      obtain ⟨x15006, x15007, d15008⟩ := u
      obtain ⟨hbx15007, hr15009⟩ := hu
      have hbx15007 : (-1 : Int) ≤ x15007.toInt ∧ x15007.toInt ≤ 6 := hbx15007
      have hP : va_P G vwCl ((uX10 cs adm qm Fm Am Bm Dm) ++ ((uX8 cs (qm 3) qms Fms Ams Bms Dms) ++ ((uX3 cs (qms 0) qmh Fmh Amh Bmh Dmh) ++ ((uX2 cs (qm 11) qmv (upv 2 x15007 (upv 1 x15006 Fmv)) Amv Bmv d15008) ++ (uX7 cs (qm 23) qr3 Fr3 Ar3 Br3 Dr3))))) H := hP.sub [0, 1, 2, 3, 4, 6, 7, 8, 9, 10, 11, 12, 13, 5, 14, 15] rfl
      have hD : va_D A0 ((uX10 cs adm qm Fm Am Bm Dm) ++ ((uX8 cs (qm 3) qms Fms Ams Bms Dms) ++ ((uX3 cs (qms 0) qmh Fmh Amh Bmh Dmh) ++ ((uX2 cs (qm 11) qmv (upv 2 x15007 (upv 1 x15006 Fmv)) Amv Bmv d15008) ++ (uX7 cs (qm 23) qr3 Fr3 Ar3 Br3 Dr3))))) := hD.sub [0, 1, 2, 3, 4, 6, 7, 8, 9, 10, 11, 12, 13, 5, 14, 15] (by decide) rfl
      refine lv_iload_n hx hb dX10_drawn_59 rfl (lv_at hl 4 rfl) ?_
      refine lv_if_ne (tgt := 73) hx hb dX10_drawn_60 (by decide) (fun c15010 => ?_) (fun c15010 => ?_)
      · have zc15010 := neK rfl (show (0 : Int32).toInt = 0 by decide) c15010
        refine lv_aload_n hx hb dX10_drawn_73 rfl (lv_at hl 1 rfl) ?_
        refine getF (v := .ref (qm 11)) hx hb ht hown hK hP iTX10 0 11 rfl rfl (by decide) fl_RX10_79 rfl dX10_drawn_74 ?_
        refine getF (v := .int x15007) hx hb ht hown hK hP iTX2 13 2 rfl rfl (by decide) fl_RX10_318 rfl dX10_drawn_77 ?_
        exact retDi (x15006, x15007, d15008) hx hb hr hlk hP hD hS dX10_drawn_80 (⟨show (-1 : Int) ≤ x15007.toInt ∧ x15007.toInt ≤ 6 by omega, trivial⟩) (Nat.le_of_ble_eq_true rfl) (Nat.le_of_ble_eq_true rfl)
      · have zc15010 := eqK rfl (show (0 : Int32).toInt = 0 by decide) c15010
        refine lv_aload_n hx hb dX10_drawn_63 rfl (lv_at hl 1 rfl) ?_
        refine getF (v := .ref (qm 11)) hx hb ht hown hK hP iTX10 0 11 rfl rfl (by decide) fl_RX10_79 rfl dX10_drawn_64 ?_
        refine getF (v := .int x15006) hx hb ht hown hK hP iTX2 13 1 rfl rfl (by decide) fl_RX10_315 rfl dX10_drawn_67 ?_
        refine lv_goto (tgt := 80) hx hb dX10_drawn_70 (by decide) ?_
        exact retDi (x15006, x15007, d15008) hx hb hr hlk hP hD hS dX10_drawn_80 (⟨show (-1 : Int) ≤ x15007.toInt ∧ x15007.toInt ≤ 6 by omega, trivial⟩) (Nat.le_of_ble_eq_true rfl) (Nat.le_of_ble_eq_true rfl)
    · have zc15003 := neK rfl (show (0 : Int32).toInt = 0 by decide) c15003
      refine lv_iload hx hb dX10_drawn_34 (lv_at hl 0 rfl) ?_
      exact retDi ((Fmv 1), (Fmv 2), Dmv) hx hb hr hlk hP hD hS dX10_drawn_36 (⟨hImv.1 2, trivial⟩) (Nat.le_of_ble_eq_true rfl) (Nat.le_of_ble_eq_true rfl)
  have B23 : ∀ (H : Heap) (locs : List Loc) (ls : Array Slot), va_P G vwCl ((uX10 cs adm qm Fm Am Bm Dm) ++ ((uX8 cs (qm 3) qms Fms Ams Bms Dms) ++ ((uX3 cs (qms 0) qmh Fmh Amh Bmh Dmh) ++ ((uX2 cs (qm 11) qmv Fmv Amv Bmv Dmv) ++ (uX7 cs (qm 23) qr3 Fr3 Ar3 Br3 Dr3))))) H → va_D A0 ((uX10 cs adm qm Fm Am Bm Dm) ++ ((uX8 cs (qm 3) qms Fms Ams Bms Dms) ++ ((uX3 cs (qms 0) qmh Fmh Amh Bmh Dmh) ++ ((uX2 cs (qm 11) qmv Fmv Amv Bmv Dmv) ++ (uX7 cs (qm 23) qr3 Fr3 Ar3 Br3 Dr3))))) → va_S A0 s.heap H locs → lv_has ls 5 [(0, .ref adm), (1, .int a1), (2, .int 3), (3, .int a3)] → W p l e (rmk 3 0 0) s m args below meth c H locs 0 0 (MQ below ((QDi G (fun (r : Int32) (u : Int32 × Int32 × Int64) => ((-1 : Int) ≤ u.2.1.toInt ∧ u.2.1.toInt ≤ 6) ∧ (True)) (fun u : Int32 × Int32 × Int64 => ((uX10 cs adm qm Fm Am Bm Dm) ++ ((uX8 cs (qm 3) qms Fms Ams Bms Dms) ++ ((uX3 cs (qms 0) qmh Fmh Amh Bmh Dmh) ++ ((wX2 cs (qm 11) qmv (upd (upd Fmv 1 u.1) 2 u.2.1) Amv Bmv u.2.2) ++ (uX7 cs (qm 23) qr3 Fr3 Ar3 Br3 Dr3))))))) A0) args s 0 0 A0) (F0 m 23 ls [.int 3, .ref adm]) := by
    intro H locs ls hP hD hS hl
    refine lv_iconst (v := 0) hx hb dX10_drawn_23 (by decide) ?_
    exact B24 0 H locs ls (by decide) hP hD hS (lv_sub hl [0, 1, 2, 3] rfl)
  refine lv_if_eq (tgt := 23) hx hb dX10_drawn_7 (by decide) (fun c2 => ?_) (fun c2 => ?_)
  · have zc2 := eqK rfl (show (0 : Int32).toInt = 0 by decide) c2
    exact B23 H locs ls hP hD hS (lv_sub hl [0, 1, 2, 3] rfl)
  · have zc2 := neK rfl (show (0 : Int32).toInt = 0 by decide) c2
    refine lv_iload_n hx hb dX10_drawn_10 rfl (lv_at hl 3 rfl) ?_
    refine lv_if_lt (tgt := 23) hx hb dX10_drawn_11 (by decide) (fun c3 => ?_) (fun c3 => ?_)
    · have zc3 := ltK rfl (show (0 : Int32).toInt = 0 by decide) c3
      exact B23 H locs ls hP hD hS (lv_sub hl [0, 1, 2, 3] rfl)
    · have zc3 := nltK rfl (show (0 : Int32).toInt = 0 by decide) c3
      refine lv_iload_n hx hb dX10_drawn_14 rfl (lv_at hl 3 rfl) ?_
      refine lv_iconst (v := 1) hx hb dX10_drawn_15 (by decide) ?_
      refine lv_icmp_gt (tgt := 23) hx hb dX10_drawn_16 (by decide) (fun c4 => ?_) (fun c4 => ?_)
      · have zc4 := ltK (show (1 : Int32).toInt = 1 by decide) rfl c4
        exact B23 H locs ls hP hD hS (lv_sub hl [0, 1, 2, 3] rfl)
      · have zc4 := nltK (show (1 : Int32).toInt = 1 by decide) rfl c4
        refine lv_iconst (v := 1) hx hb dX10_drawn_19 (by decide) ?_
        refine lv_goto (tgt := 24) hx hb dX10_drawn_20 (by decide) ?_
        exact B24 1 H locs ls (by decide) hP hD hS (lv_sub hl [0, 1, 2, 3] rfl)

set_option maxRecDepth 100000 in
set_option maxHeartbeats 16000000 in
theorem sX10_drawn_lo (l : Launch) (G : va_G) (cs : Nat → ClassId) (adm : Nat) (qm : Nat → Nat) (Fm : Nat → Int32) (Am : Nat → Nat → Int32) (Bm : Nat → Nat → Int64) (Dm : Int64) (hIm : IX10 Fm Am) (qms : Nat → Nat) (Fms : Nat → Int32) (Ams : Nat → Nat → Int32) (Bms : Nat → Nat → Int64) (Dms : Int64) (hIms : IX8 Fms Ams) (qmh : Nat → Nat) (Fmh : Nat → Int32) (Amh : Nat → Nat → Int32) (Bmh : Nat → Nat → Int64) (Dmh : Int64) (hImh : IX3 Fmh Amh) (qmv : Nat → Nat) (Fmv : Nat → Int32) (Amv : Nat → Nat → Int32) (Bmv : Nat → Nat → Int64) (Dmv : Int64) (hImv : IX2 Fmv Amv) (a1 : Int32) (a2 : Int32) (a3 : Int32) (ha2 : (-2147483648 : Int) ≤ a2.toInt ∧ a2.toInt ≤ -1) : ∀ sz : Nat, Met l yX10_drawn (wk yX10_drawn cX10_drawn 5 (some .int)) (rmk 3 0 0) (PreD G (TY cs) [.ref adm, .int a1, .int a2, .int a3] ((uX10 cs adm qm Fm Am Bm Dm) ++ ((uX8 cs (qm 3) qms Fms Ams Bms Dms) ++ ((uX3 cs (qms 0) qmh Fmh Amh Bmh Dmh) ++ (uX2 cs (qm 11) qmv Fmv Amv Bmv Dmv)))) sz) ((QDi G (fun (r : Int32) (u : Unit) => True) (fun u : Unit => ((uX10 cs adm qm Fm Am Bm Dm) ++ ((uX8 cs (qm 3) qms Fms Ams Bms Dms) ++ ((uX3 cs (qms 0) qmh Fmh Amh Bmh Dmh) ++ (uX2 cs (qm 11) qmv Fmv Amv Bmv Dmv)))))) (va_A ((uX10 cs adm qm Fm Am Bm Dm) ++ ((uX8 cs (qm 3) qms Fms Ams Bms Dms) ++ ((uX3 cs (qms 0) qmh Fmh Amh Bmh Dmh) ++ (uX2 cs (qm 11) qmv Fmv Amv Bmv Dmv)))) sz)) 0 0 (va_A ((uX10 cs adm qm Fm Am Bm Dm) ++ ((uX8 cs (qm 3) qms Fms Ams Bms Dms) ++ ((uX3 cs (qms 0) qmh Fmh Amh Bmh Dmh) ++ (uX2 cs (qm 11) qmv Fmv Amv Bmv Dmv)))) sz) := by
  refine mkD (Qc := (QDi G (fun (r : Int32) (u : Unit) => True) (fun u : Unit => ((uX10 cs adm qm Fm Am Bm Dm) ++ ((uX8 cs (qm 3) qms Fms Ams Bms Dms) ++ ((uX3 cs (qms 0) qmh Fmh Amh Bmh Dmh) ++ (uX2 cs (qm 11) qmv Fmv Amv Bmv Dmv))))))) (by decide) (by simp [lg_sl, Value.category]) ?_
  intro p e s m args below meth c ls A0 hx hb hml hr hlk hown hmn ht hK hP hD hS hA hl
  have hl : lv_has ls 5 [(0, .ref adm), (1, .int a1), (2, .int a2), (3, .int a3)] := hl
  refine lv_aload_n hx hb dX10_drawn_0 rfl (lv_at hl 0 rfl) ?_
  refine lv_iload_n hx hb dX10_drawn_1 rfl (lv_at hl 2 rfl) ?_
  refine lv_aload_n hx hb dX10_drawn_2 rfl (lv_at hl 0 rfl) ?_
  refine lv_iload_n hx hb dX10_drawn_3 rfl (lv_at hl 1 rfl) ?_
  refine behR (runVP (As := [.int a1]) (rest := [.int a2, .ref adm]) ⟨hx, hb, hml, hown, ht⟩ (sX10_isSeed l G cs adm qm Fm Am Bm Dm hIm a1 ) okV_RX10_308 ⟨by decide, by decide⟩ hK hP [0, 1, 2] rfl 0 rfl rfl hl.1 rfl (Nat.le_of_ble_eq_true rfl) dX10_drawn_4 ⟨by decide, by decide⟩) hP hS hA (fun r1 H locs hr1 hP hS => ?_)
  have hr1 : (r1.toInt = 1 ∧ 0 ≤ a1.toInt ∧ a1.toInt ≤ 2000000000) ∨ (r1.toInt = 0 ∧ (a1.toInt < 0 ∨ 2000000000 < a1.toInt)) := hr1
  have B24 : ∀ (s24_0 : Int32) (s24_1 : Int32) (H : Heap) (locs : List Loc) (ls : Array Slot), (0 : Int) ≤ s24_0.toInt ∧ s24_0.toInt ≤ 1 → s24_1.toInt ≤ -1 → va_P G vwCl ((uX10 cs adm qm Fm Am Bm Dm) ++ ((uX8 cs (qm 3) qms Fms Ams Bms Dms) ++ ((uX3 cs (qms 0) qmh Fmh Amh Bmh Dmh) ++ (uX2 cs (qm 11) qmv Fmv Amv Bmv Dmv)))) H → va_D A0 ((uX10 cs adm qm Fm Am Bm Dm) ++ ((uX8 cs (qm 3) qms Fms Ams Bms Dms) ++ ((uX3 cs (qms 0) qmh Fmh Amh Bmh Dmh) ++ (uX2 cs (qm 11) qmv Fmv Amv Bmv Dmv)))) → va_S A0 s.heap H locs → lv_has ls 5 [(0, .ref adm), (1, .int a1), (2, .int a2), (3, .int a3)] → W p l e (rmk 3 0 0) s m args below meth c H locs 0 0 (MQ below ((QDi G (fun (r : Int32) (u : Unit) => True) (fun u : Unit => ((uX10 cs adm qm Fm Am Bm Dm) ++ ((uX8 cs (qm 3) qms Fms Ams Bms Dms) ++ ((uX3 cs (qms 0) qmh Fmh Amh Bmh Dmh) ++ (uX2 cs (qm 11) qmv Fmv Amv Bmv Dmv)))))) A0) args s 0 0 A0) (F0 m 24 ls [.int s24_0, .int s24_1, .ref adm]) := by
    intro s24_0 s24_1 H locs ls hs24_0 hs24_1 hP hD hS hl
    have bb15001 := i32b s24_1
    refine behR (runVP (As := [.int s24_1, .int s24_0]) (rest := []) ⟨hx, hb, hml, hown, ht⟩ (sX10_askRound_lo l G cs adm qm Fm Am Bm Dm hIm qms Fms Ams Bms Dms hIms qmh Fmh Amh Bmh Dmh hImh s24_1 s24_0 (by omega) (by omega)) okV_RX10_186 ⟨by decide, by decide⟩ hK hP [0, 1, 2, 3, 4, 5, 6, 7, 8, 9, 10, 11, 12] rfl 0 rfl rfl hl.1 rfl (Nat.le_of_ble_eq_true rfl) dX10_drawn_24 ⟨by decide, by decide⟩) hP hS hA (fun r15002 H locs hr15002 hP hS => ?_)
    have hr15002 : r15002.toInt = -2 := hr15002
    refine lv_istore (lv' := [(4, .int r15002), (0, .ref adm), (1, .int a1), (2, .int a2), (3, .int a3)]) hx hb dX10_drawn_27 hl (by decide) rfl (fun ls hl => ?_)
    refine lv_iload hx hb dX10_drawn_29 (lv_at hl 0 rfl) ?_
    refine lv_if_eq (tgt := 37) hx hb dX10_drawn_31 (by decide) (fun c15003 => False.elim (by have zz := eqK rfl (show (0 : Int32).toInt = 0 by decide) c15003; omega)) (fun c15003 => ?_)
    refine lv_iload hx hb dX10_drawn_34 (lv_at hl 0 rfl) ?_
    exact retDi () hx hb hr hlk hP hD hS dX10_drawn_36 (trivial) (Nat.le_of_ble_eq_true rfl) (Nat.le_of_ble_eq_true rfl)
  have B23 : ∀ (s23_0 : Int32) (H : Heap) (locs : List Loc) (ls : Array Slot), s23_0.toInt ≤ -1 → va_P G vwCl ((uX10 cs adm qm Fm Am Bm Dm) ++ ((uX8 cs (qm 3) qms Fms Ams Bms Dms) ++ ((uX3 cs (qms 0) qmh Fmh Amh Bmh Dmh) ++ (uX2 cs (qm 11) qmv Fmv Amv Bmv Dmv)))) H → va_D A0 ((uX10 cs adm qm Fm Am Bm Dm) ++ ((uX8 cs (qm 3) qms Fms Ams Bms Dms) ++ ((uX3 cs (qms 0) qmh Fmh Amh Bmh Dmh) ++ (uX2 cs (qm 11) qmv Fmv Amv Bmv Dmv)))) → va_S A0 s.heap H locs → lv_has ls 5 [(0, .ref adm), (1, .int a1), (2, .int a2), (3, .int a3)] → W p l e (rmk 3 0 0) s m args below meth c H locs 0 0 (MQ below ((QDi G (fun (r : Int32) (u : Unit) => True) (fun u : Unit => ((uX10 cs adm qm Fm Am Bm Dm) ++ ((uX8 cs (qm 3) qms Fms Ams Bms Dms) ++ ((uX3 cs (qms 0) qmh Fmh Amh Bmh Dmh) ++ (uX2 cs (qm 11) qmv Fmv Amv Bmv Dmv)))))) A0) args s 0 0 A0) (F0 m 23 ls [.int s23_0, .ref adm]) := by
    intro s23_0 H locs ls hs23_0 hP hD hS hl
    refine lv_iconst (v := 0) hx hb dX10_drawn_23 (by decide) ?_
    exact B24 0 s23_0 H locs ls (by decide) (by omega) hP hD hS (lv_sub hl [0, 1, 2, 3] rfl)
  refine lv_if_eq (tgt := 23) hx hb dX10_drawn_7 (by decide) (fun c2 => ?_) (fun c2 => ?_)
  · have zc2 := eqK rfl (show (0 : Int32).toInt = 0 by decide) c2
    exact B23 a2 H locs ls (by omega) hP hD hS (lv_sub hl [0, 1, 2, 3] rfl)
  · have zc2 := neK rfl (show (0 : Int32).toInt = 0 by decide) c2
    refine lv_iload_n hx hb dX10_drawn_10 rfl (lv_at hl 3 rfl) ?_
    refine lv_if_lt (tgt := 23) hx hb dX10_drawn_11 (by decide) (fun c3 => ?_) (fun c3 => ?_)
    · have zc3 := ltK rfl (show (0 : Int32).toInt = 0 by decide) c3
      exact B23 a2 H locs ls (by omega) hP hD hS (lv_sub hl [0, 1, 2, 3] rfl)
    · have zc3 := nltK rfl (show (0 : Int32).toInt = 0 by decide) c3
      refine lv_iload_n hx hb dX10_drawn_14 rfl (lv_at hl 3 rfl) ?_
      refine lv_iconst (v := 1) hx hb dX10_drawn_15 (by decide) ?_
      refine lv_icmp_gt (tgt := 23) hx hb dX10_drawn_16 (by decide) (fun c4 => ?_) (fun c4 => ?_)
      · have zc4 := ltK (show (1 : Int32).toInt = 1 by decide) rfl c4
        exact B23 a2 H locs ls (by omega) hP hD hS (lv_sub hl [0, 1, 2, 3] rfl)
      · have zc4 := nltK (show (1 : Int32).toInt = 1 by decide) rfl c4
        refine lv_iconst (v := 1) hx hb dX10_drawn_19 (by decide) ?_
        refine lv_goto (tgt := 24) hx hb dX10_drawn_20 (by decide) ?_
        exact B24 1 a2 H locs ls (by decide) (by omega) hP hD hS (lv_sub hl [0, 1, 2, 3] rfl)

