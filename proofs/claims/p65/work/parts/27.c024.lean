set_option maxRecDepth 100000 in
set_option maxHeartbeats 16000000 in
theorem sX10_isSet (l : Launch) (G : va_G) (cs : Nat → ClassId) (adm : Nat) (qm : Nat → Nat) (Fm : Nat → Int32) (Am : Nat → Nat → Int32) (Bm : Nat → Nat → Int64) (Dm : Int64) (hIm : IX10 Fm Am) (qms : Nat → Nat) (Fms : Nat → Int32) (Ams : Nat → Nat → Int32) (Bms : Nat → Nat → Int64) (Dms : Int64) (hIms : IX8 Fms Ams) (qmh : Nat → Nat) (Fmh : Nat → Int32) (Amh : Nat → Nat → Int32) (Bmh : Nat → Nat → Int64) (Dmh : Int64) (hImh : IX3 Fmh Amh) (a1 : Int32) : ∀ sz : Nat, Met l yX10_isSet (wk yX10_isSet cX10_isSet 2 (some .boolean)) (rmk 0 0 0) (PreP G (TY cs) [.ref adm, .int a1] ((uX10 cs adm qm Fm Am Bm Dm) ++ ((uX8 cs (qm 3) qms Fms Ams Bms Dms) ++ (uX3 cs (qms 0) qmh Fmh Amh Bmh Dmh))) sz) (QRi (fun r : Int32 => (r.toInt = 1 ∧ 1 ≤ a1.toInt ∧ a1.toInt ≤ 63) ∨ r.toInt = 0) sz) 0 0 (fun q => sz ≤ q) := by
  refine mkP (Qc := QRi (fun r : Int32 => (r.toInt = 1 ∧ 1 ≤ a1.toInt ∧ a1.toInt ≤ 63) ∨ r.toInt = 0)) (by decide) (by simp [lg_sl, Value.category]) ?_
  intro p e s m args below meth c ls hx hb hml hr hlk hown ht hK hP hS hl
  have hl : lv_has ls 2 [(0, .ref adm), (1, .int a1)] := hl
  refine lv_iload_n hx hb dX10_isSet_0 rfl (lv_at hl 1 rfl) ?_
  refine lv_iconst (v := 1) hx hb dX10_isSet_1 (by decide) ?_
  refine lv_icmp_lt (tgt := 25) hx hb dX10_isSet_2 (by decide) (fun c1 => ?_) (fun c1 => ?_)
  · have zc1 := ltK rfl (show (1 : Int32).toInt = 1 by decide) c1
    refine lv_iconst (v := 0) hx hb dX10_isSet_25 (by decide) ?_
    exact retRz hx hb hr hlk hS dX10_isSet_26 (rfl) (show ((0 : Int32).toInt = 1 ∧ 1 ≤ a1.toInt ∧ a1.toInt ≤ 63) ∨ (0 : Int32).toInt = 0 by have kk : (0 : Int32).toInt = 0 := (by decide); omega)
  · have zc1 := nltK rfl (show (1 : Int32).toInt = 1 by decide) c1
    refine lv_iload_n hx hb dX10_isSet_5 rfl (lv_at hl 1 rfl) ?_
    refine lv_iconst (v := 1) hx hb dX10_isSet_6 (by decide) ?_
    refine lv_aload_n hx hb dX10_isSet_7 rfl (lv_at hl 0 rfl) ?_
    refine getF (v := .ref (qm 3)) hx hb ht hown hK hP iTX10 0 3 rfl rfl (by decide) fl_RX10_31 rfl dX10_isSet_8 ?_
    refine getF (v := .ref (qms 0)) hx hb ht hown hK hP iTX8 3 0 rfl rfl (by decide) fl_RX10_98 rfl dX10_isSet_11 ?_
    refine getF (v := .int (Fmh 6)) hx hb ht hown hK hP iTX3 5 6 rfl rfl (by decide) fl_RX10_283 rfl dX10_isSet_14 ?_
    have zf2 : (0 : Int) ≤ (Fmh 6).toInt ∧ (Fmh 6).toInt ≤ 6 := hImh.1 6
    refine lv_ishl hx hb dX10_isSet_17 ?_
    refine lv_topi (fun v3 ev3 => ?_)
    have tv3 : (1 : Int) ≤ v3.toInt ∧ v3.toInt ≤ 64 := by rw [ev3]; exact shlT 6 (by decide) rfl (by omega) (by decide)
    have pv3 : v3.toInt = P2 (Fmh 6).toInt := by rw [ev3]; exact shlP rfl (by omega)
    refine lv_icmp_ge (tgt := 25) hx hb dX10_isSet_18 (by decide) (fun c4 => ?_) (fun c4 => ?_)
    · have zc4 := leK rfl rfl c4
      refine lv_iconst (v := 0) hx hb dX10_isSet_25 (by decide) ?_
      exact retRz hx hb hr hlk hS dX10_isSet_26 (rfl) (show ((0 : Int32).toInt = 1 ∧ 1 ≤ a1.toInt ∧ a1.toInt ≤ 63) ∨ (0 : Int32).toInt = 0 by have kk : (0 : Int32).toInt = 0 := (by decide); omega)
    · have zc4 := nleK rfl rfl c4
      refine lv_iconst (v := 1) hx hb dX10_isSet_21 (by decide) ?_
      refine lv_goto (tgt := 26) hx hb dX10_isSet_22 (by decide) ?_
      exact retRz hx hb hr hlk hS dX10_isSet_26 (rfl) (show ((1 : Int32).toInt = 1 ∧ 1 ≤ a1.toInt ∧ a1.toInt ≤ 63) ∨ (1 : Int32).toInt = 0 by have kk : (1 : Int32).toInt = 1 := (by decide); omega)

set_option maxRecDepth 100000 in
set_option maxHeartbeats 16000000 in
theorem sX10_askRow_0 (l : Launch) (G : va_G) (cs : Nat → ClassId) (adm : Nat) (qm : Nat → Nat) (Fm : Nat → Int32) (Am : Nat → Nat → Int32) (Bm : Nat → Nat → Int64) (Dm : Int64) (hIm : IX10 Fm Am) (qms : Nat → Nat) (Fms : Nat → Int32) (Ams : Nat → Nat → Int32) (Bms : Nat → Nat → Int64) (Dms : Int64) (hIms : IX8 Fms Ams) (qmh : Nat → Nat) (Fmh : Nat → Int32) (Amh : Nat → Nat → Int32) (Bmh : Nat → Nat → Int64) (Dmh : Int64) (hImh : IX3 Fmh Amh) (qr0 : Nat → Nat) (Fr0 : Nat → Int32) (Ar0 : Nat → Nat → Int32) (Br0 : Nat → Nat → Int64) (Dr0 : Int64) (hIr0 : IX7 Fr0 Ar0) (a2 : Int32) (a3 : Int32) (ha2 : (0 : Int) ≤ a2.toInt ∧ a2.toInt ≤ 1) : ∀ sz : Nat, Met l yX10_askRow (wk yX10_askRow cX10_askRow 4 (some .int)) (rmk 1 0 0) (PreP G (TY cs) [.ref adm, .int 0, .int a2, .int a3] ((uX10 cs adm qm Fm Am Bm Dm) ++ ((uX8 cs (qm 3) qms Fms Ams Bms Dms) ++ ((uX3 cs (qms 0) qmh Fmh Amh Bmh Dmh) ++ (uX7 cs (qm 20) qr0 Fr0 Ar0 Br0 Dr0)))) sz) (QRi (fun r : Int32 => ((r.toInt = 0 ∧ a2.toInt = 1) ∨ r.toInt = -2 ∨ r.toInt = -6) ∧ RWk r 0 (Br0 0) a3.toInt ((Fmh 5).toInt - 1) (Fr0 3).toInt) sz) 0 0 (fun q => sz ≤ q) := by
  refine mkP (Qc := QRi (fun r : Int32 => ((r.toInt = 0 ∧ a2.toInt = 1) ∨ r.toInt = -2 ∨ r.toInt = -6) ∧ RWk r 0 (Br0 0) a3.toInt ((Fmh 5).toInt - 1) (Fr0 3).toInt)) (by decide) (by simp [lg_sl, Value.category]) ?_
  intro p e s m args below meth c ls hx hb hml hr hlk hown ht hK hP hS hl
  have hl : lv_has ls 4 [(0, .ref adm), (1, .int 0), (2, .int a2), (3, .int a3)] := hl
  refine lv_aload_n hx hb dX10_askRow_0 rfl (lv_at hl 0 rfl) ?_
  refine lv_iload_n hx hb dX10_askRow_1 rfl (lv_at hl 1 rfl) ?_
  refine behR (runVP (As := [.int 0]) (rest := []) ⟨hx, hb, hml, hown, ht⟩ (sX10_isSlot l G cs adm qm Fm Am Bm Dm hIm 0 ) okV_RX10_348 ⟨by decide, by decide⟩ hK hP [0, 1, 2] rfl 0 rfl rfl hl.1 rfl (Nat.le_of_ble_eq_true rfl) dX10_askRow_2 ⟨by decide, by decide⟩) hP hS (fun _ h => h) (fun r1 H locs hr1 hP hS => ?_)
  have kk2 : (0 : Int32).toInt = 0 := by decide
  have hr1 : (r1.toInt = 1 ∧ 0 ≤ (0 : Int32).toInt ∧ (0 : Int32).toInt ≤ 3) ∨ (r1.toInt = 0 ∧ ((0 : Int32).toInt < 0 ∨ 3 < (0 : Int32).toInt)) := hr1
  refine lv_if_eq (tgt := 19) hx hb dX10_askRow_5 (by decide) (fun c3 => ?_) (fun c3 => ?_)
  · have zc3 := eqK rfl (show (0 : Int32).toInt = 0 by decide) c3
    refine lv_bipush (v := (-2)) hx hb dX10_askRow_19 (by decide) ?_
    exact retRi hx hb hr hlk hS dX10_askRow_21 (⟨by have kk : (-2 : Int32).toInt = -2 := (by decide); omega, fun q9 => absurd q9 (by decide)⟩)
  · have zc3 := neK rfl (show (0 : Int32).toInt = 0 by decide) c3
    refine lv_aload_n hx hb dX10_askRow_8 rfl (lv_at hl 0 rfl) ?_
    refine behR (runVP (As := []) (rest := []) ⟨hx, hb, hml, hown, ht⟩ (sX10_hasHouse l G cs adm qm Fm Am Bm Dm hIm qms Fms Ams Bms Dms hIms qmh Fmh Amh Bmh Dmh hImh ) okV_RX10_152 ⟨by decide, by decide⟩ hK hP [0, 1, 2, 3, 4, 5, 6, 7, 8, 9, 10, 11, 12] rfl 0 rfl rfl hl.1 rfl (Nat.le_of_ble_eq_true rfl) dX10_askRow_9 ⟨by decide, by decide⟩) hP hS (fun _ h => h) (fun r4 H locs hr4 hP hS => ?_)
    have hr4 : (0 : Int) ≤ r4.toInt ∧ r4.toInt ≤ 1 := hr4
    refine lv_if_eq (tgt := 19) hx hb dX10_askRow_12 (by decide) (fun c5 => ?_) (fun c5 => ?_)
    · have zc5 := eqK rfl (show (0 : Int32).toInt = 0 by decide) c5
      refine lv_bipush (v := (-2)) hx hb dX10_askRow_19 (by decide) ?_
      exact retRi hx hb hr hlk hS dX10_askRow_21 (⟨by have kk : (-2 : Int32).toInt = -2 := (by decide); omega, fun q9 => absurd q9 (by decide)⟩)
    · have zc5 := neK rfl (show (0 : Int32).toInt = 0 by decide) c5
      refine lv_iload_n hx hb dX10_askRow_15 rfl (lv_at hl 2 rfl) ?_
      refine lv_if_ne (tgt := 22) hx hb dX10_askRow_16 (by decide) (fun c6 => ?_) (fun c6 => ?_)
      · have zc6 := neK rfl (show (0 : Int32).toInt = 0 by decide) c6
        refine lv_aload_n hx hb dX10_askRow_22 rfl (lv_at hl 0 rfl) ?_
        refine getF (v := .ref (qm 5)) hx hb ht hown hK hP iTX10 0 5 rfl rfl (by decide) fl_RX10_41 rfl dX10_askRow_23 ?_
        refine lv_iload_n hx hb dX10_askRow_26 rfl (lv_at hl 1 rfl) ?_
        refine va_aldq hx hb hK.1 hP 2 5 rfl rfl (show ¬ (_ ∨ _) by decide) dX10_askRow_27 ?_
        refine W.eq (g2 := F0 m 28 ls [.ref (qm 20)]) rfl ?_
        refine getF (v := .int (Fr0 1)) hx hb ht hown hK hP iTX7 13 1 rfl rfl (by decide) fl_RX10_354 rfl dX10_askRow_28 ?_
        have zf7 : (0 : Int) ≤ (Fr0 1).toInt ∧ (Fr0 1).toInt ≤ 1 := hIr0.1 1
        refine lv_if_ne (tgt := 37) hx hb dX10_askRow_31 (by decide) (fun c8 => ?_) (fun c8 => ?_)
        · have zc8 := neK rfl (show (0 : Int32).toInt = 0 by decide) c8
          refine lv_aload_n hx hb dX10_askRow_37 rfl (lv_at hl 0 rfl) ?_
          refine getF (v := .ref (qm 5)) hx hb ht hown hK hP iTX10 0 5 rfl rfl (by decide) fl_RX10_41 rfl dX10_askRow_38 ?_
          refine lv_iload_n hx hb dX10_askRow_41 rfl (lv_at hl 1 rfl) ?_
          refine va_aldq hx hb hK.1 hP 2 5 rfl rfl (show ¬ (_ ∨ _) by decide) dX10_askRow_42 ?_
          refine W.eq (g2 := F0 m 43 ls [.ref (qm 20)]) rfl ?_
          refine lv_iload_n hx hb dX10_askRow_43 rfl (lv_at hl 3 rfl) ?_
          refine lv_aload_n hx hb dX10_askRow_44 rfl (lv_at hl 0 rfl) ?_
          refine getF (v := .ref (qm 3)) hx hb ht hown hK hP iTX10 0 3 rfl rfl (by decide) fl_RX10_31 rfl dX10_askRow_45 ?_
          refine getF (v := .ref (qms 0)) hx hb ht hown hK hP iTX8 3 0 rfl rfl (by decide) fl_RX10_98 rfl dX10_askRow_48 ?_
          refine getF (v := .int (Fmh 5)) hx hb ht hown hK hP iTX3 5 5 rfl rfl (by decide) fl_RX10_159 rfl dX10_askRow_51 ?_
          have zf9 : (0 : Int) ≤ (Fmh 5).toInt ∧ (Fmh 5).toInt ≤ 7 := hImh.1 5
          refine lv_iconst (v := 1) hx hb dX10_askRow_54 (by decide) ?_
          refine lv_isub hx hb dX10_askRow_55 ?_
          refine lv_topi (fun v10 ev10 => ?_)
          have tv10 : v10.toInt = (Fmh 5).toInt - 1 := by rw [ev10]; exact subT rfl (show (1 : Int32).toInt = 1 by decide) (by omega)
          refine behR (runVP (As := [.int a3, .int v10]) (rest := []) ⟨hx, hb, hml, hown, ht⟩ (sX7_isWithin l G cs (qm 20) qr0 Fr0 Ar0 Br0 Dr0 hIr0 a3 v10 ) okV_RX10_385 ⟨by decide, by decide⟩ hK hP [13, 14] rfl 13 rfl rfl hl.1 rfl (Nat.le_of_ble_eq_true rfl) dX10_askRow_56 ⟨by decide, by decide⟩) hP hS (fun _ h => h) (fun r11 H locs hr11 hP hS => ?_)
          have hr11 : RWk r11 1 (Br0 0) a3.toInt v10.toInt (Fr0 3).toInt ∧ (0 : Int) ≤ r11.toInt ∧ r11.toInt ≤ 1 := hr11
          refine lv_if_eq (tgt := 66) hx hb dX10_askRow_59 (by decide) (fun c12 => ?_) (fun c12 => ?_)
          · have zc12 := eqK rfl (show (0 : Int32).toInt = 0 by decide) c12
            refine lv_bipush (v := (-2)) hx hb dX10_askRow_66 (by decide) ?_
            exact retRi hx hb hr hlk hS dX10_askRow_68 (⟨by have kk : (-2 : Int32).toInt = -2 := (by decide); omega, fun q9 => absurd q9 (by decide)⟩)
          · have zc12 := neK rfl (show (0 : Int32).toInt = 0 by decide) c12
            refine lv_iconst (v := 0) hx hb dX10_askRow_62 (by decide) ?_
            refine lv_goto (tgt := 68) hx hb dX10_askRow_63 (by decide) ?_
            exact retRi hx hb hr hlk hS dX10_askRow_68 (⟨by have kk : (0 : Int32).toInt = 0 := (by decide); omega, fun q9 i9 h9 => (by have z9 := hr11.1 (by omega) i9 h9; omega)⟩)
        · have zc8 := eqK rfl (show (0 : Int32).toInt = 0 by decide) c8
          refine lv_bipush (v := (-6)) hx hb dX10_askRow_34 (by decide) ?_
          exact retRi hx hb hr hlk hS dX10_askRow_36 (⟨by have kk : (-6 : Int32).toInt = -6 := (by decide); omega, fun q9 => absurd q9 (by decide)⟩)
      · have zc6 := eqK rfl (show (0 : Int32).toInt = 0 by decide) c6
        refine lv_bipush (v := (-2)) hx hb dX10_askRow_19 (by decide) ?_
        exact retRi hx hb hr hlk hS dX10_askRow_21 (⟨by have kk : (-2 : Int32).toInt = -2 := (by decide); omega, fun q9 => absurd q9 (by decide)⟩)

set_option maxRecDepth 100000 in
set_option maxHeartbeats 16000000 in
theorem sX10_askRow_1 (l : Launch) (G : va_G) (cs : Nat → ClassId) (adm : Nat) (qm : Nat → Nat) (Fm : Nat → Int32) (Am : Nat → Nat → Int32) (Bm : Nat → Nat → Int64) (Dm : Int64) (hIm : IX10 Fm Am) (qms : Nat → Nat) (Fms : Nat → Int32) (Ams : Nat → Nat → Int32) (Bms : Nat → Nat → Int64) (Dms : Int64) (hIms : IX8 Fms Ams) (qmh : Nat → Nat) (Fmh : Nat → Int32) (Amh : Nat → Nat → Int32) (Bmh : Nat → Nat → Int64) (Dmh : Int64) (hImh : IX3 Fmh Amh) (qr1 : Nat → Nat) (Fr1 : Nat → Int32) (Ar1 : Nat → Nat → Int32) (Br1 : Nat → Nat → Int64) (Dr1 : Int64) (hIr1 : IX7 Fr1 Ar1) (a2 : Int32) (a3 : Int32) (ha2 : (0 : Int) ≤ a2.toInt ∧ a2.toInt ≤ 1) : ∀ sz : Nat, Met l yX10_askRow (wk yX10_askRow cX10_askRow 4 (some .int)) (rmk 1 0 0) (PreP G (TY cs) [.ref adm, .int 1, .int a2, .int a3] ((uX10 cs adm qm Fm Am Bm Dm) ++ ((uX8 cs (qm 3) qms Fms Ams Bms Dms) ++ ((uX3 cs (qms 0) qmh Fmh Amh Bmh Dmh) ++ (uX7 cs (qm 21) qr1 Fr1 Ar1 Br1 Dr1)))) sz) (QRi (fun r : Int32 => ((r.toInt = 0 ∧ a2.toInt = 1) ∨ r.toInt = -2 ∨ r.toInt = -6) ∧ RWk r 0 (Br1 0) a3.toInt ((Fmh 5).toInt - 1) (Fr1 3).toInt) sz) 0 0 (fun q => sz ≤ q) := by
  refine mkP (Qc := QRi (fun r : Int32 => ((r.toInt = 0 ∧ a2.toInt = 1) ∨ r.toInt = -2 ∨ r.toInt = -6) ∧ RWk r 0 (Br1 0) a3.toInt ((Fmh 5).toInt - 1) (Fr1 3).toInt)) (by decide) (by simp [lg_sl, Value.category]) ?_
  intro p e s m args below meth c ls hx hb hml hr hlk hown ht hK hP hS hl
  have hl : lv_has ls 4 [(0, .ref adm), (1, .int 1), (2, .int a2), (3, .int a3)] := hl
  refine lv_aload_n hx hb dX10_askRow_0 rfl (lv_at hl 0 rfl) ?_
  refine lv_iload_n hx hb dX10_askRow_1 rfl (lv_at hl 1 rfl) ?_
  refine behR (runVP (As := [.int 1]) (rest := []) ⟨hx, hb, hml, hown, ht⟩ (sX10_isSlot l G cs adm qm Fm Am Bm Dm hIm 1 ) okV_RX10_348 ⟨by decide, by decide⟩ hK hP [0, 1, 2] rfl 0 rfl rfl hl.1 rfl (Nat.le_of_ble_eq_true rfl) dX10_askRow_2 ⟨by decide, by decide⟩) hP hS (fun _ h => h) (fun r1 H locs hr1 hP hS => ?_)
  have kk2 : (1 : Int32).toInt = 1 := by decide
  have hr1 : (r1.toInt = 1 ∧ 0 ≤ (1 : Int32).toInt ∧ (1 : Int32).toInt ≤ 3) ∨ (r1.toInt = 0 ∧ ((1 : Int32).toInt < 0 ∨ 3 < (1 : Int32).toInt)) := hr1
  refine lv_if_eq (tgt := 19) hx hb dX10_askRow_5 (by decide) (fun c3 => ?_) (fun c3 => ?_)
  · have zc3 := eqK rfl (show (0 : Int32).toInt = 0 by decide) c3
    refine lv_bipush (v := (-2)) hx hb dX10_askRow_19 (by decide) ?_
    exact retRi hx hb hr hlk hS dX10_askRow_21 (⟨by have kk : (-2 : Int32).toInt = -2 := (by decide); omega, fun q9 => absurd q9 (by decide)⟩)
  · have zc3 := neK rfl (show (0 : Int32).toInt = 0 by decide) c3
    refine lv_aload_n hx hb dX10_askRow_8 rfl (lv_at hl 0 rfl) ?_
    refine behR (runVP (As := []) (rest := []) ⟨hx, hb, hml, hown, ht⟩ (sX10_hasHouse l G cs adm qm Fm Am Bm Dm hIm qms Fms Ams Bms Dms hIms qmh Fmh Amh Bmh Dmh hImh ) okV_RX10_152 ⟨by decide, by decide⟩ hK hP [0, 1, 2, 3, 4, 5, 6, 7, 8, 9, 10, 11, 12] rfl 0 rfl rfl hl.1 rfl (Nat.le_of_ble_eq_true rfl) dX10_askRow_9 ⟨by decide, by decide⟩) hP hS (fun _ h => h) (fun r4 H locs hr4 hP hS => ?_)
    have hr4 : (0 : Int) ≤ r4.toInt ∧ r4.toInt ≤ 1 := hr4
    refine lv_if_eq (tgt := 19) hx hb dX10_askRow_12 (by decide) (fun c5 => ?_) (fun c5 => ?_)
    · have zc5 := eqK rfl (show (0 : Int32).toInt = 0 by decide) c5
      refine lv_bipush (v := (-2)) hx hb dX10_askRow_19 (by decide) ?_
      exact retRi hx hb hr hlk hS dX10_askRow_21 (⟨by have kk : (-2 : Int32).toInt = -2 := (by decide); omega, fun q9 => absurd q9 (by decide)⟩)
    · have zc5 := neK rfl (show (0 : Int32).toInt = 0 by decide) c5
      refine lv_iload_n hx hb dX10_askRow_15 rfl (lv_at hl 2 rfl) ?_
      refine lv_if_ne (tgt := 22) hx hb dX10_askRow_16 (by decide) (fun c6 => ?_) (fun c6 => ?_)
      · have zc6 := neK rfl (show (0 : Int32).toInt = 0 by decide) c6
        refine lv_aload_n hx hb dX10_askRow_22 rfl (lv_at hl 0 rfl) ?_
        refine getF (v := .ref (qm 5)) hx hb ht hown hK hP iTX10 0 5 rfl rfl (by decide) fl_RX10_41 rfl dX10_askRow_23 ?_
        refine lv_iload_n hx hb dX10_askRow_26 rfl (lv_at hl 1 rfl) ?_
        refine va_aldq hx hb hK.1 hP 2 5 rfl rfl (show ¬ (_ ∨ _) by decide) dX10_askRow_27 ?_
        refine W.eq (g2 := F0 m 28 ls [.ref (qm 21)]) rfl ?_
        refine getF (v := .int (Fr1 1)) hx hb ht hown hK hP iTX7 13 1 rfl rfl (by decide) fl_RX10_354 rfl dX10_askRow_28 ?_
        have zf7 : (0 : Int) ≤ (Fr1 1).toInt ∧ (Fr1 1).toInt ≤ 1 := hIr1.1 1
        refine lv_if_ne (tgt := 37) hx hb dX10_askRow_31 (by decide) (fun c8 => ?_) (fun c8 => ?_)
        · have zc8 := neK rfl (show (0 : Int32).toInt = 0 by decide) c8
          refine lv_aload_n hx hb dX10_askRow_37 rfl (lv_at hl 0 rfl) ?_
          refine getF (v := .ref (qm 5)) hx hb ht hown hK hP iTX10 0 5 rfl rfl (by decide) fl_RX10_41 rfl dX10_askRow_38 ?_
          refine lv_iload_n hx hb dX10_askRow_41 rfl (lv_at hl 1 rfl) ?_
          refine va_aldq hx hb hK.1 hP 2 5 rfl rfl (show ¬ (_ ∨ _) by decide) dX10_askRow_42 ?_
          refine W.eq (g2 := F0 m 43 ls [.ref (qm 21)]) rfl ?_
          refine lv_iload_n hx hb dX10_askRow_43 rfl (lv_at hl 3 rfl) ?_
          refine lv_aload_n hx hb dX10_askRow_44 rfl (lv_at hl 0 rfl) ?_
          refine getF (v := .ref (qm 3)) hx hb ht hown hK hP iTX10 0 3 rfl rfl (by decide) fl_RX10_31 rfl dX10_askRow_45 ?_
          refine getF (v := .ref (qms 0)) hx hb ht hown hK hP iTX8 3 0 rfl rfl (by decide) fl_RX10_98 rfl dX10_askRow_48 ?_
          refine getF (v := .int (Fmh 5)) hx hb ht hown hK hP iTX3 5 5 rfl rfl (by decide) fl_RX10_159 rfl dX10_askRow_51 ?_
          have zf9 : (0 : Int) ≤ (Fmh 5).toInt ∧ (Fmh 5).toInt ≤ 7 := hImh.1 5
          refine lv_iconst (v := 1) hx hb dX10_askRow_54 (by decide) ?_
          refine lv_isub hx hb dX10_askRow_55 ?_
          refine lv_topi (fun v10 ev10 => ?_)
          have tv10 : v10.toInt = (Fmh 5).toInt - 1 := by rw [ev10]; exact subT rfl (show (1 : Int32).toInt = 1 by decide) (by omega)
          refine behR (runVP (As := [.int a3, .int v10]) (rest := []) ⟨hx, hb, hml, hown, ht⟩ (sX7_isWithin l G cs (qm 21) qr1 Fr1 Ar1 Br1 Dr1 hIr1 a3 v10 ) okV_RX10_385 ⟨by decide, by decide⟩ hK hP [13, 14] rfl 13 rfl rfl hl.1 rfl (Nat.le_of_ble_eq_true rfl) dX10_askRow_56 ⟨by decide, by decide⟩) hP hS (fun _ h => h) (fun r11 H locs hr11 hP hS => ?_)
          have hr11 : RWk r11 1 (Br1 0) a3.toInt v10.toInt (Fr1 3).toInt ∧ (0 : Int) ≤ r11.toInt ∧ r11.toInt ≤ 1 := hr11
          refine lv_if_eq (tgt := 66) hx hb dX10_askRow_59 (by decide) (fun c12 => ?_) (fun c12 => ?_)
          · have zc12 := eqK rfl (show (0 : Int32).toInt = 0 by decide) c12
            refine lv_bipush (v := (-2)) hx hb dX10_askRow_66 (by decide) ?_
            exact retRi hx hb hr hlk hS dX10_askRow_68 (⟨by have kk : (-2 : Int32).toInt = -2 := (by decide); omega, fun q9 => absurd q9 (by decide)⟩)
          · have zc12 := neK rfl (show (0 : Int32).toInt = 0 by decide) c12
            refine lv_iconst (v := 0) hx hb dX10_askRow_62 (by decide) ?_
            refine lv_goto (tgt := 68) hx hb dX10_askRow_63 (by decide) ?_
            exact retRi hx hb hr hlk hS dX10_askRow_68 (⟨by have kk : (0 : Int32).toInt = 0 := (by decide); omega, fun q9 i9 h9 => (by have z9 := hr11.1 (by omega) i9 h9; omega)⟩)
        · have zc8 := eqK rfl (show (0 : Int32).toInt = 0 by decide) c8
          refine lv_bipush (v := (-6)) hx hb dX10_askRow_34 (by decide) ?_
          exact retRi hx hb hr hlk hS dX10_askRow_36 (⟨by have kk : (-6 : Int32).toInt = -6 := (by decide); omega, fun q9 => absurd q9 (by decide)⟩)
      · have zc6 := eqK rfl (show (0 : Int32).toInt = 0 by decide) c6
        refine lv_bipush (v := (-2)) hx hb dX10_askRow_19 (by decide) ?_
        exact retRi hx hb hr hlk hS dX10_askRow_21 (⟨by have kk : (-2 : Int32).toInt = -2 := (by decide); omega, fun q9 => absurd q9 (by decide)⟩)

set_option maxRecDepth 100000 in
set_option maxHeartbeats 16000000 in
theorem sX10_askRow_2 (l : Launch) (G : va_G) (cs : Nat → ClassId) (adm : Nat) (qm : Nat → Nat) (Fm : Nat → Int32) (Am : Nat → Nat → Int32) (Bm : Nat → Nat → Int64) (Dm : Int64) (hIm : IX10 Fm Am) (qms : Nat → Nat) (Fms : Nat → Int32) (Ams : Nat → Nat → Int32) (Bms : Nat → Nat → Int64) (Dms : Int64) (hIms : IX8 Fms Ams) (qmh : Nat → Nat) (Fmh : Nat → Int32) (Amh : Nat → Nat → Int32) (Bmh : Nat → Nat → Int64) (Dmh : Int64) (hImh : IX3 Fmh Amh) (qr2 : Nat → Nat) (Fr2 : Nat → Int32) (Ar2 : Nat → Nat → Int32) (Br2 : Nat → Nat → Int64) (Dr2 : Int64) (hIr2 : IX7 Fr2 Ar2) (a2 : Int32) (a3 : Int32) (ha2 : (0 : Int) ≤ a2.toInt ∧ a2.toInt ≤ 1) : ∀ sz : Nat, Met l yX10_askRow (wk yX10_askRow cX10_askRow 4 (some .int)) (rmk 1 0 0) (PreP G (TY cs) [.ref adm, .int 2, .int a2, .int a3] ((uX10 cs adm qm Fm Am Bm Dm) ++ ((uX8 cs (qm 3) qms Fms Ams Bms Dms) ++ ((uX3 cs (qms 0) qmh Fmh Amh Bmh Dmh) ++ (uX7 cs (qm 22) qr2 Fr2 Ar2 Br2 Dr2)))) sz) (QRi (fun r : Int32 => ((r.toInt = 0 ∧ a2.toInt = 1) ∨ r.toInt = -2 ∨ r.toInt = -6) ∧ RWk r 0 (Br2 0) a3.toInt ((Fmh 5).toInt - 1) (Fr2 3).toInt) sz) 0 0 (fun q => sz ≤ q) := by
  refine mkP (Qc := QRi (fun r : Int32 => ((r.toInt = 0 ∧ a2.toInt = 1) ∨ r.toInt = -2 ∨ r.toInt = -6) ∧ RWk r 0 (Br2 0) a3.toInt ((Fmh 5).toInt - 1) (Fr2 3).toInt)) (by decide) (by simp [lg_sl, Value.category]) ?_
  intro p e s m args below meth c ls hx hb hml hr hlk hown ht hK hP hS hl
  have hl : lv_has ls 4 [(0, .ref adm), (1, .int 2), (2, .int a2), (3, .int a3)] := hl
  refine lv_aload_n hx hb dX10_askRow_0 rfl (lv_at hl 0 rfl) ?_
  refine lv_iload_n hx hb dX10_askRow_1 rfl (lv_at hl 1 rfl) ?_
  refine behR (runVP (As := [.int 2]) (rest := []) ⟨hx, hb, hml, hown, ht⟩ (sX10_isSlot l G cs adm qm Fm Am Bm Dm hIm 2 ) okV_RX10_348 ⟨by decide, by decide⟩ hK hP [0, 1, 2] rfl 0 rfl rfl hl.1 rfl (Nat.le_of_ble_eq_true rfl) dX10_askRow_2 ⟨by decide, by decide⟩) hP hS (fun _ h => h) (fun r1 H locs hr1 hP hS => ?_)
  have kk2 : (2 : Int32).toInt = 2 := by decide
  have hr1 : (r1.toInt = 1 ∧ 0 ≤ (2 : Int32).toInt ∧ (2 : Int32).toInt ≤ 3) ∨ (r1.toInt = 0 ∧ ((2 : Int32).toInt < 0 ∨ 3 < (2 : Int32).toInt)) := hr1
  refine lv_if_eq (tgt := 19) hx hb dX10_askRow_5 (by decide) (fun c3 => ?_) (fun c3 => ?_)
  · have zc3 := eqK rfl (show (0 : Int32).toInt = 0 by decide) c3
    refine lv_bipush (v := (-2)) hx hb dX10_askRow_19 (by decide) ?_
    exact retRi hx hb hr hlk hS dX10_askRow_21 (⟨by have kk : (-2 : Int32).toInt = -2 := (by decide); omega, fun q9 => absurd q9 (by decide)⟩)
  · have zc3 := neK rfl (show (0 : Int32).toInt = 0 by decide) c3
    refine lv_aload_n hx hb dX10_askRow_8 rfl (lv_at hl 0 rfl) ?_
    refine behR (runVP (As := []) (rest := []) ⟨hx, hb, hml, hown, ht⟩ (sX10_hasHouse l G cs adm qm Fm Am Bm Dm hIm qms Fms Ams Bms Dms hIms qmh Fmh Amh Bmh Dmh hImh ) okV_RX10_152 ⟨by decide, by decide⟩ hK hP [0, 1, 2, 3, 4, 5, 6, 7, 8, 9, 10, 11, 12] rfl 0 rfl rfl hl.1 rfl (Nat.le_of_ble_eq_true rfl) dX10_askRow_9 ⟨by decide, by decide⟩) hP hS (fun _ h => h) (fun r4 H locs hr4 hP hS => ?_)
    have hr4 : (0 : Int) ≤ r4.toInt ∧ r4.toInt ≤ 1 := hr4
    refine lv_if_eq (tgt := 19) hx hb dX10_askRow_12 (by decide) (fun c5 => ?_) (fun c5 => ?_)
    · have zc5 := eqK rfl (show (0 : Int32).toInt = 0 by decide) c5
      refine lv_bipush (v := (-2)) hx hb dX10_askRow_19 (by decide) ?_
      exact retRi hx hb hr hlk hS dX10_askRow_21 (⟨by have kk : (-2 : Int32).toInt = -2 := (by decide); omega, fun q9 => absurd q9 (by decide)⟩)
    · have zc5 := neK rfl (show (0 : Int32).toInt = 0 by decide) c5
      refine lv_iload_n hx hb dX10_askRow_15 rfl (lv_at hl 2 rfl) ?_
      refine lv_if_ne (tgt := 22) hx hb dX10_askRow_16 (by decide) (fun c6 => ?_) (fun c6 => ?_)
      · have zc6 := neK rfl (show (0 : Int32).toInt = 0 by decide) c6
        refine lv_aload_n hx hb dX10_askRow_22 rfl (lv_at hl 0 rfl) ?_
        refine getF (v := .ref (qm 5)) hx hb ht hown hK hP iTX10 0 5 rfl rfl (by decide) fl_RX10_41 rfl dX10_askRow_23 ?_
        refine lv_iload_n hx hb dX10_askRow_26 rfl (lv_at hl 1 rfl) ?_
        refine va_aldq hx hb hK.1 hP 2 5 rfl rfl (show ¬ (_ ∨ _) by decide) dX10_askRow_27 ?_
        refine W.eq (g2 := F0 m 28 ls [.ref (qm 22)]) rfl ?_
        refine getF (v := .int (Fr2 1)) hx hb ht hown hK hP iTX7 13 1 rfl rfl (by decide) fl_RX10_354 rfl dX10_askRow_28 ?_
        have zf7 : (0 : Int) ≤ (Fr2 1).toInt ∧ (Fr2 1).toInt ≤ 1 := hIr2.1 1
        refine lv_if_ne (tgt := 37) hx hb dX10_askRow_31 (by decide) (fun c8 => ?_) (fun c8 => ?_)
        · have zc8 := neK rfl (show (0 : Int32).toInt = 0 by decide) c8
          refine lv_aload_n hx hb dX10_askRow_37 rfl (lv_at hl 0 rfl) ?_
          refine getF (v := .ref (qm 5)) hx hb ht hown hK hP iTX10 0 5 rfl rfl (by decide) fl_RX10_41 rfl dX10_askRow_38 ?_
          refine lv_iload_n hx hb dX10_askRow_41 rfl (lv_at hl 1 rfl) ?_
          refine va_aldq hx hb hK.1 hP 2 5 rfl rfl (show ¬ (_ ∨ _) by decide) dX10_askRow_42 ?_
          refine W.eq (g2 := F0 m 43 ls [.ref (qm 22)]) rfl ?_
          refine lv_iload_n hx hb dX10_askRow_43 rfl (lv_at hl 3 rfl) ?_
          refine lv_aload_n hx hb dX10_askRow_44 rfl (lv_at hl 0 rfl) ?_
          refine getF (v := .ref (qm 3)) hx hb ht hown hK hP iTX10 0 3 rfl rfl (by decide) fl_RX10_31 rfl dX10_askRow_45 ?_
          refine getF (v := .ref (qms 0)) hx hb ht hown hK hP iTX8 3 0 rfl rfl (by decide) fl_RX10_98 rfl dX10_askRow_48 ?_
          refine getF (v := .int (Fmh 5)) hx hb ht hown hK hP iTX3 5 5 rfl rfl (by decide) fl_RX10_159 rfl dX10_askRow_51 ?_
          have zf9 : (0 : Int) ≤ (Fmh 5).toInt ∧ (Fmh 5).toInt ≤ 7 := hImh.1 5
          refine lv_iconst (v := 1) hx hb dX10_askRow_54 (by decide) ?_
          refine lv_isub hx hb dX10_askRow_55 ?_
          refine lv_topi (fun v10 ev10 => ?_)
          have tv10 : v10.toInt = (Fmh 5).toInt - 1 := by rw [ev10]; exact subT rfl (show (1 : Int32).toInt = 1 by decide) (by omega)
          refine behR (runVP (As := [.int a3, .int v10]) (rest := []) ⟨hx, hb, hml, hown, ht⟩ (sX7_isWithin l G cs (qm 22) qr2 Fr2 Ar2 Br2 Dr2 hIr2 a3 v10 ) okV_RX10_385 ⟨by decide, by decide⟩ hK hP [13, 14] rfl 13 rfl rfl hl.1 rfl (Nat.le_of_ble_eq_true rfl) dX10_askRow_56 ⟨by decide, by decide⟩) hP hS (fun _ h => h) (fun r11 H locs hr11 hP hS => ?_)
          have hr11 : RWk r11 1 (Br2 0) a3.toInt v10.toInt (Fr2 3).toInt ∧ (0 : Int) ≤ r11.toInt ∧ r11.toInt ≤ 1 := hr11
          refine lv_if_eq (tgt := 66) hx hb dX10_askRow_59 (by decide) (fun c12 => ?_) (fun c12 => ?_)
          · have zc12 := eqK rfl (show (0 : Int32).toInt = 0 by decide) c12
            refine lv_bipush (v := (-2)) hx hb dX10_askRow_66 (by decide) ?_
            exact retRi hx hb hr hlk hS dX10_askRow_68 (⟨by have kk : (-2 : Int32).toInt = -2 := (by decide); omega, fun q9 => absurd q9 (by decide)⟩)
          · have zc12 := neK rfl (show (0 : Int32).toInt = 0 by decide) c12
            refine lv_iconst (v := 0) hx hb dX10_askRow_62 (by decide) ?_
            refine lv_goto (tgt := 68) hx hb dX10_askRow_63 (by decide) ?_
            exact retRi hx hb hr hlk hS dX10_askRow_68 (⟨by have kk : (0 : Int32).toInt = 0 := (by decide); omega, fun q9 i9 h9 => (by have z9 := hr11.1 (by omega) i9 h9; omega)⟩)
        · have zc8 := eqK rfl (show (0 : Int32).toInt = 0 by decide) c8
          refine lv_bipush (v := (-6)) hx hb dX10_askRow_34 (by decide) ?_
          exact retRi hx hb hr hlk hS dX10_askRow_36 (⟨by have kk : (-6 : Int32).toInt = -6 := (by decide); omega, fun q9 => absurd q9 (by decide)⟩)
      · have zc6 := eqK rfl (show (0 : Int32).toInt = 0 by decide) c6
        refine lv_bipush (v := (-2)) hx hb dX10_askRow_19 (by decide) ?_
        exact retRi hx hb hr hlk hS dX10_askRow_21 (⟨by have kk : (-2 : Int32).toInt = -2 := (by decide); omega, fun q9 => absurd q9 (by decide)⟩)

set_option maxRecDepth 100000 in
set_option maxHeartbeats 16000000 in
theorem sX10_askRow_3 (l : Launch) (G : va_G) (cs : Nat → ClassId) (adm : Nat) (qm : Nat → Nat) (Fm : Nat → Int32) (Am : Nat → Nat → Int32) (Bm : Nat → Nat → Int64) (Dm : Int64) (hIm : IX10 Fm Am) (qms : Nat → Nat) (Fms : Nat → Int32) (Ams : Nat → Nat → Int32) (Bms : Nat → Nat → Int64) (Dms : Int64) (hIms : IX8 Fms Ams) (qmh : Nat → Nat) (Fmh : Nat → Int32) (Amh : Nat → Nat → Int32) (Bmh : Nat → Nat → Int64) (Dmh : Int64) (hImh : IX3 Fmh Amh) (qr3 : Nat → Nat) (Fr3 : Nat → Int32) (Ar3 : Nat → Nat → Int32) (Br3 : Nat → Nat → Int64) (Dr3 : Int64) (hIr3 : IX7 Fr3 Ar3) (a2 : Int32) (a3 : Int32) (ha2 : (0 : Int) ≤ a2.toInt ∧ a2.toInt ≤ 1) : ∀ sz : Nat, Met l yX10_askRow (wk yX10_askRow cX10_askRow 4 (some .int)) (rmk 1 0 0) (PreP G (TY cs) [.ref adm, .int 3, .int a2, .int a3] ((uX10 cs adm qm Fm Am Bm Dm) ++ ((uX8 cs (qm 3) qms Fms Ams Bms Dms) ++ ((uX3 cs (qms 0) qmh Fmh Amh Bmh Dmh) ++ (uX7 cs (qm 23) qr3 Fr3 Ar3 Br3 Dr3)))) sz) (QRi (fun r : Int32 => ((r.toInt = 0 ∧ a2.toInt = 1) ∨ r.toInt = -2 ∨ r.toInt = -6) ∧ RWk r 0 (Br3 0) a3.toInt ((Fmh 5).toInt - 1) (Fr3 3).toInt) sz) 0 0 (fun q => sz ≤ q) := by
  refine mkP (Qc := QRi (fun r : Int32 => ((r.toInt = 0 ∧ a2.toInt = 1) ∨ r.toInt = -2 ∨ r.toInt = -6) ∧ RWk r 0 (Br3 0) a3.toInt ((Fmh 5).toInt - 1) (Fr3 3).toInt)) (by decide) (by simp [lg_sl, Value.category]) ?_
  intro p e s m args below meth c ls hx hb hml hr hlk hown ht hK hP hS hl
  have hl : lv_has ls 4 [(0, .ref adm), (1, .int 3), (2, .int a2), (3, .int a3)] := hl
  refine lv_aload_n hx hb dX10_askRow_0 rfl (lv_at hl 0 rfl) ?_
  refine lv_iload_n hx hb dX10_askRow_1 rfl (lv_at hl 1 rfl) ?_
  refine behR (runVP (As := [.int 3]) (rest := []) ⟨hx, hb, hml, hown, ht⟩ (sX10_isSlot l G cs adm qm Fm Am Bm Dm hIm 3 ) okV_RX10_348 ⟨by decide, by decide⟩ hK hP [0, 1, 2] rfl 0 rfl rfl hl.1 rfl (Nat.le_of_ble_eq_true rfl) dX10_askRow_2 ⟨by decide, by decide⟩) hP hS (fun _ h => h) (fun r1 H locs hr1 hP hS => ?_)
  have kk2 : (3 : Int32).toInt = 3 := by decide
  have hr1 : (r1.toInt = 1 ∧ 0 ≤ (3 : Int32).toInt ∧ (3 : Int32).toInt ≤ 3) ∨ (r1.toInt = 0 ∧ ((3 : Int32).toInt < 0 ∨ 3 < (3 : Int32).toInt)) := hr1
  refine lv_if_eq (tgt := 19) hx hb dX10_askRow_5 (by decide) (fun c3 => ?_) (fun c3 => ?_)
  · have zc3 := eqK rfl (show (0 : Int32).toInt = 0 by decide) c3
    refine lv_bipush (v := (-2)) hx hb dX10_askRow_19 (by decide) ?_
    exact retRi hx hb hr hlk hS dX10_askRow_21 (⟨by have kk : (-2 : Int32).toInt = -2 := (by decide); omega, fun q9 => absurd q9 (by decide)⟩)
  · have zc3 := neK rfl (show (0 : Int32).toInt = 0 by decide) c3
    refine lv_aload_n hx hb dX10_askRow_8 rfl (lv_at hl 0 rfl) ?_
    refine behR (runVP (As := []) (rest := []) ⟨hx, hb, hml, hown, ht⟩ (sX10_hasHouse l G cs adm qm Fm Am Bm Dm hIm qms Fms Ams Bms Dms hIms qmh Fmh Amh Bmh Dmh hImh ) okV_RX10_152 ⟨by decide, by decide⟩ hK hP [0, 1, 2, 3, 4, 5, 6, 7, 8, 9, 10, 11, 12] rfl 0 rfl rfl hl.1 rfl (Nat.le_of_ble_eq_true rfl) dX10_askRow_9 ⟨by decide, by decide⟩) hP hS (fun _ h => h) (fun r4 H locs hr4 hP hS => ?_)
    have hr4 : (0 : Int) ≤ r4.toInt ∧ r4.toInt ≤ 1 := hr4
    refine lv_if_eq (tgt := 19) hx hb dX10_askRow_12 (by decide) (fun c5 => ?_) (fun c5 => ?_)
    · have zc5 := eqK rfl (show (0 : Int32).toInt = 0 by decide) c5
      refine lv_bipush (v := (-2)) hx hb dX10_askRow_19 (by decide) ?_
      exact retRi hx hb hr hlk hS dX10_askRow_21 (⟨by have kk : (-2 : Int32).toInt = -2 := (by decide); omega, fun q9 => absurd q9 (by decide)⟩)
    · have zc5 := neK rfl (show (0 : Int32).toInt = 0 by decide) c5
      refine lv_iload_n hx hb dX10_askRow_15 rfl (lv_at hl 2 rfl) ?_
      refine lv_if_ne (tgt := 22) hx hb dX10_askRow_16 (by decide) (fun c6 => ?_) (fun c6 => ?_)
      · have zc6 := neK rfl (show (0 : Int32).toInt = 0 by decide) c6
        refine lv_aload_n hx hb dX10_askRow_22 rfl (lv_at hl 0 rfl) ?_
        refine getF (v := .ref (qm 5)) hx hb ht hown hK hP iTX10 0 5 rfl rfl (by decide) fl_RX10_41 rfl dX10_askRow_23 ?_
        refine lv_iload_n hx hb dX10_askRow_26 rfl (lv_at hl 1 rfl) ?_
        refine va_aldq hx hb hK.1 hP 2 5 rfl rfl (show ¬ (_ ∨ _) by decide) dX10_askRow_27 ?_
        refine W.eq (g2 := F0 m 28 ls [.ref (qm 23)]) rfl ?_
        refine getF (v := .int (Fr3 1)) hx hb ht hown hK hP iTX7 13 1 rfl rfl (by decide) fl_RX10_354 rfl dX10_askRow_28 ?_
        have zf7 : (0 : Int) ≤ (Fr3 1).toInt ∧ (Fr3 1).toInt ≤ 1 := hIr3.1 1
        refine lv_if_ne (tgt := 37) hx hb dX10_askRow_31 (by decide) (fun c8 => ?_) (fun c8 => ?_)
        · have zc8 := neK rfl (show (0 : Int32).toInt = 0 by decide) c8
          refine lv_aload_n hx hb dX10_askRow_37 rfl (lv_at hl 0 rfl) ?_
          refine getF (v := .ref (qm 5)) hx hb ht hown hK hP iTX10 0 5 rfl rfl (by decide) fl_RX10_41 rfl dX10_askRow_38 ?_
          refine lv_iload_n hx hb dX10_askRow_41 rfl (lv_at hl 1 rfl) ?_
          refine va_aldq hx hb hK.1 hP 2 5 rfl rfl (show ¬ (_ ∨ _) by decide) dX10_askRow_42 ?_
          refine W.eq (g2 := F0 m 43 ls [.ref (qm 23)]) rfl ?_
          refine lv_iload_n hx hb dX10_askRow_43 rfl (lv_at hl 3 rfl) ?_
          refine lv_aload_n hx hb dX10_askRow_44 rfl (lv_at hl 0 rfl) ?_
          refine getF (v := .ref (qm 3)) hx hb ht hown hK hP iTX10 0 3 rfl rfl (by decide) fl_RX10_31 rfl dX10_askRow_45 ?_
          refine getF (v := .ref (qms 0)) hx hb ht hown hK hP iTX8 3 0 rfl rfl (by decide) fl_RX10_98 rfl dX10_askRow_48 ?_
          refine getF (v := .int (Fmh 5)) hx hb ht hown hK hP iTX3 5 5 rfl rfl (by decide) fl_RX10_159 rfl dX10_askRow_51 ?_
          have zf9 : (0 : Int) ≤ (Fmh 5).toInt ∧ (Fmh 5).toInt ≤ 7 := hImh.1 5
          refine lv_iconst (v := 1) hx hb dX10_askRow_54 (by decide) ?_
          refine lv_isub hx hb dX10_askRow_55 ?_
          refine lv_topi (fun v10 ev10 => ?_)
          have tv10 : v10.toInt = (Fmh 5).toInt - 1 := by rw [ev10]; exact subT rfl (show (1 : Int32).toInt = 1 by decide) (by omega)
          refine behR (runVP (As := [.int a3, .int v10]) (rest := []) ⟨hx, hb, hml, hown, ht⟩ (sX7_isWithin l G cs (qm 23) qr3 Fr3 Ar3 Br3 Dr3 hIr3 a3 v10 ) okV_RX10_385 ⟨by decide, by decide⟩ hK hP [13, 14] rfl 13 rfl rfl hl.1 rfl (Nat.le_of_ble_eq_true rfl) dX10_askRow_56 ⟨by decide, by decide⟩) hP hS (fun _ h => h) (fun r11 H locs hr11 hP hS => ?_)
          have hr11 : RWk r11 1 (Br3 0) a3.toInt v10.toInt (Fr3 3).toInt ∧ (0 : Int) ≤ r11.toInt ∧ r11.toInt ≤ 1 := hr11
          refine lv_if_eq (tgt := 66) hx hb dX10_askRow_59 (by decide) (fun c12 => ?_) (fun c12 => ?_)
          · have zc12 := eqK rfl (show (0 : Int32).toInt = 0 by decide) c12
            refine lv_bipush (v := (-2)) hx hb dX10_askRow_66 (by decide) ?_
            exact retRi hx hb hr hlk hS dX10_askRow_68 (⟨by have kk : (-2 : Int32).toInt = -2 := (by decide); omega, fun q9 => absurd q9 (by decide)⟩)
          · have zc12 := neK rfl (show (0 : Int32).toInt = 0 by decide) c12
            refine lv_iconst (v := 0) hx hb dX10_askRow_62 (by decide) ?_
            refine lv_goto (tgt := 68) hx hb dX10_askRow_63 (by decide) ?_
            exact retRi hx hb hr hlk hS dX10_askRow_68 (⟨by have kk : (0 : Int32).toInt = 0 := (by decide); omega, fun q9 i9 h9 => (by have z9 := hr11.1 (by omega) i9 h9; omega)⟩)
        · have zc8 := eqK rfl (show (0 : Int32).toInt = 0 by decide) c8
          refine lv_bipush (v := (-6)) hx hb dX10_askRow_34 (by decide) ?_
          exact retRi hx hb hr hlk hS dX10_askRow_36 (⟨by have kk : (-6 : Int32).toInt = -6 := (by decide); omega, fun q9 => absurd q9 (by decide)⟩)
      · have zc6 := eqK rfl (show (0 : Int32).toInt = 0 by decide) c6
        refine lv_bipush (v := (-2)) hx hb dX10_askRow_19 (by decide) ?_
        exact retRi hx hb hr hlk hS dX10_askRow_21 (⟨by have kk : (-2 : Int32).toInt = -2 := (by decide); omega, fun q9 => absurd q9 (by decide)⟩)

set_option maxRecDepth 100000 in
set_option maxHeartbeats 16000000 in
theorem sX10_askRow_lo (l : Launch) (G : va_G) (cs : Nat → ClassId) (adm : Nat) (qm : Nat → Nat) (Fm : Nat → Int32) (Am : Nat → Nat → Int32) (Bm : Nat → Nat → Int64) (Dm : Int64) (hIm : IX10 Fm Am) (qms : Nat → Nat) (Fms : Nat → Int32) (Ams : Nat → Nat → Int32) (Bms : Nat → Nat → Int64) (Dms : Int64) (hIms : IX8 Fms Ams) (qmh : Nat → Nat) (Fmh : Nat → Int32) (Amh : Nat → Nat → Int32) (Bmh : Nat → Nat → Int64) (Dmh : Int64) (hImh : IX3 Fmh Amh) (a1 : Int32) (a2 : Int32) (a3 : Int32) (ha1 : (-2147483648 : Int) ≤ a1.toInt ∧ a1.toInt ≤ -1) (ha2 : (0 : Int) ≤ a2.toInt ∧ a2.toInt ≤ 1) : ∀ sz : Nat, Met l yX10_askRow (wk yX10_askRow cX10_askRow 4 (some .int)) (rmk 1 0 0) (PreP G (TY cs) [.ref adm, .int a1, .int a2, .int a3] ((uX10 cs adm qm Fm Am Bm Dm) ++ ((uX8 cs (qm 3) qms Fms Ams Bms Dms) ++ (uX3 cs (qms 0) qmh Fmh Amh Bmh Dmh))) sz) (QRi (fun r : Int32 => r.toInt = -2) sz) 0 0 (fun q => sz ≤ q) := by
  refine mkP (Qc := QRi (fun r : Int32 => r.toInt = -2)) (by decide) (by simp [lg_sl, Value.category]) ?_
  intro p e s m args below meth c ls hx hb hml hr hlk hown ht hK hP hS hl
  have hl : lv_has ls 4 [(0, .ref adm), (1, .int a1), (2, .int a2), (3, .int a3)] := hl
  refine lv_aload_n hx hb dX10_askRow_0 rfl (lv_at hl 0 rfl) ?_
  refine lv_iload_n hx hb dX10_askRow_1 rfl (lv_at hl 1 rfl) ?_
  refine behR (runVP (As := [.int a1]) (rest := []) ⟨hx, hb, hml, hown, ht⟩ (sX10_isSlot l G cs adm qm Fm Am Bm Dm hIm a1 ) okV_RX10_348 ⟨by decide, by decide⟩ hK hP [0, 1, 2] rfl 0 rfl rfl hl.1 rfl (Nat.le_of_ble_eq_true rfl) dX10_askRow_2 ⟨by decide, by decide⟩) hP hS (fun _ h => h) (fun r1 H locs hr1 hP hS => ?_)
  have hr1 : (r1.toInt = 1 ∧ 0 ≤ a1.toInt ∧ a1.toInt ≤ 3) ∨ (r1.toInt = 0 ∧ (a1.toInt < 0 ∨ 3 < a1.toInt)) := hr1
  refine lv_if_eq (tgt := 19) hx hb dX10_askRow_5 (by decide) (fun c2 => ?_) (fun c2 => ?_)
  · have zc2 := eqK rfl (show (0 : Int32).toInt = 0 by decide) c2
    refine lv_bipush (v := (-2)) hx hb dX10_askRow_19 (by decide) ?_
    exact retRi hx hb hr hlk hS dX10_askRow_21 (show (-2 : Int32).toInt = -2 by have kk : (-2 : Int32).toInt = -2 := (by decide); omega)
  · exact False.elim (by have zc2 := neK rfl (show (0 : Int32).toInt = 0 by decide) c2; omega)

