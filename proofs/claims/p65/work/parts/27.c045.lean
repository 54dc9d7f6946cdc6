set_option maxRecDepth 100000 in
set_option maxHeartbeats 16000000 in
theorem sX10_walks_hi (l : Launch) (G : va_G) (cs : Nat → ClassId) (adm : Nat) (qm : Nat → Nat) (Fm : Nat → Int32) (Am : Nat → Nat → Int32) (Bm : Nat → Nat → Int64) (Dm : Int64) (hIm : IX10 Fm Am) (qms : Nat → Nat) (Fms : Nat → Int32) (Ams : Nat → Nat → Int32) (Bms : Nat → Nat → Int64) (Dms : Int64) (hIms : IX8 Fms Ams) (qmh : Nat → Nat) (Fmh : Nat → Int32) (Amh : Nat → Nat → Int32) (Bmh : Nat → Nat → Int64) (Dmh : Int64) (hImh : IX3 Fmh Amh) (a1 : Int32) (a2 : Int32) (ha1 : (4 : Int) ≤ a1.toInt ∧ a1.toInt ≤ 2147483647) : ∀ sz : Nat, Met l yX10_walks (wk yX10_walks cX10_walks 4 (some .int)) (rmk 3 0 0) (PreP G (TY cs) [.ref adm, .int a1, .int a2] ((uX10 cs adm qm Fm Am Bm Dm) ++ ((uX8 cs (qm 3) qms Fms Ams Bms Dms) ++ (uX3 cs (qms 0) qmh Fmh Amh Bmh Dmh))) sz) (QRi (fun r : Int32 => True) sz) 0 0 (fun q => sz ≤ q) := by
  refine mkP (Qc := QRi (fun r : Int32 => True)) (by decide) (by simp [lg_sl, Value.category]) ?_
  intro p e s m args below meth c ls hx hb hml hr hlk hown ht hK hP hS hl
  have hl : lv_has ls 4 [(0, .ref adm), (1, .int a1), (2, .int a2)] := hl
  refine lv_aload_n hx hb dX10_walks_0 rfl (lv_at hl 0 rfl) ?_
  refine lv_iload_n hx hb dX10_walks_1 rfl (lv_at hl 1 rfl) ?_
  refine lv_aload_n hx hb dX10_walks_2 rfl (lv_at hl 0 rfl) ?_
  refine lv_iload_n hx hb dX10_walks_3 rfl (lv_at hl 2 rfl) ?_
  refine behR (runVP (As := [.int a2]) (rest := [.int a1, .ref adm]) ⟨hx, hb, hml, hown, ht⟩ (sX10_isRoom l G cs adm qm Fm Am Bm Dm hIm qms Fms Ams Bms Dms hIms qmh Fmh Amh Bmh Dmh hImh a2 ) okV_RX10_120 ⟨by decide, by decide⟩ hK hP [0, 1, 2, 3, 4, 5, 6, 7, 8, 9, 10, 11, 12] rfl 0 rfl rfl hl.1 rfl (Nat.le_of_ble_eq_true rfl) dX10_walks_4 ⟨by decide, by decide⟩) hP hS (fun _ h => h) (fun r1 H locs hr1 hP hS => ?_)
  have hr1 : (r1.toInt = 1 ∧ 0 ≤ a2.toInt ∧ a2.toInt < (Fmh 5).toInt ∧ a2.toInt ≤ 6) ∨ r1.toInt = 0 := hr1
  have bb2 := i32b a1
  refine behR (runVP (As := [.int a1, .int r1]) (rest := []) ⟨hx, hb, hml, hown, ht⟩ (sX10_askRound_hi l G cs adm qm Fm Am Bm Dm hIm qms Fms Ams Bms Dms hIms qmh Fmh Amh Bmh Dmh hImh a1 r1 (by omega) (by omega)) okV_RX10_186 ⟨by decide, by decide⟩ hK hP [0, 1, 2, 3, 4, 5, 6, 7, 8, 9, 10, 11, 12] rfl 0 rfl rfl hl.1 rfl (Nat.le_of_ble_eq_true rfl) dX10_walks_7 ⟨by decide, by decide⟩) hP hS (fun _ h => h) (fun r3 H locs hr3 hP hS => ?_)
  have hr3 : r3.toInt = -2 := hr3
  refine lv_istore_n (lv' := [(3, .int r3), (0, .ref adm), (1, .int a1), (2, .int a2)]) hx hb dX10_walks_10 rfl hl (by decide) rfl (fun ls hl => ?_)
  refine lv_iload_n hx hb dX10_walks_11 rfl (lv_at hl 0 rfl) ?_
  refine lv_if_eq (tgt := 17) hx hb dX10_walks_12 (by decide) (fun c4 => False.elim (by have zz := eqK rfl (show (0 : Int32).toInt = 0 by decide) c4; omega)) (fun c4 => ?_)
  refine lv_iload_n hx hb dX10_walks_15 rfl (lv_at hl 0 rfl) ?_
  exact retRi hx hb hr hlk hS dX10_walks_16 (trivial)

set_option maxRecDepth 100000 in
set_option maxHeartbeats 16000000 in
theorem sX10_slips_0 (l : Launch) (G : va_G) (cs : Nat → ClassId) (adm : Nat) (qm : Nat → Nat) (Fm : Nat → Int32) (Am : Nat → Nat → Int32) (Bm : Nat → Nat → Int64) (Dm : Int64) (hIm : IX10 Fm Am) (qms : Nat → Nat) (Fms : Nat → Int32) (Ams : Nat → Nat → Int32) (Bms : Nat → Nat → Int64) (Dms : Int64) (hIms : IX8 Fms Ams) (qmh : Nat → Nat) (Fmh : Nat → Int32) (Amh : Nat → Nat → Int32) (Bmh : Nat → Nat → Int64) (Dmh : Int64) (hImh : IX3 Fmh Amh) (qr0 : Nat → Nat) (Fr0 : Nat → Int32) (Ar0 : Nat → Nat → Int32) (Br0 : Nat → Nat → Int64) (Dr0 : Int64) (hIr0 : IX7 Fr0 Ar0) (a2 : Int32) : ∀ sz : Nat, Met l yX10_slips (wk yX10_slips cX10_slips 9 (some .int)) (rmk 4 0 0) (PreP G (TY cs) [.ref adm, .int 0, .int a2] ((uX10 cs adm qm Fm Am Bm Dm) ++ ((uX8 cs (qm 3) qms Fms Ams Bms Dms) ++ ((uX3 cs (qms 0) qmh Fmh Amh Bmh Dmh) ++ (uX7 cs (qm 20) qr0 Fr0 Ar0 Br0 Dr0)))) sz) (QRi (fun r : Int32 => True) sz) 0 0 (fun q => sz ≤ q) := by
  refine mkP (Qc := QRi (fun r : Int32 => True)) (by decide) (by simp [lg_sl, Value.category]) ?_
  intro p e s m args below meth c ls hx hb hml hr hlk hown ht hK hP hS hl
  have hl : lv_has ls 9 [(0, .ref adm), (1, .int 0), (2, .int a2)] := hl
  refine lv_aload_n hx hb dX10_slips_0 rfl (lv_at hl 0 rfl) ?_
  refine lv_iload_n hx hb dX10_slips_1 rfl (lv_at hl 1 rfl) ?_
  refine lv_aload_n hx hb dX10_slips_2 rfl (lv_at hl 0 rfl) ?_
  refine lv_iload_n hx hb dX10_slips_3 rfl (lv_at hl 2 rfl) ?_
  refine behR (runVP (As := [.int a2]) (rest := [.int 0, .ref adm]) ⟨hx, hb, hml, hown, ht⟩ (sX10_isRoom l G cs adm qm Fm Am Bm Dm hIm qms Fms Ams Bms Dms hIms qmh Fmh Amh Bmh Dmh hImh a2 ) okV_RX10_120 ⟨by decide, by decide⟩ hK hP [0, 1, 2, 3, 4, 5, 6, 7, 8, 9, 10, 11, 12] rfl 0 rfl rfl hl.1 rfl (Nat.le_of_ble_eq_true rfl) dX10_slips_4 ⟨by decide, by decide⟩) hP hS (fun _ h => h) (fun r1 H locs hr1 hP hS => ?_)
  have hr1 : (r1.toInt = 1 ∧ 0 ≤ a2.toInt ∧ a2.toInt < (Fmh 5).toInt ∧ a2.toInt ≤ 6) ∨ r1.toInt = 0 := hr1
  refine behR (runVP (As := [.int 0, .int r1]) (rest := []) ⟨hx, hb, hml, hown, ht⟩ (sX10_askRound_0 l G cs adm qm Fm Am Bm Dm hIm qms Fms Ams Bms Dms hIms qmh Fmh Amh Bmh Dmh hImh qr0 Fr0 Ar0 Br0 Dr0 hIr0 r1 (by omega)) okV_RX10_186 ⟨by decide, by decide⟩ hK hP [0, 1, 2, 3, 4, 5, 6, 7, 8, 9, 10, 11, 12, 13, 14] rfl 0 rfl rfl hl.1 rfl (Nat.le_of_ble_eq_true rfl) dX10_slips_7 ⟨by decide, by decide⟩) hP hS (fun _ h => h) (fun r2 H locs hr2 hP hS => ?_)
  have kk3 : (0 : Int32).toInt = 0 := by decide
  have hr2 : ((r2.toInt = 0 ∧ r1.toInt = 1) ∨ r2.toInt = -2 ∨ r2.toInt = -6) ∧ RWk r2 0 (Br0 0) (-1) ((Fmh 5).toInt - 1) (Fr0 3).toInt := hr2
  refine lv_istore_n (lv' := [(3, .int r2), (0, .ref adm), (1, .int 0), (2, .int a2)]) hx hb dX10_slips_10 rfl hl (by decide) rfl (fun ls hl => ?_)
  refine lv_iload_n hx hb dX10_slips_11 rfl (lv_at hl 0 rfl) ?_
  refine lv_if_eq (tgt := 17) hx hb dX10_slips_12 (by decide) (fun c4 => ?_) (fun c4 => ?_)
  · have zc4 := eqK rfl (show (0 : Int32).toInt = 0 by decide) c4
    refine lv_aload_n hx hb dX10_slips_17 rfl (lv_at hl 1 rfl) ?_
    refine getF (v := .ref (qm 5)) hx hb ht hown hK hP iTX10 0 5 rfl rfl (by decide) fl_RX10_41 rfl dX10_slips_18 ?_
    refine lv_iload_n hx hb dX10_slips_21 rfl (lv_at hl 2 rfl) ?_
    refine va_aldq hx hb hK.1 hP 2 5 rfl rfl (show ¬ (_ ∨ _) by decide) dX10_slips_22 ?_
    refine W.eq (g2 := F0 m 23 ls [.ref (qm 20)]) rfl ?_
    refine lv_astore (lv' := [(4, .ref (qm 20)), (3, .int r2), (0, .ref adm), (1, .int 0), (2, .int a2)]) hx hb dX10_slips_23 hl (by decide) rfl (fun ls hl => ?_)
    refine lv_aload_n hx hb dX10_slips_25 rfl (lv_at hl 2 rfl) ?_
    refine lv_aload hx hb dX10_slips_26 (lv_at hl 0 rfl) ?_
    refine lv_iload_n hx hb dX10_slips_28 rfl (lv_at hl 4 rfl) ?_
    refine behR (runVP (As := [.ref (qm 20), .int a2]) (rest := []) ⟨hx, hb, hml, hown, ht⟩ (sX10_canWalk l G cs adm qm Fm Am Bm Dm hIm qms Fms Ams Bms Dms hIms qmh Fmh Amh Bmh Dmh hImh (qm 20) qr0 Fr0 Ar0 Br0 Dr0 hIr0 a2 ) okV_RX10_208 ⟨by decide, by decide⟩ hK hP [0, 1, 2, 3, 4, 5, 6, 7, 8, 9, 10, 11, 12, 13, 14] rfl 0 rfl rfl hl.1 rfl (Nat.le_of_ble_eq_true rfl) dX10_slips_29 ⟨by decide, by decide⟩) hP hS (fun _ h => h) (fun r5 H locs hr5 hP hS => ?_)
    have hr5 : (0 : Int) ≤ r5.toInt ∧ r5.toInt ≤ 1 := hr5
    refine lv_if_ne (tgt := 38) hx hb dX10_slips_32 (by decide) (fun c6 => ?_) (fun c6 => ?_)
    · have zc6 := neK rfl (show (0 : Int32).toInt = 0 by decide) c6
      refine lv_iload_n hx hb dX10_slips_38 rfl (lv_at hl 4 rfl) ?_
      refine lv_istore (lv' := [(5, .int a2), (4, .ref (qm 20)), (3, .int r2), (0, .ref adm), (1, .int 0), (2, .int a2)]) hx hb dX10_slips_39 hl (by decide) rfl (fun ls hl => ?_)
      refine lv_aload_n hx hb dX10_slips_41 rfl (lv_at hl 3 rfl) ?_
      refine getF (v := .ref (qm 3)) hx hb ht hown hK hP iTX10 0 3 rfl rfl (by decide) fl_RX10_31 rfl dX10_slips_42 ?_
      refine getF (v := .ref (qms 0)) hx hb ht hown hK hP iTX8 3 0 rfl rfl (by decide) fl_RX10_98 rfl dX10_slips_45 ?_
      refine behR (runVP (As := []) (rest := []) ⟨hx, hb, hml, hown, ht⟩ (sX3_allRooms l G cs (qms 0) qmh Fmh Amh Bmh Dmh hImh ) okV_RX10_238 ⟨by decide, by decide⟩ hK hP [5, 6, 7, 8, 9, 10, 11, 12] rfl 5 rfl rfl hl.1 rfl (Nat.le_of_ble_eq_true rfl) dX10_slips_48 ⟨by decide, by decide⟩) hP hS (fun _ h => h) (fun r7 H locs hr7 hP hS => ?_)
      have hr7 : (0 : Int) ≤ r7.toInt ∧ r7.toInt ≤ 127 := hr7
      refine lv_iconst (v := 1) hx hb dX10_slips_51 (by decide) ?_
      refine lv_iload hx hb dX10_slips_52 (lv_at hl 0 rfl) ?_
      refine lv_ishl hx hb dX10_slips_54 ?_
      refine lv_topi (fun v8 ev8 => ?_)
      refine lv_iconst (v := (-1)) hx hb dX10_slips_55 (by decide) ?_
      refine lv_ixor hx hb dX10_slips_56 ?_
      refine lv_topi (fun v9 ev9 => ?_)
      refine lv_iand hx hb dX10_slips_57 ?_
      refine lv_topi (fun v10 ev10 => ?_)
      have tv10 : 0 ≤ v10.toInt ∧ v10.toInt ≤ 127 := by rw [ev10]; exact andA 7 rfl (by omega) (by decide)
      refine lv_istore (lv' := [(6, .int v10), (5, .int a2), (4, .ref (qm 20)), (3, .int r2), (0, .ref adm), (1, .int 0), (2, .int a2)]) hx hb dX10_slips_58 hl (by decide) rfl (fun ls hl => ?_)
      refine lv_iconst (v := 0) hx hb dX10_slips_60 (by decide) ?_
      refine lv_istore (lv' := [(7, .int 0), (6, .int v10), (5, .int a2), (4, .ref (qm 20)), (3, .int r2), (0, .ref adm), (1, .int 0), (2, .int a2)]) hx hb dX10_slips_61 hl (by decide) rfl (fun ls hl => ?_)
      have B63 : ∀ (n : Nat) (x63_5 : Int32) (x63_6 : Int32) (x63_7 : Int32) (H : Heap) (locs : List Loc) (ls : Array Slot), (60 - x63_7.toInt).toNat < n → (0 : Int) ≤ x63_6.toInt ∧ x63_6.toInt ≤ 127 → (0 : Int) ≤ x63_7.toInt ∧ x63_7.toInt ≤ 60 → va_P G vwCl ((uX10 cs adm qm Fm Am Bm Dm) ++ ((uX8 cs (qm 3) qms Fms Ams Bms Dms) ++ ((uX3 cs (qms 0) qmh Fmh Amh Bmh Dmh) ++ (uX7 cs (qm 20) qr0 Fr0 Ar0 Br0 Dr0)))) H → va_S (fun q => s.heap.size ≤ q) s.heap H locs → lv_has ls 9 [(0, .ref adm), (4, .ref (qm 20)), (5, .int x63_5), (6, .int x63_6), (7, .int x63_7)] → W p l e (rmk 4 0 0) s m args below meth c H locs 0 0 (MQ below (QRi (fun r : Int32 => True) s.heap.size) args s 0 0 (fun q => s.heap.size ≤ q)) (F0 m 63 ls []) := by
        intro n
        induction n with
        | zero => intro x63_5 x63_6 x63_7 H locs ls hmeas hx63_6 hx63_7 hP hS hl; exact absurd hmeas (Nat.not_lt_zero _)
        | succ n ih63 =>
          intro x63_5 x63_6 x63_7 H locs ls hmeas hx63_6 hx63_7 hP hS hl
          refine lv_iload hx hb dX10_slips_63 (lv_at hl 4 rfl) ?_
          refine lv_aload hx hb dX10_slips_65 (lv_at hl 1 rfl) ?_
          refine getF (v := .int (Fr0 3)) hx hb ht hown hK hP iTX7 13 3 rfl rfl (by decide) fl_RX10_194 rfl dX10_slips_67 ?_
          have zf39001 : (0 : Int) ≤ (Fr0 3).toInt ∧ (Fr0 3).toInt ≤ 60 := hIr0.1 3
          refine lv_icmp_ge (tgt := 119) hx hb dX10_slips_70 (by decide) (fun c39002 => ?_) (fun c39002 => ?_)
          · have zc39002 := leK rfl rfl c39002
            refine lv_iload hx hb dX10_slips_119 (lv_at hl 3 rfl) ?_
            exact retRi hx hb hr hlk hS dX10_slips_121 (trivial)
          · have zc39002 := nleK rfl rfl c39002
            refine lv_aload hx hb dX10_slips_73 (lv_at hl 1 rfl) ?_
            refine lv_iload hx hb dX10_slips_75 (lv_at hl 4 rfl) ?_
            refine behR (runVP (As := [.int x63_7]) (rest := []) ⟨hx, hb, hml, hown, ht⟩ (sX7_roomAt l G cs (qm 20) qr0 Fr0 Ar0 Br0 Dr0 hIr0 x63_7 ) okV_RX10_195 ⟨by decide, by decide⟩ hK hP [13, 14] rfl 13 rfl rfl hl.1 rfl (Nat.le_of_ble_eq_true rfl) dX10_slips_77 ⟨by decide, by decide⟩) hP hS (fun _ h => h) (fun r39003 H locs hr39003 hP hS => ?_)
            have hr39003 : RAt r39003 x63_7 (Br0 0) (Fr0 3).toInt := hr39003
            have z5r39003 : (0 : Int) ≤ (Fmh 5).toInt ∧ (Fmh 5).toInt ≤ 7 := hImh.1 5
            have zbr39003 := RWr hr39003 (hr2.2 (by omega)) (by omega) (by omega) (by omega) (by omega)
            refine lv_istore (lv' := [(8, .int r39003), (0, .ref adm), (4, .ref (qm 20)), (5, .int x63_5), (6, .int x63_6), (7, .int x63_7)]) hx hb dX10_slips_80 hl (by decide) rfl (fun ls hl => ?_)
            refine lv_iload hx hb dX10_slips_82 (lv_at hl 0 rfl) ?_
            refine lv_iconst (v := (-1)) hx hb dX10_slips_84 (by decide) ?_
            have B92 : ∀ (x92_5 : Int32) (H : Heap) (locs : List Loc) (ls : Array Slot), va_P G vwCl ((uX10 cs adm qm Fm Am Bm Dm) ++ ((uX8 cs (qm 3) qms Fms Ams Bms Dms) ++ ((uX3 cs (qms 0) qmh Fmh Amh Bmh Dmh) ++ (uX7 cs (qm 20) qr0 Fr0 Ar0 Br0 Dr0)))) H → va_S (fun q => s.heap.size ≤ q) s.heap H locs → lv_has ls 9 [(0, .ref adm), (4, .ref (qm 20)), (5, .int x92_5), (6, .int x63_6), (7, .int x63_7)] → W p l e (rmk 4 0 0) s m args below meth c H locs 0 0 (MQ below (QRi (fun r : Int32 => True) s.heap.size) args s 0 0 (fun q => s.heap.size ≤ q)) (F0 m 92 ls []) := by
              intro x92_5 H locs ls hP hS hl
              refine lv_aload_n hx hb dX10_slips_92 rfl (lv_at hl 0 rfl) ?_
              refine getF (v := .ref (qm 3)) hx hb ht hown hK hP iTX10 0 3 rfl rfl (by decide) fl_RX10_31 rfl dX10_slips_93 ?_
              refine getF (v := .ref (qms 0)) hx hb ht hown hK hP iTX8 3 0 rfl rfl (by decide) fl_RX10_98 rfl dX10_slips_96 ?_
              refine lv_iload hx hb dX10_slips_99 (lv_at hl 3 rfl) ?_
              refine behR (runVP (As := [.int x63_6]) (rest := []) ⟨hx, hb, hml, hown, ht⟩ (sX3_spread l G cs (qms 0) qmh Fmh Amh Bmh Dmh hImh x63_6 (by omega)) okV_RX10_229 ⟨by decide, by decide⟩ hK hP [5, 6, 7, 8, 9, 10, 11, 12] rfl 5 rfl rfl hl.1 rfl (Nat.le_of_ble_eq_true rfl) dX10_slips_101 ⟨by decide, by decide⟩) hP hS (fun _ h => h) (fun r52001 H locs hr52001 hP hS => ?_)
              have hr52001 : x63_6.toInt ≤ r52001.toInt ∧ r52001.toInt ≤ 127 := hr52001
              refine lv_iconst (v := 1) hx hb dX10_slips_104 (by decide) ?_
              refine lv_iload hx hb dX10_slips_105 (lv_at hl 2 rfl) ?_
              refine lv_ishl hx hb dX10_slips_107 ?_
              refine lv_topi (fun v52002 ev52002 => ?_)
              refine lv_iconst (v := (-1)) hx hb dX10_slips_108 (by decide) ?_
              refine lv_ixor hx hb dX10_slips_109 ?_
              refine lv_topi (fun v52003 ev52003 => ?_)
              refine lv_iand hx hb dX10_slips_110 ?_
              refine lv_topi (fun v52004 ev52004 => ?_)
              have tv52004 : 0 ≤ v52004.toInt ∧ v52004.toInt ≤ 127 := by rw [ev52004]; exact andA 7 rfl (by omega) (by decide)
              refine lv_istore (lv' := [(6, .int v52004), (0, .ref adm), (4, .ref (qm 20)), (5, .int x92_5), (7, .int x63_7)]) hx hb dX10_slips_111 hl (by decide) rfl (fun ls hl => ?_)
              obtain ⟨v52005, ev52005⟩ : ∃ z : Int32, z = x63_7 + 1 := ⟨_, rfl⟩
              have tv52005 : v52005.toInt = x63_7.toInt + 1 := by rw [ev52005]; exact addT rfl (by decide) (by omega)
              refine lv_iinc (v := v52005) (lv' := [(7, .int v52005), (6, .int v52004), (0, .ref adm), (4, .ref (qm 20)), (5, .int x92_5)]) hx hb dX10_slips_113 hl (k := 4) rfl (by rw [ev52005]; rfl) (by decide) rfl (fun ls hl => ?_)
              refine lv_goto (tgt := 63) hx hb dX10_slips_116 (by decide) ?_
              exact ih63 x92_5 v52004 v52005 H locs ls (by omega) (by omega) (by omega) hP hS (lv_sub hl [2, 3, 4, 1, 0] rfl)
            refine lv_icmp_eq (tgt := 92) hx hb dX10_slips_85 (by decide) (fun c39004 => ?_) (fun c39004 => ?_)
            · have zc39004 := eqK rfl (show (-1 : Int32).toInt = (-1) by decide) c39004
              exact B92 x63_5 H locs ls hP hS (lv_sub hl [1, 2, 3, 4, 5] rfl)
            · have zc39004 := neK rfl (show (-1 : Int32).toInt = (-1) by decide) c39004
              refine lv_iload hx hb dX10_slips_88 (lv_at hl 0 rfl) ?_
              refine lv_istore (lv' := [(5, .int r39003), (8, .int r39003), (0, .ref adm), (4, .ref (qm 20)), (6, .int x63_6), (7, .int x63_7)]) hx hb dX10_slips_90 hl (by decide) rfl (fun ls hl => ?_)
              exact B92 r39003 H locs ls hP hS (lv_sub hl [2, 3, 0, 4, 5] rfl)
      exact B63 _ a2 v10 0 H locs ls (Nat.lt_succ_self _) (by omega) (by decide) hP hS (lv_sub hl [5, 3, 2, 1, 0] rfl)
    · have zc6 := eqK rfl (show (0 : Int32).toInt = 0 by decide) c6
      refine lv_bipush (v := (-5)) hx hb dX10_slips_35 (by decide) ?_
      exact retRi hx hb hr hlk hS dX10_slips_37 (trivial)
  · have zc4 := neK rfl (show (0 : Int32).toInt = 0 by decide) c4
    refine lv_iload_n hx hb dX10_slips_15 rfl (lv_at hl 0 rfl) ?_
    exact retRi hx hb hr hlk hS dX10_slips_16 (trivial)

set_option maxRecDepth 100000 in
set_option maxHeartbeats 16000000 in
theorem sX10_slips_1 (l : Launch) (G : va_G) (cs : Nat → ClassId) (adm : Nat) (qm : Nat → Nat) (Fm : Nat → Int32) (Am : Nat → Nat → Int32) (Bm : Nat → Nat → Int64) (Dm : Int64) (hIm : IX10 Fm Am) (qms : Nat → Nat) (Fms : Nat → Int32) (Ams : Nat → Nat → Int32) (Bms : Nat → Nat → Int64) (Dms : Int64) (hIms : IX8 Fms Ams) (qmh : Nat → Nat) (Fmh : Nat → Int32) (Amh : Nat → Nat → Int32) (Bmh : Nat → Nat → Int64) (Dmh : Int64) (hImh : IX3 Fmh Amh) (qr1 : Nat → Nat) (Fr1 : Nat → Int32) (Ar1 : Nat → Nat → Int32) (Br1 : Nat → Nat → Int64) (Dr1 : Int64) (hIr1 : IX7 Fr1 Ar1) (a2 : Int32) : ∀ sz : Nat, Met l yX10_slips (wk yX10_slips cX10_slips 9 (some .int)) (rmk 4 0 0) (PreP G (TY cs) [.ref adm, .int 1, .int a2] ((uX10 cs adm qm Fm Am Bm Dm) ++ ((uX8 cs (qm 3) qms Fms Ams Bms Dms) ++ ((uX3 cs (qms 0) qmh Fmh Amh Bmh Dmh) ++ (uX7 cs (qm 21) qr1 Fr1 Ar1 Br1 Dr1)))) sz) (QRi (fun r : Int32 => True) sz) 0 0 (fun q => sz ≤ q) := by
  refine mkP (Qc := QRi (fun r : Int32 => True)) (by decide) (by simp [lg_sl, Value.category]) ?_
  intro p e s m args below meth c ls hx hb hml hr hlk hown ht hK hP hS hl
  have hl : lv_has ls 9 [(0, .ref adm), (1, .int 1), (2, .int a2)] := hl
  refine lv_aload_n hx hb dX10_slips_0 rfl (lv_at hl 0 rfl) ?_
  refine lv_iload_n hx hb dX10_slips_1 rfl (lv_at hl 1 rfl) ?_
  refine lv_aload_n hx hb dX10_slips_2 rfl (lv_at hl 0 rfl) ?_
  refine lv_iload_n hx hb dX10_slips_3 rfl (lv_at hl 2 rfl) ?_
  refine behR (runVP (As := [.int a2]) (rest := [.int 1, .ref adm]) ⟨hx, hb, hml, hown, ht⟩ (sX10_isRoom l G cs adm qm Fm Am Bm Dm hIm qms Fms Ams Bms Dms hIms qmh Fmh Amh Bmh Dmh hImh a2 ) okV_RX10_120 ⟨by decide, by decide⟩ hK hP [0, 1, 2, 3, 4, 5, 6, 7, 8, 9, 10, 11, 12] rfl 0 rfl rfl hl.1 rfl (Nat.le_of_ble_eq_true rfl) dX10_slips_4 ⟨by decide, by decide⟩) hP hS (fun _ h => h) (fun r1 H locs hr1 hP hS => ?_)
  have hr1 : (r1.toInt = 1 ∧ 0 ≤ a2.toInt ∧ a2.toInt < (Fmh 5).toInt ∧ a2.toInt ≤ 6) ∨ r1.toInt = 0 := hr1
  refine behR (runVP (As := [.int 1, .int r1]) (rest := []) ⟨hx, hb, hml, hown, ht⟩ (sX10_askRound_1 l G cs adm qm Fm Am Bm Dm hIm qms Fms Ams Bms Dms hIms qmh Fmh Amh Bmh Dmh hImh qr1 Fr1 Ar1 Br1 Dr1 hIr1 r1 (by omega)) okV_RX10_186 ⟨by decide, by decide⟩ hK hP [0, 1, 2, 3, 4, 5, 6, 7, 8, 9, 10, 11, 12, 13, 14] rfl 0 rfl rfl hl.1 rfl (Nat.le_of_ble_eq_true rfl) dX10_slips_7 ⟨by decide, by decide⟩) hP hS (fun _ h => h) (fun r2 H locs hr2 hP hS => ?_)
  have kk3 : (1 : Int32).toInt = 1 := by decide
  have hr2 : ((r2.toInt = 0 ∧ r1.toInt = 1) ∨ r2.toInt = -2 ∨ r2.toInt = -6) ∧ RWk r2 0 (Br1 0) (-1) ((Fmh 5).toInt - 1) (Fr1 3).toInt := hr2
  refine lv_istore_n (lv' := [(3, .int r2), (0, .ref adm), (1, .int 1), (2, .int a2)]) hx hb dX10_slips_10 rfl hl (by decide) rfl (fun ls hl => ?_)
  refine lv_iload_n hx hb dX10_slips_11 rfl (lv_at hl 0 rfl) ?_
  refine lv_if_eq (tgt := 17) hx hb dX10_slips_12 (by decide) (fun c4 => ?_) (fun c4 => ?_)
  · have zc4 := eqK rfl (show (0 : Int32).toInt = 0 by decide) c4
    refine lv_aload_n hx hb dX10_slips_17 rfl (lv_at hl 1 rfl) ?_
    refine getF (v := .ref (qm 5)) hx hb ht hown hK hP iTX10 0 5 rfl rfl (by decide) fl_RX10_41 rfl dX10_slips_18 ?_
    refine lv_iload_n hx hb dX10_slips_21 rfl (lv_at hl 2 rfl) ?_
    refine va_aldq hx hb hK.1 hP 2 5 rfl rfl (show ¬ (_ ∨ _) by decide) dX10_slips_22 ?_
    refine W.eq (g2 := F0 m 23 ls [.ref (qm 21)]) rfl ?_
    refine lv_astore (lv' := [(4, .ref (qm 21)), (3, .int r2), (0, .ref adm), (1, .int 1), (2, .int a2)]) hx hb dX10_slips_23 hl (by decide) rfl (fun ls hl => ?_)
    refine lv_aload_n hx hb dX10_slips_25 rfl (lv_at hl 2 rfl) ?_
    refine lv_aload hx hb dX10_slips_26 (lv_at hl 0 rfl) ?_
    refine lv_iload_n hx hb dX10_slips_28 rfl (lv_at hl 4 rfl) ?_
    refine behR (runVP (As := [.ref (qm 21), .int a2]) (rest := []) ⟨hx, hb, hml, hown, ht⟩ (sX10_canWalk l G cs adm qm Fm Am Bm Dm hIm qms Fms Ams Bms Dms hIms qmh Fmh Amh Bmh Dmh hImh (qm 21) qr1 Fr1 Ar1 Br1 Dr1 hIr1 a2 ) okV_RX10_208 ⟨by decide, by decide⟩ hK hP [0, 1, 2, 3, 4, 5, 6, 7, 8, 9, 10, 11, 12, 13, 14] rfl 0 rfl rfl hl.1 rfl (Nat.le_of_ble_eq_true rfl) dX10_slips_29 ⟨by decide, by decide⟩) hP hS (fun _ h => h) (fun r5 H locs hr5 hP hS => ?_)
    have hr5 : (0 : Int) ≤ r5.toInt ∧ r5.toInt ≤ 1 := hr5
    refine lv_if_ne (tgt := 38) hx hb dX10_slips_32 (by decide) (fun c6 => ?_) (fun c6 => ?_)
    · have zc6 := neK rfl (show (0 : Int32).toInt = 0 by decide) c6
      refine lv_iload_n hx hb dX10_slips_38 rfl (lv_at hl 4 rfl) ?_
      refine lv_istore (lv' := [(5, .int a2), (4, .ref (qm 21)), (3, .int r2), (0, .ref adm), (1, .int 1), (2, .int a2)]) hx hb dX10_slips_39 hl (by decide) rfl (fun ls hl => ?_)
      refine lv_aload_n hx hb dX10_slips_41 rfl (lv_at hl 3 rfl) ?_
      refine getF (v := .ref (qm 3)) hx hb ht hown hK hP iTX10 0 3 rfl rfl (by decide) fl_RX10_31 rfl dX10_slips_42 ?_
      refine getF (v := .ref (qms 0)) hx hb ht hown hK hP iTX8 3 0 rfl rfl (by decide) fl_RX10_98 rfl dX10_slips_45 ?_
      refine behR (runVP (As := []) (rest := []) ⟨hx, hb, hml, hown, ht⟩ (sX3_allRooms l G cs (qms 0) qmh Fmh Amh Bmh Dmh hImh ) okV_RX10_238 ⟨by decide, by decide⟩ hK hP [5, 6, 7, 8, 9, 10, 11, 12] rfl 5 rfl rfl hl.1 rfl (Nat.le_of_ble_eq_true rfl) dX10_slips_48 ⟨by decide, by decide⟩) hP hS (fun _ h => h) (fun r7 H locs hr7 hP hS => ?_)
      have hr7 : (0 : Int) ≤ r7.toInt ∧ r7.toInt ≤ 127 := hr7
      refine lv_iconst (v := 1) hx hb dX10_slips_51 (by decide) ?_
      refine lv_iload hx hb dX10_slips_52 (lv_at hl 0 rfl) ?_
      refine lv_ishl hx hb dX10_slips_54 ?_
      refine lv_topi (fun v8 ev8 => ?_)
      refine lv_iconst (v := (-1)) hx hb dX10_slips_55 (by decide) ?_
      refine lv_ixor hx hb dX10_slips_56 ?_
      refine lv_topi (fun v9 ev9 => ?_)
      refine lv_iand hx hb dX10_slips_57 ?_
      refine lv_topi (fun v10 ev10 => ?_)
      have tv10 : 0 ≤ v10.toInt ∧ v10.toInt ≤ 127 := by rw [ev10]; exact andA 7 rfl (by omega) (by decide)
      refine lv_istore (lv' := [(6, .int v10), (5, .int a2), (4, .ref (qm 21)), (3, .int r2), (0, .ref adm), (1, .int 1), (2, .int a2)]) hx hb dX10_slips_58 hl (by decide) rfl (fun ls hl => ?_)
      refine lv_iconst (v := 0) hx hb dX10_slips_60 (by decide) ?_
      refine lv_istore (lv' := [(7, .int 0), (6, .int v10), (5, .int a2), (4, .ref (qm 21)), (3, .int r2), (0, .ref adm), (1, .int 1), (2, .int a2)]) hx hb dX10_slips_61 hl (by decide) rfl (fun ls hl => ?_)
      have B63 : ∀ (n : Nat) (x63_5 : Int32) (x63_6 : Int32) (x63_7 : Int32) (H : Heap) (locs : List Loc) (ls : Array Slot), (60 - x63_7.toInt).toNat < n → (0 : Int) ≤ x63_6.toInt ∧ x63_6.toInt ≤ 127 → (0 : Int) ≤ x63_7.toInt ∧ x63_7.toInt ≤ 60 → va_P G vwCl ((uX10 cs adm qm Fm Am Bm Dm) ++ ((uX8 cs (qm 3) qms Fms Ams Bms Dms) ++ ((uX3 cs (qms 0) qmh Fmh Amh Bmh Dmh) ++ (uX7 cs (qm 21) qr1 Fr1 Ar1 Br1 Dr1)))) H → va_S (fun q => s.heap.size ≤ q) s.heap H locs → lv_has ls 9 [(0, .ref adm), (4, .ref (qm 21)), (5, .int x63_5), (6, .int x63_6), (7, .int x63_7)] → W p l e (rmk 4 0 0) s m args below meth c H locs 0 0 (MQ below (QRi (fun r : Int32 => True) s.heap.size) args s 0 0 (fun q => s.heap.size ≤ q)) (F0 m 63 ls []) := by
        intro n
        induction n with
        | zero => intro x63_5 x63_6 x63_7 H locs ls hmeas hx63_6 hx63_7 hP hS hl; exact absurd hmeas (Nat.not_lt_zero _)
        | succ n ih63 =>
          intro x63_5 x63_6 x63_7 H locs ls hmeas hx63_6 hx63_7 hP hS hl
          refine lv_iload hx hb dX10_slips_63 (lv_at hl 4 rfl) ?_
          refine lv_aload hx hb dX10_slips_65 (lv_at hl 1 rfl) ?_
          refine getF (v := .int (Fr1 3)) hx hb ht hown hK hP iTX7 13 3 rfl rfl (by decide) fl_RX10_194 rfl dX10_slips_67 ?_
          have zf39001 : (0 : Int) ≤ (Fr1 3).toInt ∧ (Fr1 3).toInt ≤ 60 := hIr1.1 3
          refine lv_icmp_ge (tgt := 119) hx hb dX10_slips_70 (by decide) (fun c39002 => ?_) (fun c39002 => ?_)
          · have zc39002 := leK rfl rfl c39002
            refine lv_iload hx hb dX10_slips_119 (lv_at hl 3 rfl) ?_
            exact retRi hx hb hr hlk hS dX10_slips_121 (trivial)
          · have zc39002 := nleK rfl rfl c39002
            refine lv_aload hx hb dX10_slips_73 (lv_at hl 1 rfl) ?_
            refine lv_iload hx hb dX10_slips_75 (lv_at hl 4 rfl) ?_
            refine behR (runVP (As := [.int x63_7]) (rest := []) ⟨hx, hb, hml, hown, ht⟩ (sX7_roomAt l G cs (qm 21) qr1 Fr1 Ar1 Br1 Dr1 hIr1 x63_7 ) okV_RX10_195 ⟨by decide, by decide⟩ hK hP [13, 14] rfl 13 rfl rfl hl.1 rfl (Nat.le_of_ble_eq_true rfl) dX10_slips_77 ⟨by decide, by decide⟩) hP hS (fun _ h => h) (fun r39003 H locs hr39003 hP hS => ?_)
            have hr39003 : RAt r39003 x63_7 (Br1 0) (Fr1 3).toInt := hr39003
            have z5r39003 : (0 : Int) ≤ (Fmh 5).toInt ∧ (Fmh 5).toInt ≤ 7 := hImh.1 5
            have zbr39003 := RWr hr39003 (hr2.2 (by omega)) (by omega) (by omega) (by omega) (by omega)
            refine lv_istore (lv' := [(8, .int r39003), (0, .ref adm), (4, .ref (qm 21)), (5, .int x63_5), (6, .int x63_6), (7, .int x63_7)]) hx hb dX10_slips_80 hl (by decide) rfl (fun ls hl => ?_)
            refine lv_iload hx hb dX10_slips_82 (lv_at hl 0 rfl) ?_
            refine lv_iconst (v := (-1)) hx hb dX10_slips_84 (by decide) ?_
            have B92 : ∀ (x92_5 : Int32) (H : Heap) (locs : List Loc) (ls : Array Slot), va_P G vwCl ((uX10 cs adm qm Fm Am Bm Dm) ++ ((uX8 cs (qm 3) qms Fms Ams Bms Dms) ++ ((uX3 cs (qms 0) qmh Fmh Amh Bmh Dmh) ++ (uX7 cs (qm 21) qr1 Fr1 Ar1 Br1 Dr1)))) H → va_S (fun q => s.heap.size ≤ q) s.heap H locs → lv_has ls 9 [(0, .ref adm), (4, .ref (qm 21)), (5, .int x92_5), (6, .int x63_6), (7, .int x63_7)] → W p l e (rmk 4 0 0) s m args below meth c H locs 0 0 (MQ below (QRi (fun r : Int32 => True) s.heap.size) args s 0 0 (fun q => s.heap.size ≤ q)) (F0 m 92 ls []) := by
              intro x92_5 H locs ls hP hS hl
              refine lv_aload_n hx hb dX10_slips_92 rfl (lv_at hl 0 rfl) ?_
              refine getF (v := .ref (qm 3)) hx hb ht hown hK hP iTX10 0 3 rfl rfl (by decide) fl_RX10_31 rfl dX10_slips_93 ?_
              refine getF (v := .ref (qms 0)) hx hb ht hown hK hP iTX8 3 0 rfl rfl (by decide) fl_RX10_98 rfl dX10_slips_96 ?_
              refine lv_iload hx hb dX10_slips_99 (lv_at hl 3 rfl) ?_
              refine behR (runVP (As := [.int x63_6]) (rest := []) ⟨hx, hb, hml, hown, ht⟩ (sX3_spread l G cs (qms 0) qmh Fmh Amh Bmh Dmh hImh x63_6 (by omega)) okV_RX10_229 ⟨by decide, by decide⟩ hK hP [5, 6, 7, 8, 9, 10, 11, 12] rfl 5 rfl rfl hl.1 rfl (Nat.le_of_ble_eq_true rfl) dX10_slips_101 ⟨by decide, by decide⟩) hP hS (fun _ h => h) (fun r52001 H locs hr52001 hP hS => ?_)
              have hr52001 : x63_6.toInt ≤ r52001.toInt ∧ r52001.toInt ≤ 127 := hr52001
              refine lv_iconst (v := 1) hx hb dX10_slips_104 (by decide) ?_
              refine lv_iload hx hb dX10_slips_105 (lv_at hl 2 rfl) ?_
              refine lv_ishl hx hb dX10_slips_107 ?_
              refine lv_topi (fun v52002 ev52002 => ?_)
              refine lv_iconst (v := (-1)) hx hb dX10_slips_108 (by decide) ?_
              refine lv_ixor hx hb dX10_slips_109 ?_
              refine lv_topi (fun v52003 ev52003 => ?_)
              refine lv_iand hx hb dX10_slips_110 ?_
              refine lv_topi (fun v52004 ev52004 => ?_)
              have tv52004 : 0 ≤ v52004.toInt ∧ v52004.toInt ≤ 127 := by rw [ev52004]; exact andA 7 rfl (by omega) (by decide)
              refine lv_istore (lv' := [(6, .int v52004), (0, .ref adm), (4, .ref (qm 21)), (5, .int x92_5), (7, .int x63_7)]) hx hb dX10_slips_111 hl (by decide) rfl (fun ls hl => ?_)
              obtain ⟨v52005, ev52005⟩ : ∃ z : Int32, z = x63_7 + 1 := ⟨_, rfl⟩
              have tv52005 : v52005.toInt = x63_7.toInt + 1 := by rw [ev52005]; exact addT rfl (by decide) (by omega)
              refine lv_iinc (v := v52005) (lv' := [(7, .int v52005), (6, .int v52004), (0, .ref adm), (4, .ref (qm 21)), (5, .int x92_5)]) hx hb dX10_slips_113 hl (k := 4) rfl (by rw [ev52005]; rfl) (by decide) rfl (fun ls hl => ?_)
              refine lv_goto (tgt := 63) hx hb dX10_slips_116 (by decide) ?_
              exact ih63 x92_5 v52004 v52005 H locs ls (by omega) (by omega) (by omega) hP hS (lv_sub hl [2, 3, 4, 1, 0] rfl)
            refine lv_icmp_eq (tgt := 92) hx hb dX10_slips_85 (by decide) (fun c39004 => ?_) (fun c39004 => ?_)
            · have zc39004 := eqK rfl (show (-1 : Int32).toInt = (-1) by decide) c39004
              exact B92 x63_5 H locs ls hP hS (lv_sub hl [1, 2, 3, 4, 5] rfl)
            · have zc39004 := neK rfl (show (-1 : Int32).toInt = (-1) by decide) c39004
              refine lv_iload hx hb dX10_slips_88 (lv_at hl 0 rfl) ?_
              refine lv_istore (lv' := [(5, .int r39003), (8, .int r39003), (0, .ref adm), (4, .ref (qm 21)), (6, .int x63_6), (7, .int x63_7)]) hx hb dX10_slips_90 hl (by decide) rfl (fun ls hl => ?_)
              exact B92 r39003 H locs ls hP hS (lv_sub hl [2, 3, 0, 4, 5] rfl)
      exact B63 _ a2 v10 0 H locs ls (Nat.lt_succ_self _) (by omega) (by decide) hP hS (lv_sub hl [5, 3, 2, 1, 0] rfl)
    · have zc6 := eqK rfl (show (0 : Int32).toInt = 0 by decide) c6
      refine lv_bipush (v := (-5)) hx hb dX10_slips_35 (by decide) ?_
      exact retRi hx hb hr hlk hS dX10_slips_37 (trivial)
  · have zc4 := neK rfl (show (0 : Int32).toInt = 0 by decide) c4
    refine lv_iload_n hx hb dX10_slips_15 rfl (lv_at hl 0 rfl) ?_
    exact retRi hx hb hr hlk hS dX10_slips_16 (trivial)

set_option maxRecDepth 100000 in
set_option maxHeartbeats 16000000 in
theorem sX10_slips_2 (l : Launch) (G : va_G) (cs : Nat → ClassId) (adm : Nat) (qm : Nat → Nat) (Fm : Nat → Int32) (Am : Nat → Nat → Int32) (Bm : Nat → Nat → Int64) (Dm : Int64) (hIm : IX10 Fm Am) (qms : Nat → Nat) (Fms : Nat → Int32) (Ams : Nat → Nat → Int32) (Bms : Nat → Nat → Int64) (Dms : Int64) (hIms : IX8 Fms Ams) (qmh : Nat → Nat) (Fmh : Nat → Int32) (Amh : Nat → Nat → Int32) (Bmh : Nat → Nat → Int64) (Dmh : Int64) (hImh : IX3 Fmh Amh) (qr2 : Nat → Nat) (Fr2 : Nat → Int32) (Ar2 : Nat → Nat → Int32) (Br2 : Nat → Nat → Int64) (Dr2 : Int64) (hIr2 : IX7 Fr2 Ar2) (a2 : Int32) : ∀ sz : Nat, Met l yX10_slips (wk yX10_slips cX10_slips 9 (some .int)) (rmk 4 0 0) (PreP G (TY cs) [.ref adm, .int 2, .int a2] ((uX10 cs adm qm Fm Am Bm Dm) ++ ((uX8 cs (qm 3) qms Fms Ams Bms Dms) ++ ((uX3 cs (qms 0) qmh Fmh Amh Bmh Dmh) ++ (uX7 cs (qm 22) qr2 Fr2 Ar2 Br2 Dr2)))) sz) (QRi (fun r : Int32 => True) sz) 0 0 (fun q => sz ≤ q) := by
  refine mkP (Qc := QRi (fun r : Int32 => True)) (by decide) (by simp [lg_sl, Value.category]) ?_
  intro p e s m args below meth c ls hx hb hml hr hlk hown ht hK hP hS hl
  have hl : lv_has ls 9 [(0, .ref adm), (1, .int 2), (2, .int a2)] := hl
  refine lv_aload_n hx hb dX10_slips_0 rfl (lv_at hl 0 rfl) ?_
  refine lv_iload_n hx hb dX10_slips_1 rfl (lv_at hl 1 rfl) ?_
  refine lv_aload_n hx hb dX10_slips_2 rfl (lv_at hl 0 rfl) ?_
  refine lv_iload_n hx hb dX10_slips_3 rfl (lv_at hl 2 rfl) ?_
  refine behR (runVP (As := [.int a2]) (rest := [.int 2, .ref adm]) ⟨hx, hb, hml, hown, ht⟩ (sX10_isRoom l G cs adm qm Fm Am Bm Dm hIm qms Fms Ams Bms Dms hIms qmh Fmh Amh Bmh Dmh hImh a2 ) okV_RX10_120 ⟨by decide, by decide⟩ hK hP [0, 1, 2, 3, 4, 5, 6, 7, 8, 9, 10, 11, 12] rfl 0 rfl rfl hl.1 rfl (Nat.le_of_ble_eq_true rfl) dX10_slips_4 ⟨by decide, by decide⟩) hP hS (fun _ h => h) (fun r1 H locs hr1 hP hS => ?_)
  have hr1 : (r1.toInt = 1 ∧ 0 ≤ a2.toInt ∧ a2.toInt < (Fmh 5).toInt ∧ a2.toInt ≤ 6) ∨ r1.toInt = 0 := hr1
  refine behR (runVP (As := [.int 2, .int r1]) (rest := []) ⟨hx, hb, hml, hown, ht⟩ (sX10_askRound_2 l G cs adm qm Fm Am Bm Dm hIm qms Fms Ams Bms Dms hIms qmh Fmh Amh Bmh Dmh hImh qr2 Fr2 Ar2 Br2 Dr2 hIr2 r1 (by omega)) okV_RX10_186 ⟨by decide, by decide⟩ hK hP [0, 1, 2, 3, 4, 5, 6, 7, 8, 9, 10, 11, 12, 13, 14] rfl 0 rfl rfl hl.1 rfl (Nat.le_of_ble_eq_true rfl) dX10_slips_7 ⟨by decide, by decide⟩) hP hS (fun _ h => h) (fun r2 H locs hr2 hP hS => ?_)
  have kk3 : (2 : Int32).toInt = 2 := by decide
  have hr2 : ((r2.toInt = 0 ∧ r1.toInt = 1) ∨ r2.toInt = -2 ∨ r2.toInt = -6) ∧ RWk r2 0 (Br2 0) (-1) ((Fmh 5).toInt - 1) (Fr2 3).toInt := hr2
  refine lv_istore_n (lv' := [(3, .int r2), (0, .ref adm), (1, .int 2), (2, .int a2)]) hx hb dX10_slips_10 rfl hl (by decide) rfl (fun ls hl => ?_)
  refine lv_iload_n hx hb dX10_slips_11 rfl (lv_at hl 0 rfl) ?_
  refine lv_if_eq (tgt := 17) hx hb dX10_slips_12 (by decide) (fun c4 => ?_) (fun c4 => ?_)
  · have zc4 := eqK rfl (show (0 : Int32).toInt = 0 by decide) c4
    refine lv_aload_n hx hb dX10_slips_17 rfl (lv_at hl 1 rfl) ?_
    refine getF (v := .ref (qm 5)) hx hb ht hown hK hP iTX10 0 5 rfl rfl (by decide) fl_RX10_41 rfl dX10_slips_18 ?_
    refine lv_iload_n hx hb dX10_slips_21 rfl (lv_at hl 2 rfl) ?_
    refine va_aldq hx hb hK.1 hP 2 5 rfl rfl (show ¬ (_ ∨ _) by decide) dX10_slips_22 ?_
    refine W.eq (g2 := F0 m 23 ls [.ref (qm 22)]) rfl ?_
    refine lv_astore (lv' := [(4, .ref (qm 22)), (3, .int r2), (0, .ref adm), (1, .int 2), (2, .int a2)]) hx hb dX10_slips_23 hl (by decide) rfl (fun ls hl => ?_)
    refine lv_aload_n hx hb dX10_slips_25 rfl (lv_at hl 2 rfl) ?_
    refine lv_aload hx hb dX10_slips_26 (lv_at hl 0 rfl) ?_
    refine lv_iload_n hx hb dX10_slips_28 rfl (lv_at hl 4 rfl) ?_
    refine behR (runVP (As := [.ref (qm 22), .int a2]) (rest := []) ⟨hx, hb, hml, hown, ht⟩ (sX10_canWalk l G cs adm qm Fm Am Bm Dm hIm qms Fms Ams Bms Dms hIms qmh Fmh Amh Bmh Dmh hImh (qm 22) qr2 Fr2 Ar2 Br2 Dr2 hIr2 a2 ) okV_RX10_208 ⟨by decide, by decide⟩ hK hP [0, 1, 2, 3, 4, 5, 6, 7, 8, 9, 10, 11, 12, 13, 14] rfl 0 rfl rfl hl.1 rfl (Nat.le_of_ble_eq_true rfl) dX10_slips_29 ⟨by decide, by decide⟩) hP hS (fun _ h => h) (fun r5 H locs hr5 hP hS => ?_)
    have hr5 : (0 : Int) ≤ r5.toInt ∧ r5.toInt ≤ 1 := hr5
    refine lv_if_ne (tgt := 38) hx hb dX10_slips_32 (by decide) (fun c6 => ?_) (fun c6 => ?_)
    · have zc6 := neK rfl (show (0 : Int32).toInt = 0 by decide) c6
      refine lv_iload_n hx hb dX10_slips_38 rfl (lv_at hl 4 rfl) ?_
      refine lv_istore (lv' := [(5, .int a2), (4, .ref (qm 22)), (3, .int r2), (0, .ref adm), (1, .int 2), (2, .int a2)]) hx hb dX10_slips_39 hl (by decide) rfl (fun ls hl => ?_)
      refine lv_aload_n hx hb dX10_slips_41 rfl (lv_at hl 3 rfl) ?_
      refine getF (v := .ref (qm 3)) hx hb ht hown hK hP iTX10 0 3 rfl rfl (by decide) fl_RX10_31 rfl dX10_slips_42 ?_
      refine getF (v := .ref (qms 0)) hx hb ht hown hK hP iTX8 3 0 rfl rfl (by decide) fl_RX10_98 rfl dX10_slips_45 ?_
      refine behR (runVP (As := []) (rest := []) ⟨hx, hb, hml, hown, ht⟩ (sX3_allRooms l G cs (qms 0) qmh Fmh Amh Bmh Dmh hImh ) okV_RX10_238 ⟨by decide, by decide⟩ hK hP [5, 6, 7, 8, 9, 10, 11, 12] rfl 5 rfl rfl hl.1 rfl (Nat.le_of_ble_eq_true rfl) dX10_slips_48 ⟨by decide, by decide⟩) hP hS (fun _ h => h) (fun r7 H locs hr7 hP hS => ?_)
      have hr7 : (0 : Int) ≤ r7.toInt ∧ r7.toInt ≤ 127 := hr7
      refine lv_iconst (v := 1) hx hb dX10_slips_51 (by decide) ?_
      refine lv_iload hx hb dX10_slips_52 (lv_at hl 0 rfl) ?_
      refine lv_ishl hx hb dX10_slips_54 ?_
      refine lv_topi (fun v8 ev8 => ?_)
      refine lv_iconst (v := (-1)) hx hb dX10_slips_55 (by decide) ?_
      refine lv_ixor hx hb dX10_slips_56 ?_
      refine lv_topi (fun v9 ev9 => ?_)
      refine lv_iand hx hb dX10_slips_57 ?_
      refine lv_topi (fun v10 ev10 => ?_)
      have tv10 : 0 ≤ v10.toInt ∧ v10.toInt ≤ 127 := by rw [ev10]; exact andA 7 rfl (by omega) (by decide)
      refine lv_istore (lv' := [(6, .int v10), (5, .int a2), (4, .ref (qm 22)), (3, .int r2), (0, .ref adm), (1, .int 2), (2, .int a2)]) hx hb dX10_slips_58 hl (by decide) rfl (fun ls hl => ?_)
      refine lv_iconst (v := 0) hx hb dX10_slips_60 (by decide) ?_
      refine lv_istore (lv' := [(7, .int 0), (6, .int v10), (5, .int a2), (4, .ref (qm 22)), (3, .int r2), (0, .ref adm), (1, .int 2), (2, .int a2)]) hx hb dX10_slips_61 hl (by decide) rfl (fun ls hl => ?_)
      have B63 : ∀ (n : Nat) (x63_5 : Int32) (x63_6 : Int32) (x63_7 : Int32) (H : Heap) (locs : List Loc) (ls : Array Slot), (60 - x63_7.toInt).toNat < n → (0 : Int) ≤ x63_6.toInt ∧ x63_6.toInt ≤ 127 → (0 : Int) ≤ x63_7.toInt ∧ x63_7.toInt ≤ 60 → va_P G vwCl ((uX10 cs adm qm Fm Am Bm Dm) ++ ((uX8 cs (qm 3) qms Fms Ams Bms Dms) ++ ((uX3 cs (qms 0) qmh Fmh Amh Bmh Dmh) ++ (uX7 cs (qm 22) qr2 Fr2 Ar2 Br2 Dr2)))) H → va_S (fun q => s.heap.size ≤ q) s.heap H locs → lv_has ls 9 [(0, .ref adm), (4, .ref (qm 22)), (5, .int x63_5), (6, .int x63_6), (7, .int x63_7)] → W p l e (rmk 4 0 0) s m args below meth c H locs 0 0 (MQ below (QRi (fun r : Int32 => True) s.heap.size) args s 0 0 (fun q => s.heap.size ≤ q)) (F0 m 63 ls []) := by
        intro n
        induction n with
        | zero => intro x63_5 x63_6 x63_7 H locs ls hmeas hx63_6 hx63_7 hP hS hl; exact absurd hmeas (Nat.not_lt_zero _)
        | succ n ih63 =>
          intro x63_5 x63_6 x63_7 H locs ls hmeas hx63_6 hx63_7 hP hS hl
          refine lv_iload hx hb dX10_slips_63 (lv_at hl 4 rfl) ?_
          refine lv_aload hx hb dX10_slips_65 (lv_at hl 1 rfl) ?_
          refine getF (v := .int (Fr2 3)) hx hb ht hown hK hP iTX7 13 3 rfl rfl (by decide) fl_RX10_194 rfl dX10_slips_67 ?_
          have zf39001 : (0 : Int) ≤ (Fr2 3).toInt ∧ (Fr2 3).toInt ≤ 60 := hIr2.1 3
          refine lv_icmp_ge (tgt := 119) hx hb dX10_slips_70 (by decide) (fun c39002 => ?_) (fun c39002 => ?_)
          · have zc39002 := leK rfl rfl c39002
            refine lv_iload hx hb dX10_slips_119 (lv_at hl 3 rfl) ?_
            exact retRi hx hb hr hlk hS dX10_slips_121 (trivial)
          · have zc39002 := nleK rfl rfl c39002
            refine lv_aload hx hb dX10_slips_73 (lv_at hl 1 rfl) ?_
            refine lv_iload hx hb dX10_slips_75 (lv_at hl 4 rfl) ?_
            refine behR (runVP (As := [.int x63_7]) (rest := []) ⟨hx, hb, hml, hown, ht⟩ (sX7_roomAt l G cs (qm 22) qr2 Fr2 Ar2 Br2 Dr2 hIr2 x63_7 ) okV_RX10_195 ⟨by decide, by decide⟩ hK hP [13, 14] rfl 13 rfl rfl hl.1 rfl (Nat.le_of_ble_eq_true rfl) dX10_slips_77 ⟨by decide, by decide⟩) hP hS (fun _ h => h) (fun r39003 H locs hr39003 hP hS => ?_)
            have hr39003 : RAt r39003 x63_7 (Br2 0) (Fr2 3).toInt := hr39003
            have z5r39003 : (0 : Int) ≤ (Fmh 5).toInt ∧ (Fmh 5).toInt ≤ 7 := hImh.1 5
            have zbr39003 := RWr hr39003 (hr2.2 (by omega)) (by omega) (by omega) (by omega) (by omega)
            refine lv_istore (lv' := [(8, .int r39003), (0, .ref adm), (4, .ref (qm 22)), (5, .int x63_5), (6, .int x63_6), (7, .int x63_7)]) hx hb dX10_slips_80 hl (by decide) rfl (fun ls hl => ?_)
            refine lv_iload hx hb dX10_slips_82 (lv_at hl 0 rfl) ?_
            refine lv_iconst (v := (-1)) hx hb dX10_slips_84 (by decide) ?_
            have B92 : ∀ (x92_5 : Int32) (H : Heap) (locs : List Loc) (ls : Array Slot), va_P G vwCl ((uX10 cs adm qm Fm Am Bm Dm) ++ ((uX8 cs (qm 3) qms Fms Ams Bms Dms) ++ ((uX3 cs (qms 0) qmh Fmh Amh Bmh Dmh) ++ (uX7 cs (qm 22) qr2 Fr2 Ar2 Br2 Dr2)))) H → va_S (fun q => s.heap.size ≤ q) s.heap H locs → lv_has ls 9 [(0, .ref adm), (4, .ref (qm 22)), (5, .int x92_5), (6, .int x63_6), (7, .int x63_7)] → W p l e (rmk 4 0 0) s m args below meth c H locs 0 0 (MQ below (QRi (fun r : Int32 => True) s.heap.size) args s 0 0 (fun q => s.heap.size ≤ q)) (F0 m 92 ls []) := by
              intro x92_5 H locs ls hP hS hl
              refine lv_aload_n hx hb dX10_slips_92 rfl (lv_at hl 0 rfl) ?_
              refine getF (v := .ref (qm 3)) hx hb ht hown hK hP iTX10 0 3 rfl rfl (by decide) fl_RX10_31 rfl dX10_slips_93 ?_
              refine getF (v := .ref (qms 0)) hx hb ht hown hK hP iTX8 3 0 rfl rfl (by decide) fl_RX10_98 rfl dX10_slips_96 ?_
              refine lv_iload hx hb dX10_slips_99 (lv_at hl 3 rfl) ?_
              refine behR (runVP (As := [.int x63_6]) (rest := []) ⟨hx, hb, hml, hown, ht⟩ (sX3_spread l G cs (qms 0) qmh Fmh Amh Bmh Dmh hImh x63_6 (by omega)) okV_RX10_229 ⟨by decide, by decide⟩ hK hP [5, 6, 7, 8, 9, 10, 11, 12] rfl 5 rfl rfl hl.1 rfl (Nat.le_of_ble_eq_true rfl) dX10_slips_101 ⟨by decide, by decide⟩) hP hS (fun _ h => h) (fun r52001 H locs hr52001 hP hS => ?_)
              have hr52001 : x63_6.toInt ≤ r52001.toInt ∧ r52001.toInt ≤ 127 := hr52001
              refine lv_iconst (v := 1) hx hb dX10_slips_104 (by decide) ?_
              refine lv_iload hx hb dX10_slips_105 (lv_at hl 2 rfl) ?_
              refine lv_ishl hx hb dX10_slips_107 ?_
              refine lv_topi (fun v52002 ev52002 => ?_)
              refine lv_iconst (v := (-1)) hx hb dX10_slips_108 (by decide) ?_
              refine lv_ixor hx hb dX10_slips_109 ?_
              refine lv_topi (fun v52003 ev52003 => ?_)
              refine lv_iand hx hb dX10_slips_110 ?_
              refine lv_topi (fun v52004 ev52004 => ?_)
              have tv52004 : 0 ≤ v52004.toInt ∧ v52004.toInt ≤ 127 := by rw [ev52004]; exact andA 7 rfl (by omega) (by decide)
              refine lv_istore (lv' := [(6, .int v52004), (0, .ref adm), (4, .ref (qm 22)), (5, .int x92_5), (7, .int x63_7)]) hx hb dX10_slips_111 hl (by decide) rfl (fun ls hl => ?_)
              obtain ⟨v52005, ev52005⟩ : ∃ z : Int32, z = x63_7 + 1 := ⟨_, rfl⟩
              have tv52005 : v52005.toInt = x63_7.toInt + 1 := by rw [ev52005]; exact addT rfl (by decide) (by omega)
              refine lv_iinc (v := v52005) (lv' := [(7, .int v52005), (6, .int v52004), (0, .ref adm), (4, .ref (qm 22)), (5, .int x92_5)]) hx hb dX10_slips_113 hl (k := 4) rfl (by rw [ev52005]; rfl) (by decide) rfl (fun ls hl => ?_)
              refine lv_goto (tgt := 63) hx hb dX10_slips_116 (by decide) ?_
              exact ih63 x92_5 v52004 v52005 H locs ls (by omega) (by omega) (by omega) hP hS (lv_sub hl [2, 3, 4, 1, 0] rfl)
            refine lv_icmp_eq (tgt := 92) hx hb dX10_slips_85 (by decide) (fun c39004 => ?_) (fun c39004 => ?_)
            · have zc39004 := eqK rfl (show (-1 : Int32).toInt = (-1) by decide) c39004
              exact B92 x63_5 H locs ls hP hS (lv_sub hl [1, 2, 3, 4, 5] rfl)
            · have zc39004 := neK rfl (show (-1 : Int32).toInt = (-1) by decide) c39004
              refine lv_iload hx hb dX10_slips_88 (lv_at hl 0 rfl) ?_
              refine lv_istore (lv' := [(5, .int r39003), (8, .int r39003), (0, .ref adm), (4, .ref (qm 22)), (6, .int x63_6), (7, .int x63_7)]) hx hb dX10_slips_90 hl (by decide) rfl (fun ls hl => ?_)
              exact B92 r39003 H locs ls hP hS (lv_sub hl [2, 3, 0, 4, 5] rfl)
      exact B63 _ a2 v10 0 H locs ls (Nat.lt_succ_self _) (by omega) (by decide) hP hS (lv_sub hl [5, 3, 2, 1, 0] rfl)
    · have zc6 := eqK rfl (show (0 : Int32).toInt = 0 by decide) c6
      refine lv_bipush (v := (-5)) hx hb dX10_slips_35 (by decide) ?_
      exact retRi hx hb hr hlk hS dX10_slips_37 (trivial)
  · have zc4 := neK rfl (show (0 : Int32).toInt = 0 by decide) c4
    refine lv_iload_n hx hb dX10_slips_15 rfl (lv_at hl 0 rfl) ?_
    exact retRi hx hb hr hlk hS dX10_slips_16 (trivial)

set_option maxRecDepth 100000 in
set_option maxHeartbeats 16000000 in
theorem sX10_slips_3 (l : Launch) (G : va_G) (cs : Nat → ClassId) (adm : Nat) (qm : Nat → Nat) (Fm : Nat → Int32) (Am : Nat → Nat → Int32) (Bm : Nat → Nat → Int64) (Dm : Int64) (hIm : IX10 Fm Am) (qms : Nat → Nat) (Fms : Nat → Int32) (Ams : Nat → Nat → Int32) (Bms : Nat → Nat → Int64) (Dms : Int64) (hIms : IX8 Fms Ams) (qmh : Nat → Nat) (Fmh : Nat → Int32) (Amh : Nat → Nat → Int32) (Bmh : Nat → Nat → Int64) (Dmh : Int64) (hImh : IX3 Fmh Amh) (qr3 : Nat → Nat) (Fr3 : Nat → Int32) (Ar3 : Nat → Nat → Int32) (Br3 : Nat → Nat → Int64) (Dr3 : Int64) (hIr3 : IX7 Fr3 Ar3) (a2 : Int32) : ∀ sz : Nat, Met l yX10_slips (wk yX10_slips cX10_slips 9 (some .int)) (rmk 4 0 0) (PreP G (TY cs) [.ref adm, .int 3, .int a2] ((uX10 cs adm qm Fm Am Bm Dm) ++ ((uX8 cs (qm 3) qms Fms Ams Bms Dms) ++ ((uX3 cs (qms 0) qmh Fmh Amh Bmh Dmh) ++ (uX7 cs (qm 23) qr3 Fr3 Ar3 Br3 Dr3)))) sz) (QRi (fun r : Int32 => True) sz) 0 0 (fun q => sz ≤ q) := by
  refine mkP (Qc := QRi (fun r : Int32 => True)) (by decide) (by simp [lg_sl, Value.category]) ?_
  intro p e s m args below meth c ls hx hb hml hr hlk hown ht hK hP hS hl
  have hl : lv_has ls 9 [(0, .ref adm), (1, .int 3), (2, .int a2)] := hl
  refine lv_aload_n hx hb dX10_slips_0 rfl (lv_at hl 0 rfl) ?_
  refine lv_iload_n hx hb dX10_slips_1 rfl (lv_at hl 1 rfl) ?_
  refine lv_aload_n hx hb dX10_slips_2 rfl (lv_at hl 0 rfl) ?_
  refine lv_iload_n hx hb dX10_slips_3 rfl (lv_at hl 2 rfl) ?_
  refine behR (runVP (As := [.int a2]) (rest := [.int 3, .ref adm]) ⟨hx, hb, hml, hown, ht⟩ (sX10_isRoom l G cs adm qm Fm Am Bm Dm hIm qms Fms Ams Bms Dms hIms qmh Fmh Amh Bmh Dmh hImh a2 ) okV_RX10_120 ⟨by decide, by decide⟩ hK hP [0, 1, 2, 3, 4, 5, 6, 7, 8, 9, 10, 11, 12] rfl 0 rfl rfl hl.1 rfl (Nat.le_of_ble_eq_true rfl) dX10_slips_4 ⟨by decide, by decide⟩) hP hS (fun _ h => h) (fun r1 H locs hr1 hP hS => ?_)
  have hr1 : (r1.toInt = 1 ∧ 0 ≤ a2.toInt ∧ a2.toInt < (Fmh 5).toInt ∧ a2.toInt ≤ 6) ∨ r1.toInt = 0 := hr1
  refine behR (runVP (As := [.int 3, .int r1]) (rest := []) ⟨hx, hb, hml, hown, ht⟩ (sX10_askRound_3 l G cs adm qm Fm Am Bm Dm hIm qms Fms Ams Bms Dms hIms qmh Fmh Amh Bmh Dmh hImh qr3 Fr3 Ar3 Br3 Dr3 hIr3 r1 (by omega)) okV_RX10_186 ⟨by decide, by decide⟩ hK hP [0, 1, 2, 3, 4, 5, 6, 7, 8, 9, 10, 11, 12, 13, 14] rfl 0 rfl rfl hl.1 rfl (Nat.le_of_ble_eq_true rfl) dX10_slips_7 ⟨by decide, by decide⟩) hP hS (fun _ h => h) (fun r2 H locs hr2 hP hS => ?_)
  have kk3 : (3 : Int32).toInt = 3 := by decide
  have hr2 : ((r2.toInt = 0 ∧ r1.toInt = 1) ∨ r2.toInt = -2 ∨ r2.toInt = -6) ∧ RWk r2 0 (Br3 0) (-1) ((Fmh 5).toInt - 1) (Fr3 3).toInt := hr2
  refine lv_istore_n (lv' := [(3, .int r2), (0, .ref adm), (1, .int 3), (2, .int a2)]) hx hb dX10_slips_10 rfl hl (by decide) rfl (fun ls hl => ?_)
  refine lv_iload_n hx hb dX10_slips_11 rfl (lv_at hl 0 rfl) ?_
  refine lv_if_eq (tgt := 17) hx hb dX10_slips_12 (by decide) (fun c4 => ?_) (fun c4 => ?_)
  · have zc4 := eqK rfl (show (0 : Int32).toInt = 0 by decide) c4
    refine lv_aload_n hx hb dX10_slips_17 rfl (lv_at hl 1 rfl) ?_
    refine getF (v := .ref (qm 5)) hx hb ht hown hK hP iTX10 0 5 rfl rfl (by decide) fl_RX10_41 rfl dX10_slips_18 ?_
    refine lv_iload_n hx hb dX10_slips_21 rfl (lv_at hl 2 rfl) ?_
    refine va_aldq hx hb hK.1 hP 2 5 rfl rfl (show ¬ (_ ∨ _) by decide) dX10_slips_22 ?_
    refine W.eq (g2 := F0 m 23 ls [.ref (qm 23)]) rfl ?_
    refine lv_astore (lv' := [(4, .ref (qm 23)), (3, .int r2), (0, .ref adm), (1, .int 3), (2, .int a2)]) hx hb dX10_slips_23 hl (by decide) rfl (fun ls hl => ?_)
    refine lv_aload_n hx hb dX10_slips_25 rfl (lv_at hl 2 rfl) ?_
    refine lv_aload hx hb dX10_slips_26 (lv_at hl 0 rfl) ?_
    refine lv_iload_n hx hb dX10_slips_28 rfl (lv_at hl 4 rfl) ?_
    refine behR (runVP (As := [.ref (qm 23), .int a2]) (rest := []) ⟨hx, hb, hml, hown, ht⟩ (sX10_canWalk l G cs adm qm Fm Am Bm Dm hIm qms Fms Ams Bms Dms hIms qmh Fmh Amh Bmh Dmh hImh (qm 23) qr3 Fr3 Ar3 Br3 Dr3 hIr3 a2 ) okV_RX10_208 ⟨by decide, by decide⟩ hK hP [0, 1, 2, 3, 4, 5, 6, 7, 8, 9, 10, 11, 12, 13, 14] rfl 0 rfl rfl hl.1 rfl (Nat.le_of_ble_eq_true rfl) dX10_slips_29 ⟨by decide, by decide⟩) hP hS (fun _ h => h) (fun r5 H locs hr5 hP hS => ?_)
    have hr5 : (0 : Int) ≤ r5.toInt ∧ r5.toInt ≤ 1 := hr5
    refine lv_if_ne (tgt := 38) hx hb dX10_slips_32 (by decide) (fun c6 => ?_) (fun c6 => ?_)
    · have zc6 := neK rfl (show (0 : Int32).toInt = 0 by decide) c6
      refine lv_iload_n hx hb dX10_slips_38 rfl (lv_at hl 4 rfl) ?_
      refine lv_istore (lv' := [(5, .int a2), (4, .ref (qm 23)), (3, .int r2), (0, .ref adm), (1, .int 3), (2, .int a2)]) hx hb dX10_slips_39 hl (by decide) rfl (fun ls hl => ?_)
      refine lv_aload_n hx hb dX10_slips_41 rfl (lv_at hl 3 rfl) ?_
      refine getF (v := .ref (qm 3)) hx hb ht hown hK hP iTX10 0 3 rfl rfl (by decide) fl_RX10_31 rfl dX10_slips_42 ?_
      refine getF (v := .ref (qms 0)) hx hb ht hown hK hP iTX8 3 0 rfl rfl (by decide) fl_RX10_98 rfl dX10_slips_45 ?_
      refine behR (runVP (As := []) (rest := []) ⟨hx, hb, hml, hown, ht⟩ (sX3_allRooms l G cs (qms 0) qmh Fmh Amh Bmh Dmh hImh ) okV_RX10_238 ⟨by decide, by decide⟩ hK hP [5, 6, 7, 8, 9, 10, 11, 12] rfl 5 rfl rfl hl.1 rfl (Nat.le_of_ble_eq_true rfl) dX10_slips_48 ⟨by decide, by decide⟩) hP hS (fun _ h => h) (fun r7 H locs hr7 hP hS => ?_)
      have hr7 : (0 : Int) ≤ r7.toInt ∧ r7.toInt ≤ 127 := hr7
      refine lv_iconst (v := 1) hx hb dX10_slips_51 (by decide) ?_
      refine lv_iload hx hb dX10_slips_52 (lv_at hl 0 rfl) ?_
      refine lv_ishl hx hb dX10_slips_54 ?_
      refine lv_topi (fun v8 ev8 => ?_)
      refine lv_iconst (v := (-1)) hx hb dX10_slips_55 (by decide) ?_
      refine lv_ixor hx hb dX10_slips_56 ?_
      refine lv_topi (fun v9 ev9 => ?_)
      refine lv_iand hx hb dX10_slips_57 ?_
      refine lv_topi (fun v10 ev10 => ?_)
      have tv10 : 0 ≤ v10.toInt ∧ v10.toInt ≤ 127 := by rw [ev10]; exact andA 7 rfl (by omega) (by decide)
      refine lv_istore (lv' := [(6, .int v10), (5, .int a2), (4, .ref (qm 23)), (3, .int r2), (0, .ref adm), (1, .int 3), (2, .int a2)]) hx hb dX10_slips_58 hl (by decide) rfl (fun ls hl => ?_)
      refine lv_iconst (v := 0) hx hb dX10_slips_60 (by decide) ?_
      refine lv_istore (lv' := [(7, .int 0), (6, .int v10), (5, .int a2), (4, .ref (qm 23)), (3, .int r2), (0, .ref adm), (1, .int 3), (2, .int a2)]) hx hb dX10_slips_61 hl (by decide) rfl (fun ls hl => ?_)
      have B63 : ∀ (n : Nat) (x63_5 : Int32) (x63_6 : Int32) (x63_7 : Int32) (H : Heap) (locs : List Loc) (ls : Array Slot), (60 - x63_7.toInt).toNat < n → (0 : Int) ≤ x63_6.toInt ∧ x63_6.toInt ≤ 127 → (0 : Int) ≤ x63_7.toInt ∧ x63_7.toInt ≤ 60 → va_P G vwCl ((uX10 cs adm qm Fm Am Bm Dm) ++ ((uX8 cs (qm 3) qms Fms Ams Bms Dms) ++ ((uX3 cs (qms 0) qmh Fmh Amh Bmh Dmh) ++ (uX7 cs (qm 23) qr3 Fr3 Ar3 Br3 Dr3)))) H → va_S (fun q => s.heap.size ≤ q) s.heap H locs → lv_has ls 9 [(0, .ref adm), (4, .ref (qm 23)), (5, .int x63_5), (6, .int x63_6), (7, .int x63_7)] → W p l e (rmk 4 0 0) s m args below meth c H locs 0 0 (MQ below (QRi (fun r : Int32 => True) s.heap.size) args s 0 0 (fun q => s.heap.size ≤ q)) (F0 m 63 ls []) := by
        intro n
        induction n with
        | zero => intro x63_5 x63_6 x63_7 H locs ls hmeas hx63_6 hx63_7 hP hS hl; exact absurd hmeas (Nat.not_lt_zero _)
        | succ n ih63 =>
          intro x63_5 x63_6 x63_7 H locs ls hmeas hx63_6 hx63_7 hP hS hl
          refine lv_iload hx hb dX10_slips_63 (lv_at hl 4 rfl) ?_
          refine lv_aload hx hb dX10_slips_65 (lv_at hl 1 rfl) ?_
          refine getF (v := .int (Fr3 3)) hx hb ht hown hK hP iTX7 13 3 rfl rfl (by decide) fl_RX10_194 rfl dX10_slips_67 ?_
          have zf39001 : (0 : Int) ≤ (Fr3 3).toInt ∧ (Fr3 3).toInt ≤ 60 := hIr3.1 3
          refine lv_icmp_ge (tgt := 119) hx hb dX10_slips_70 (by decide) (fun c39002 => ?_) (fun c39002 => ?_)
          · have zc39002 := leK rfl rfl c39002
            refine lv_iload hx hb dX10_slips_119 (lv_at hl 3 rfl) ?_
            exact retRi hx hb hr hlk hS dX10_slips_121 (trivial)
          · have zc39002 := nleK rfl rfl c39002
            refine lv_aload hx hb dX10_slips_73 (lv_at hl 1 rfl) ?_
            refine lv_iload hx hb dX10_slips_75 (lv_at hl 4 rfl) ?_
            refine behR (runVP (As := [.int x63_7]) (rest := []) ⟨hx, hb, hml, hown, ht⟩ (sX7_roomAt l G cs (qm 23) qr3 Fr3 Ar3 Br3 Dr3 hIr3 x63_7 ) okV_RX10_195 ⟨by decide, by decide⟩ hK hP [13, 14] rfl 13 rfl rfl hl.1 rfl (Nat.le_of_ble_eq_true rfl) dX10_slips_77 ⟨by decide, by decide⟩) hP hS (fun _ h => h) (fun r39003 H locs hr39003 hP hS => ?_)
            have hr39003 : RAt r39003 x63_7 (Br3 0) (Fr3 3).toInt := hr39003
            have z5r39003 : (0 : Int) ≤ (Fmh 5).toInt ∧ (Fmh 5).toInt ≤ 7 := hImh.1 5
            have zbr39003 := RWr hr39003 (hr2.2 (by omega)) (by omega) (by omega) (by omega) (by omega)
            refine lv_istore (lv' := [(8, .int r39003), (0, .ref adm), (4, .ref (qm 23)), (5, .int x63_5), (6, .int x63_6), (7, .int x63_7)]) hx hb dX10_slips_80 hl (by decide) rfl (fun ls hl => ?_)
            refine lv_iload hx hb dX10_slips_82 (lv_at hl 0 rfl) ?_
            refine lv_iconst (v := (-1)) hx hb dX10_slips_84 (by decide) ?_
            have B92 : ∀ (x92_5 : Int32) (H : Heap) (locs : List Loc) (ls : Array Slot), va_P G vwCl ((uX10 cs adm qm Fm Am Bm Dm) ++ ((uX8 cs (qm 3) qms Fms Ams Bms Dms) ++ ((uX3 cs (qms 0) qmh Fmh Amh Bmh Dmh) ++ (uX7 cs (qm 23) qr3 Fr3 Ar3 Br3 Dr3)))) H → va_S (fun q => s.heap.size ≤ q) s.heap H locs → lv_has ls 9 [(0, .ref adm), (4, .ref (qm 23)), (5, .int x92_5), (6, .int x63_6), (7, .int x63_7)] → W p l e (rmk 4 0 0) s m args below meth c H locs 0 0 (MQ below (QRi (fun r : Int32 => True) s.heap.size) args s 0 0 (fun q => s.heap.size ≤ q)) (F0 m 92 ls []) := by
              intro x92_5 H locs ls hP hS hl
              refine lv_aload_n hx hb dX10_slips_92 rfl (lv_at hl 0 rfl) ?_
              refine getF (v := .ref (qm 3)) hx hb ht hown hK hP iTX10 0 3 rfl rfl (by decide) fl_RX10_31 rfl dX10_slips_93 ?_
              refine getF (v := .ref (qms 0)) hx hb ht hown hK hP iTX8 3 0 rfl rfl (by decide) fl_RX10_98 rfl dX10_slips_96 ?_
              refine lv_iload hx hb dX10_slips_99 (lv_at hl 3 rfl) ?_
              refine behR (runVP (As := [.int x63_6]) (rest := []) ⟨hx, hb, hml, hown, ht⟩ (sX3_spread l G cs (qms 0) qmh Fmh Amh Bmh Dmh hImh x63_6 (by omega)) okV_RX10_229 ⟨by decide, by decide⟩ hK hP [5, 6, 7, 8, 9, 10, 11, 12] rfl 5 rfl rfl hl.1 rfl (Nat.le_of_ble_eq_true rfl) dX10_slips_101 ⟨by decide, by decide⟩) hP hS (fun _ h => h) (fun r52001 H locs hr52001 hP hS => ?_)
              have hr52001 : x63_6.toInt ≤ r52001.toInt ∧ r52001.toInt ≤ 127 := hr52001
              refine lv_iconst (v := 1) hx hb dX10_slips_104 (by decide) ?_
              refine lv_iload hx hb dX10_slips_105 (lv_at hl 2 rfl) ?_
              refine lv_ishl hx hb dX10_slips_107 ?_
              refine lv_topi (fun v52002 ev52002 => ?_)
              refine lv_iconst (v := (-1)) hx hb dX10_slips_108 (by decide) ?_
              refine lv_ixor hx hb dX10_slips_109 ?_
              refine lv_topi (fun v52003 ev52003 => ?_)
              refine lv_iand hx hb dX10_slips_110 ?_
              refine lv_topi (fun v52004 ev52004 => ?_)
              have tv52004 : 0 ≤ v52004.toInt ∧ v52004.toInt ≤ 127 := by rw [ev52004]; exact andA 7 rfl (by omega) (by decide)
              refine lv_istore (lv' := [(6, .int v52004), (0, .ref adm), (4, .ref (qm 23)), (5, .int x92_5), (7, .int x63_7)]) hx hb dX10_slips_111 hl (by decide) rfl (fun ls hl => ?_)
              obtain ⟨v52005, ev52005⟩ : ∃ z : Int32, z = x63_7 + 1 := ⟨_, rfl⟩
              have tv52005 : v52005.toInt = x63_7.toInt + 1 := by rw [ev52005]; exact addT rfl (by decide) (by omega)
              refine lv_iinc (v := v52005) (lv' := [(7, .int v52005), (6, .int v52004), (0, .ref adm), (4, .ref (qm 23)), (5, .int x92_5)]) hx hb dX10_slips_113 hl (k := 4) rfl (by rw [ev52005]; rfl) (by decide) rfl (fun ls hl => ?_)
              refine lv_goto (tgt := 63) hx hb dX10_slips_116 (by decide) ?_
              exact ih63 x92_5 v52004 v52005 H locs ls (by omega) (by omega) (by omega) hP hS (lv_sub hl [2, 3, 4, 1, 0] rfl)
            refine lv_icmp_eq (tgt := 92) hx hb dX10_slips_85 (by decide) (fun c39004 => ?_) (fun c39004 => ?_)
            · have zc39004 := eqK rfl (show (-1 : Int32).toInt = (-1) by decide) c39004
              exact B92 x63_5 H locs ls hP hS (lv_sub hl [1, 2, 3, 4, 5] rfl)
            · have zc39004 := neK rfl (show (-1 : Int32).toInt = (-1) by decide) c39004
              refine lv_iload hx hb dX10_slips_88 (lv_at hl 0 rfl) ?_
              refine lv_istore (lv' := [(5, .int r39003), (8, .int r39003), (0, .ref adm), (4, .ref (qm 23)), (6, .int x63_6), (7, .int x63_7)]) hx hb dX10_slips_90 hl (by decide) rfl (fun ls hl => ?_)
              exact B92 r39003 H locs ls hP hS (lv_sub hl [2, 3, 0, 4, 5] rfl)
      exact B63 _ a2 v10 0 H locs ls (Nat.lt_succ_self _) (by omega) (by decide) hP hS (lv_sub hl [5, 3, 2, 1, 0] rfl)
    · have zc6 := eqK rfl (show (0 : Int32).toInt = 0 by decide) c6
      refine lv_bipush (v := (-5)) hx hb dX10_slips_35 (by decide) ?_
      exact retRi hx hb hr hlk hS dX10_slips_37 (trivial)
  · have zc4 := neK rfl (show (0 : Int32).toInt = 0 by decide) c4
    refine lv_iload_n hx hb dX10_slips_15 rfl (lv_at hl 0 rfl) ?_
    exact retRi hx hb hr hlk hS dX10_slips_16 (trivial)

set_option maxRecDepth 100000 in
set_option maxHeartbeats 16000000 in
theorem sX10_slips_lo (l : Launch) (G : va_G) (cs : Nat → ClassId) (adm : Nat) (qm : Nat → Nat) (Fm : Nat → Int32) (Am : Nat → Nat → Int32) (Bm : Nat → Nat → Int64) (Dm : Int64) (hIm : IX10 Fm Am) (qms : Nat → Nat) (Fms : Nat → Int32) (Ams : Nat → Nat → Int32) (Bms : Nat → Nat → Int64) (Dms : Int64) (hIms : IX8 Fms Ams) (qmh : Nat → Nat) (Fmh : Nat → Int32) (Amh : Nat → Nat → Int32) (Bmh : Nat → Nat → Int64) (Dmh : Int64) (hImh : IX3 Fmh Amh) (a1 : Int32) (a2 : Int32) (ha1 : (-2147483648 : Int) ≤ a1.toInt ∧ a1.toInt ≤ -1) : ∀ sz : Nat, Met l yX10_slips (wk yX10_slips cX10_slips 9 (some .int)) (rmk 3 0 0) (PreP G (TY cs) [.ref adm, .int a1, .int a2] ((uX10 cs adm qm Fm Am Bm Dm) ++ ((uX8 cs (qm 3) qms Fms Ams Bms Dms) ++ (uX3 cs (qms 0) qmh Fmh Amh Bmh Dmh))) sz) (QRi (fun r : Int32 => True) sz) 0 0 (fun q => sz ≤ q) := by
  refine mkP (Qc := QRi (fun r : Int32 => True)) (by decide) (by simp [lg_sl, Value.category]) ?_
  intro p e s m args below meth c ls hx hb hml hr hlk hown ht hK hP hS hl
  have hl : lv_has ls 9 [(0, .ref adm), (1, .int a1), (2, .int a2)] := hl
  refine lv_aload_n hx hb dX10_slips_0 rfl (lv_at hl 0 rfl) ?_
  refine lv_iload_n hx hb dX10_slips_1 rfl (lv_at hl 1 rfl) ?_
  refine lv_aload_n hx hb dX10_slips_2 rfl (lv_at hl 0 rfl) ?_
  refine lv_iload_n hx hb dX10_slips_3 rfl (lv_at hl 2 rfl) ?_
  refine behR (runVP (As := [.int a2]) (rest := [.int a1, .ref adm]) ⟨hx, hb, hml, hown, ht⟩ (sX10_isRoom l G cs adm qm Fm Am Bm Dm hIm qms Fms Ams Bms Dms hIms qmh Fmh Amh Bmh Dmh hImh a2 ) okV_RX10_120 ⟨by decide, by decide⟩ hK hP [0, 1, 2, 3, 4, 5, 6, 7, 8, 9, 10, 11, 12] rfl 0 rfl rfl hl.1 rfl (Nat.le_of_ble_eq_true rfl) dX10_slips_4 ⟨by decide, by decide⟩) hP hS (fun _ h => h) (fun r1 H locs hr1 hP hS => ?_)
  have hr1 : (r1.toInt = 1 ∧ 0 ≤ a2.toInt ∧ a2.toInt < (Fmh 5).toInt ∧ a2.toInt ≤ 6) ∨ r1.toInt = 0 := hr1
  have bb2 := i32b a1
  refine behR (runVP (As := [.int a1, .int r1]) (rest := []) ⟨hx, hb, hml, hown, ht⟩ (sX10_askRound_lo l G cs adm qm Fm Am Bm Dm hIm qms Fms Ams Bms Dms hIms qmh Fmh Amh Bmh Dmh hImh a1 r1 (by omega) (by omega)) okV_RX10_186 ⟨by decide, by decide⟩ hK hP [0, 1, 2, 3, 4, 5, 6, 7, 8, 9, 10, 11, 12] rfl 0 rfl rfl hl.1 rfl (Nat.le_of_ble_eq_true rfl) dX10_slips_7 ⟨by decide, by decide⟩) hP hS (fun _ h => h) (fun r3 H locs hr3 hP hS => ?_)
  have hr3 : r3.toInt = -2 := hr3
  refine lv_istore_n (lv' := [(3, .int r3), (0, .ref adm), (1, .int a1), (2, .int a2)]) hx hb dX10_slips_10 rfl hl (by decide) rfl (fun ls hl => ?_)
  refine lv_iload_n hx hb dX10_slips_11 rfl (lv_at hl 0 rfl) ?_
  refine lv_if_eq (tgt := 17) hx hb dX10_slips_12 (by decide) (fun c4 => False.elim (by have zz := eqK rfl (show (0 : Int32).toInt = 0 by decide) c4; omega)) (fun c4 => ?_)
  refine lv_iload_n hx hb dX10_slips_15 rfl (lv_at hl 0 rfl) ?_
  exact retRi hx hb hr hlk hS dX10_slips_16 (trivial)

