set_option maxRecDepth 100000 in
set_option maxHeartbeats 16000000 in
theorem sX10_shut (l : Launch) (G : va_G) (cs : Nat → ClassId) (adm : Nat) (qm : Nat → Nat) (Fm : Nat → Int32) (Am : Nat → Nat → Int32) (Bm : Nat → Nat → Int64) (Dm : Int64) (hIm : IX10 Fm Am) (qms : Nat → Nat) (Fms : Nat → Int32) (Ams : Nat → Nat → Int32) (Bms : Nat → Nat → Int64) (Dms : Int64) (hIms : IX8 Fms Ams) (qmh : Nat → Nat) (Fmh : Nat → Int32) (Amh : Nat → Nat → Int32) (Bmh : Nat → Nat → Int64) (Dmh : Int64) (hImh : IX3 Fmh Amh) (a1 : Int32) (a2 : Int32) (a3 : Int32) : ∀ sz : Nat, Met l yX10_shut (wk yX10_shut cX10_shut 5 (some .int)) (rmk 2 0 0) (PreD G (TY cs) [.ref adm, .int a1, .int a2, .int a3] ((uX10 cs adm qm Fm Am Bm Dm) ++ ((uX8 cs (qm 3) qms Fms Ams Bms Dms) ++ (uX3 cs (qms 0) qmh Fmh Amh Bmh Dmh))) sz) ((QDi G (fun (r : Int32) (u : (Nat → Int32)) => AJ (0) 127 u ∧ (True)) (fun u : (Nat → Int32) => ((uX10 cs adm qm Fm Am Bm Dm) ++ ((uX8 cs (qm 3) qms Fms Ams Bms Dms) ++ (wX3 cs (qms 0) qmh Fmh (vA Amh 10 u) Bmh Dmh))))) (va_A ((uX10 cs adm qm Fm Am Bm Dm) ++ ((uX8 cs (qm 3) qms Fms Ams Bms Dms) ++ (uX3 cs (qms 0) qmh Fmh Amh Bmh Dmh))) sz)) 0 0 (va_A ((uX10 cs adm qm Fm Am Bm Dm) ++ ((uX8 cs (qm 3) qms Fms Ams Bms Dms) ++ (uX3 cs (qms 0) qmh Fmh Amh Bmh Dmh))) sz) := by
  refine mkD (Qc := (QDi G (fun (r : Int32) (u : (Nat → Int32)) => AJ (0) 127 u ∧ (True)) (fun u : (Nat → Int32) => ((uX10 cs adm qm Fm Am Bm Dm) ++ ((uX8 cs (qm 3) qms Fms Ams Bms Dms) ++ (wX3 cs (qms 0) qmh Fmh (vA Amh 10 u) Bmh Dmh)))))) (by decide) (by simp [lg_sl, Value.category]) ?_
  intro p e s m args below meth c ls A0 hx hb hml hr hlk hown hmn ht hK hP hD hS hA hl
  have hl : lv_has ls 5 [(0, .ref adm), (1, .int a1), (2, .int a2), (3, .int a3)] := hl
  refine lv_aload_n hx hb dX10_shut_0 rfl (lv_at hl 0 rfl) ?_
  refine lv_iload_n hx hb dX10_shut_1 rfl (lv_at hl 1 rfl) ?_
  refine behR (runVP (As := [.int a1]) (rest := []) ⟨hx, hb, hml, hown, ht⟩ (sX10_isRoom l G cs adm qm Fm Am Bm Dm hIm qms Fms Ams Bms Dms hIms qmh Fmh Amh Bmh Dmh hImh a1 ) okV_RX10_120 ⟨by decide, by decide⟩ hK hP [0, 1, 2, 3, 4, 5, 6, 7, 8, 9, 10, 11, 12] rfl 0 rfl rfl hl.1 rfl (Nat.le_of_ble_eq_true rfl) dX10_shut_2 ⟨by decide, by decide⟩) hP hS hA (fun r1 H locs hr1 hP hS => ?_)
  have hr1 : (r1.toInt = 1 ∧ 0 ≤ a1.toInt ∧ a1.toInt < (Fmh 5).toInt ∧ a1.toInt ≤ 6) ∨ r1.toInt = 0 := hr1
  refine lv_if_eq (tgt := 30) hx hb dX10_shut_5 (by decide) (fun c2 => ?_) (fun c2 => ?_)
  · have zc2 := eqK rfl (show (0 : Int32).toInt = 0 by decide) c2
    refine lv_bipush (v := (-2)) hx hb dX10_shut_30 (by decide) ?_
    exact retDi (Amh 10) hx hb hr hlk hP hD hS dX10_shut_32 (⟨fun j => hImh.2 10 j, trivial⟩) (Nat.le_of_ble_eq_true rfl) (Nat.le_of_ble_eq_true rfl)
  · have zc2 := neK rfl (show (0 : Int32).toInt = 0 by decide) c2
    refine lv_aload_n hx hb dX10_shut_8 rfl (lv_at hl 0 rfl) ?_
    refine lv_iload_n hx hb dX10_shut_9 rfl (lv_at hl 2 rfl) ?_
    refine behR (runVP (As := [.int a2]) (rest := []) ⟨hx, hb, hml, hown, ht⟩ (sX10_isRoom l G cs adm qm Fm Am Bm Dm hIm qms Fms Ams Bms Dms hIms qmh Fmh Amh Bmh Dmh hImh a2 ) okV_RX10_120 ⟨by decide, by decide⟩ hK hP [0, 1, 2, 3, 4, 5, 6, 7, 8, 9, 10, 11, 12] rfl 0 rfl rfl hl.1 rfl (Nat.le_of_ble_eq_true rfl) dX10_shut_10 ⟨by decide, by decide⟩) hP hS hA (fun r3 H locs hr3 hP hS => ?_)
    have hr3 : (r3.toInt = 1 ∧ 0 ≤ a2.toInt ∧ a2.toInt < (Fmh 5).toInt ∧ a2.toInt ≤ 6) ∨ r3.toInt = 0 := hr3
    refine lv_if_eq (tgt := 30) hx hb dX10_shut_13 (by decide) (fun c4 => ?_) (fun c4 => ?_)
    · have zc4 := eqK rfl (show (0 : Int32).toInt = 0 by decide) c4
      refine lv_bipush (v := (-2)) hx hb dX10_shut_30 (by decide) ?_
      exact retDi (Amh 10) hx hb hr hlk hP hD hS dX10_shut_32 (⟨fun j => hImh.2 10 j, trivial⟩) (Nat.le_of_ble_eq_true rfl) (Nat.le_of_ble_eq_true rfl)
    · have zc4 := neK rfl (show (0 : Int32).toInt = 0 by decide) c4
      refine lv_iload_n hx hb dX10_shut_16 rfl (lv_at hl 1 rfl) ?_
      refine lv_iload_n hx hb dX10_shut_17 rfl (lv_at hl 2 rfl) ?_
      refine lv_icmp_eq (tgt := 30) hx hb dX10_shut_18 (by decide) (fun c5 => ?_) (fun c5 => ?_)
      · have zc5 := eqK rfl rfl c5
        refine lv_bipush (v := (-2)) hx hb dX10_shut_30 (by decide) ?_
        exact retDi (Amh 10) hx hb hr hlk hP hD hS dX10_shut_32 (⟨fun j => hImh.2 10 j, trivial⟩) (Nat.le_of_ble_eq_true rfl) (Nat.le_of_ble_eq_true rfl)
      · have zc5 := neK rfl rfl c5
        refine lv_iload_n hx hb dX10_shut_21 rfl (lv_at hl 3 rfl) ?_
        refine lv_if_lt (tgt := 30) hx hb dX10_shut_22 (by decide) (fun c6 => ?_) (fun c6 => ?_)
        · have zc6 := ltK rfl (show (0 : Int32).toInt = 0 by decide) c6
          refine lv_bipush (v := (-2)) hx hb dX10_shut_30 (by decide) ?_
          exact retDi (Amh 10) hx hb hr hlk hP hD hS dX10_shut_32 (⟨fun j => hImh.2 10 j, trivial⟩) (Nat.le_of_ble_eq_true rfl) (Nat.le_of_ble_eq_true rfl)
        · have zc6 := nltK rfl (show (0 : Int32).toInt = 0 by decide) c6
          refine lv_iload_n hx hb dX10_shut_25 rfl (lv_at hl 3 rfl) ?_
          refine lv_iconst (v := 1) hx hb dX10_shut_26 (by decide) ?_
          refine lv_icmp_le (tgt := 33) hx hb dX10_shut_27 (by decide) (fun c7 => ?_) (fun c7 => ?_)
          · have zc7 := leK rfl (show (1 : Int32).toInt = 1 by decide) c7
            refine lv_aload_n hx hb dX10_shut_33 rfl (lv_at hl 0 rfl) ?_
            refine getF (v := .ref (qm 3)) hx hb ht hown hK hP iTX10 0 3 rfl rfl (by decide) fl_RX10_31 rfl dX10_shut_34 ?_
            refine getF (v := .int (Fms 2)) hx hb ht hown hK hP iTX8 3 2 rfl rfl (by decide) fl_RX10_105 rfl dX10_shut_37 ?_
            have zf8 : (0 : Int) ≤ (Fms 2).toInt ∧ (Fms 2).toInt ≤ 60 := hIms.1 2
            refine lv_if_le (tgt := 46) hx hb dX10_shut_40 (by decide) (fun c9 => ?_) (fun c9 => ?_)
            · have zc9 := leK rfl (show (0 : Int32).toInt = 0 by decide) c9
              refine lv_aload_n hx hb dX10_shut_46 rfl (lv_at hl 0 rfl) ?_
              refine getF (v := .ref (qm 3)) hx hb ht hown hK hP iTX10 0 3 rfl rfl (by decide) fl_RX10_31 rfl dX10_shut_47 ?_
              refine getF (v := .ref (qms 0)) hx hb ht hown hK hP iTX8 3 0 rfl rfl (by decide) fl_RX10_98 rfl dX10_shut_50 ?_
              refine lv_iload_n hx hb dX10_shut_53 rfl (lv_at hl 1 rfl) ?_
              refine lv_iload_n hx hb dX10_shut_54 rfl (lv_at hl 2 rfl) ?_
              refine behR (runVP (As := [.int a1, .int a2]) (rest := []) ⟨hx, hb, hml, hown, ht⟩ (sX3_isDoor l G cs (qms 0) qmh Fmh Amh Bmh Dmh hImh a1 a2 ) okV_RX10_324 ⟨by decide, by decide⟩ hK hP [5, 6, 7, 8, 9, 10, 11, 12] rfl 5 rfl rfl hl.1 rfl (Nat.le_of_ble_eq_true rfl) dX10_shut_55 ⟨by decide, by decide⟩) hP hS hA (fun r10 H locs hr10 hP hS => ?_)
              have hr10 : (0 : Int) ≤ r10.toInt ∧ r10.toInt ≤ 1 := hr10
              refine lv_istore (lv' := [(4, .int r10), (0, .ref adm), (1, .int a1), (2, .int a2), (3, .int a3)]) hx hb dX10_shut_58 hl (by decide) rfl (fun ls hl => ?_)
              refine lv_iload_n hx hb dX10_shut_60 rfl (lv_at hl 4 rfl) ?_
              refine lv_iconst (v := 1) hx hb dX10_shut_61 (by decide) ?_
              have B92 : ∀ (amh10_92 : (Nat → Int32)) (H : Heap) (locs : List Loc) (ls : Array Slot), AJ (0) 127 amh10_92 → va_P G vwCl ((uX10 cs adm qm Fm Am Bm Dm) ++ ((uX8 cs (qm 3) qms Fms Ams Bms Dms) ++ (uX3 cs (qms 0) qmh Fmh (vB 10 amh10_92 Amh) Bmh Dmh))) H → va_D A0 ((uX10 cs adm qm Fm Am Bm Dm) ++ ((uX8 cs (qm 3) qms Fms Ams Bms Dms) ++ (uX3 cs (qms 0) qmh Fmh (vB 10 amh10_92 Amh) Bmh Dmh))) → va_S A0 s.heap H locs → lv_has ls 5 [(4, .int r10)] → W p l e (rmk 2 0 0) s m args below meth c H locs 0 0 (MQ below ((QDi G (fun (r : Int32) (u : (Nat → Int32)) => AJ (0) 127 u ∧ (True)) (fun u : (Nat → Int32) => ((uX10 cs adm qm Fm Am Bm Dm) ++ ((uX8 cs (qm 3) qms Fms Ams Bms Dms) ++ (wX3 cs (qms 0) qmh Fmh (vA Amh 10 u) Bmh Dmh))))) A0) args s 0 0 A0) (F0 m 92 ls []) := by
                intro amh10_92 H locs ls hamh10_92 hP hD hS hl
                refine lv_iload hx hb dX10_shut_92 (lv_at hl 0 rfl) ?_
                refine lv_if_eq (tgt := 101) hx hb dX10_shut_94 (by decide) (fun c46001 => ?_) (fun c46001 => ?_)
                · have zc46001 := eqK rfl (show (0 : Int32).toInt = 0 by decide) c46001
                  refine lv_iconst (v := 0) hx hb dX10_shut_101 (by decide) ?_
                  exact retDi amh10_92 hx hb hr hlk hP hD hS dX10_shut_102 (⟨hamh10_92, trivial⟩) (Nat.le_of_ble_eq_true rfl) (Nat.le_of_ble_eq_true rfl)
                · have zc46001 := neK rfl (show (0 : Int32).toInt = 0 by decide) c46001
                  refine lv_iconst (v := 1) hx hb dX10_shut_97 (by decide) ?_
                  refine lv_goto (tgt := 102) hx hb dX10_shut_98 (by decide) ?_
                  exact retDi amh10_92 hx hb hr hlk hP hD hS dX10_shut_102 (⟨hamh10_92, trivial⟩) (Nat.le_of_ble_eq_true rfl) (Nat.le_of_ble_eq_true rfl)
              refine lv_icmp_ne (tgt := 80) hx hb dX10_shut_62 (by decide) (fun c11 => ?_) (fun c11 => ?_)
              · have zc11 := neK rfl (show (1 : Int32).toInt = 1 by decide) c11
                refine lv_aload_n hx hb dX10_shut_80 rfl (lv_at hl 1 rfl) ?_
                refine getF (v := .ref (qm 3)) hx hb ht hown hK hP iTX10 0 3 rfl rfl (by decide) fl_RX10_31 rfl dX10_shut_81 ?_
                refine getF (v := .ref (qms 0)) hx hb ht hown hK hP iTX8 3 0 rfl rfl (by decide) fl_RX10_98 rfl dX10_shut_84 ?_
                refine lv_iload_n hx hb dX10_shut_87 rfl (lv_at hl 2 rfl) ?_
                refine lv_iload_n hx hb dX10_shut_88 rfl (lv_at hl 3 rfl) ?_
                refine behDw (wr := ((uX10 cs adm qm Fm Am Bm Dm) ++ (uX8 cs (qm 3) qms Fms Ams Bms Dms))) (runVD (As := [.int a1, .int a2]) (rest := []) ⟨hx, hb, hml, hown, ht⟩ (sX3_closeDoor l G cs (qms 0) qmh Fmh Amh Bmh Dmh hImh a1 a2 ) okV_RX10_332 ⟨by decide, by decide⟩ hK hP hD [5, 6, 7, 8, 9, 10, 11, 12] rfl (by decide) rfl 5 rfl rfl hl.1 rfl (Nat.le_of_ble_eq_true rfl) dX10_shut_89 ⟨(Nat.le_of_ble_eq_true rfl), (Nat.le_of_ble_eq_true rfl)⟩) hP hD hS hA [5, 6, 7, 8, 9, 10, 11, 12] [0, 1, 2, 3, 4] rfl rfl (by decide) (by decide) (fun u H locs hu hP hD hS => ?_)
                obtain ⟨g12, rfl⟩ : ∃ z, z = u := ⟨_, rfl⟩
                obtain ⟨hg12, hr13⟩ := hu
                have hg12 : AJ (0) 127 g12 := hg12
                have hP : va_P G vwCl ((uX10 cs adm qm Fm Am Bm Dm) ++ ((uX8 cs (qm 3) qms Fms Ams Bms Dms) ++ (uX3 cs (qms 0) qmh Fmh (vB 10 g12 Amh) Bmh Dmh))) H := hP.sub [0, 1, 2, 3, 4, 5, 6, 7, 8, 9, 10, 11, 12] rfl
                have hD : va_D A0 ((uX10 cs adm qm Fm Am Bm Dm) ++ ((uX8 cs (qm 3) qms Fms Ams Bms Dms) ++ (uX3 cs (qms 0) qmh Fmh (vB 10 g12 Amh) Bmh Dmh))) := hD.sub [0, 1, 2, 3, 4, 5, 6, 7, 8, 9, 10, 11, 12] (by decide) rfl
                exact B92 g12 H locs ls hg12 hP hD hS (lv_sub hl [0] rfl)
              · have zc11 := eqK rfl (show (1 : Int32).toInt = 1 by decide) c11
                refine lv_aload_n hx hb dX10_shut_65 rfl (lv_at hl 1 rfl) ?_
                refine getF (v := .ref (qm 3)) hx hb ht hown hK hP iTX10 0 3 rfl rfl (by decide) fl_RX10_31 rfl dX10_shut_66 ?_
                refine getF (v := .ref (qms 0)) hx hb ht hown hK hP iTX8 3 0 rfl rfl (by decide) fl_RX10_98 rfl dX10_shut_69 ?_
                refine lv_iload_n hx hb dX10_shut_72 rfl (lv_at hl 2 rfl) ?_
                refine lv_iload_n hx hb dX10_shut_73 rfl (lv_at hl 3 rfl) ?_
                refine behDw (wr := ((uX10 cs adm qm Fm Am Bm Dm) ++ (uX8 cs (qm 3) qms Fms Ams Bms Dms))) (runVD (As := [.int a1, .int a2]) (rest := []) ⟨hx, hb, hml, hown, ht⟩ (sX3_openDoor l G cs (qms 0) qmh Fmh Amh Bmh Dmh hImh a1 a2 ) okV_RX10_328 ⟨by decide, by decide⟩ hK hP hD [5, 6, 7, 8, 9, 10, 11, 12] rfl (by decide) rfl 5 rfl rfl hl.1 rfl (Nat.le_of_ble_eq_true rfl) dX10_shut_74 ⟨(Nat.le_of_ble_eq_true rfl), (Nat.le_of_ble_eq_true rfl)⟩) hP hD hS hA [5, 6, 7, 8, 9, 10, 11, 12] [0, 1, 2, 3, 4] rfl rfl (by decide) (by decide) (fun u H locs hu hP hD hS => ?_)
                obtain ⟨g14, rfl⟩ : ∃ z, z = u := ⟨_, rfl⟩
                obtain ⟨hg14, hr15⟩ := hu
                have hg14 : AJ (0) 127 g14 := hg14
                have hP : va_P G vwCl ((uX10 cs adm qm Fm Am Bm Dm) ++ ((uX8 cs (qm 3) qms Fms Ams Bms Dms) ++ (uX3 cs (qms 0) qmh Fmh (vB 10 g14 Amh) Bmh Dmh))) H := hP.sub [0, 1, 2, 3, 4, 5, 6, 7, 8, 9, 10, 11, 12] rfl
                have hD : va_D A0 ((uX10 cs adm qm Fm Am Bm Dm) ++ ((uX8 cs (qm 3) qms Fms Ams Bms Dms) ++ (uX3 cs (qms 0) qmh Fmh (vB 10 g14 Amh) Bmh Dmh))) := hD.sub [0, 1, 2, 3, 4, 5, 6, 7, 8, 9, 10, 11, 12] (by decide) rfl
                refine lv_goto (tgt := 92) hx hb dX10_shut_77 (by decide) ?_
                exact B92 g14 H locs ls hg14 hP hD hS (lv_sub hl [0] rfl)
            · have zc9 := nleK rfl (show (0 : Int32).toInt = 0 by decide) c9
              refine lv_bipush (v := (-5)) hx hb dX10_shut_43 (by decide) ?_
              exact retDi (Amh 10) hx hb hr hlk hP hD hS dX10_shut_45 (⟨fun j => hImh.2 10 j, trivial⟩) (Nat.le_of_ble_eq_true rfl) (Nat.le_of_ble_eq_true rfl)
          · have zc7 := nleK rfl (show (1 : Int32).toInt = 1 by decide) c7
            refine lv_bipush (v := (-2)) hx hb dX10_shut_30 (by decide) ?_
            exact retDi (Amh 10) hx hb hr hlk hP hD hS dX10_shut_32 (⟨fun j => hImh.2 10 j, trivial⟩) (Nat.le_of_ble_eq_true rfl) (Nat.le_of_ble_eq_true rfl)

set_option maxRecDepth 100000 in
set_option maxHeartbeats 16000000 in
theorem sX10_count (l : Launch) (G : va_G) (cs : Nat → ClassId) (adm : Nat) (qm : Nat → Nat) (Fm : Nat → Int32) (Am : Nat → Nat → Int32) (Bm : Nat → Nat → Int64) (Dm : Int64) (hIm : IX10 Fm Am) (qms : Nat → Nat) (Fms : Nat → Int32) (Ams : Nat → Nat → Int32) (Bms : Nat → Nat → Int64) (Dms : Int64) (hIms : IX8 Fms Ams) (qmh : Nat → Nat) (Fmh : Nat → Int32) (Amh : Nat → Nat → Int32) (Bmh : Nat → Nat → Int64) (Dmh : Int64) (hImh : IX3 Fmh Amh) (qmt : Nat → Nat) (Fmt : Nat → Int32) (Amt : Nat → Nat → Int32) (Bmt : Nat → Nat → Int64) (Dmt : Int64) (hImt : IX9 Fmt Amt) (qr0 : Nat → Nat) (Fr0 : Nat → Int32) (Ar0 : Nat → Nat → Int32) (Br0 : Nat → Nat → Int64) (Dr0 : Int64) (hIr0 : IX7 Fr0 Ar0) (qr1 : Nat → Nat) (Fr1 : Nat → Int32) (Ar1 : Nat → Nat → Int32) (Br1 : Nat → Nat → Int64) (Dr1 : Int64) (hIr1 : IX7 Fr1 Ar1) (qr2 : Nat → Nat) (Fr2 : Nat → Int32) (Ar2 : Nat → Nat → Int32) (Br2 : Nat → Nat → Int64) (Dr2 : Int64) (hIr2 : IX7 Fr2 Ar2) (qr3 : Nat → Nat) (Fr3 : Nat → Int32) (Ar3 : Nat → Nat → Int32) (Br3 : Nat → Nat → Int64) (Dr3 : Int64) (hIr3 : IX7 Fr3 Ar3) (a1 : Int32) : ∀ sz : Nat, Met l yX10_count (wk yX10_count cX10_count 2 (some .int)) (rmk 2 0 0) (PreP G (TY cs) [.ref adm, .int a1] ((uX10 cs adm qm Fm Am Bm Dm) ++ ((uX8 cs (qm 3) qms Fms Ams Bms Dms) ++ ((uX3 cs (qms 0) qmh Fmh Amh Bmh Dmh) ++ ((uX9 cs (qm 1) qmt Fmt Amt Bmt Dmt) ++ ((uX7 cs (qm 20) qr0 Fr0 Ar0 Br0 Dr0) ++ ((uX7 cs (qm 21) qr1 Fr1 Ar1 Br1 Dr1) ++ ((uX7 cs (qm 22) qr2 Fr2 Ar2 Br2 Dr2) ++ (uX7 cs (qm 23) qr3 Fr3 Ar3 Br3 Dr3)))))))) sz) (QRi (fun r : Int32 => True) sz) 0 0 (fun q => sz ≤ q) := by
  refine mkP (Qc := QRi (fun r : Int32 => True)) (by decide) (by simp [lg_sl, Value.category]) ?_
  intro p e s m args below meth c ls hx hb hml hr hlk hown ht hK hP hS hl
  have hl : lv_has ls 2 [(0, .ref adm), (1, .int a1)] := hl
  refine lv_iload_n hx hb dX10_count_0 rfl (lv_at hl 1 rfl) ?_
  rcases csN8 a1 with hN | hN | rfl | rfl | rfl | rfl | rfl | rfl | rfl | rfl
  · refine lv_tableOut (tgt := 128) hx hb dX10_count_1 (by left; omega) (by decide) ?_
    refine lv_iconst (v := (-1)) hx hb dX10_count_128 (by decide) ?_
    exact retRi hx hb hr hlk hS dX10_count_129 (trivial)
  · refine lv_tableOut (tgt := 128) hx hb dX10_count_1 (by right; omega) (by decide) ?_
    refine lv_iconst (v := (-1)) hx hb dX10_count_128 (by decide) ?_
    exact retRi hx hb hr hlk hS dX10_count_129 (trivial)
  · refine lv_tableIn (off := 47) (tgt := 48) hx hb dX10_count_1 (by decide) (by decide) (by decide) (by decide) ?_
    refine lv_aload_n hx hb dX10_count_48 rfl (lv_at hl 0 rfl) ?_
    refine getF (v := .ref (qm 3)) hx hb ht hown hK hP iTX10 0 3 rfl rfl (by decide) fl_RX10_31 rfl dX10_count_49 ?_
    refine getF (v := .ref (qms 0)) hx hb ht hown hK hP iTX8 3 0 rfl rfl (by decide) fl_RX10_98 rfl dX10_count_52 ?_
    refine getF (v := .int (Fmh 5)) hx hb ht hown hK hP iTX3 5 5 rfl rfl (by decide) fl_RX10_159 rfl dX10_count_55 ?_
    have zf1 : (0 : Int) ≤ (Fmh 5).toInt ∧ (Fmh 5).toInt ≤ 7 := hImh.1 5
    exact retRi hx hb hr hlk hS dX10_count_58 (trivial)
  · refine lv_tableIn (off := 58) (tgt := 59) hx hb dX10_count_1 (by decide) (by decide) (by decide) (by decide) ?_
    refine lv_aload_n hx hb dX10_count_59 rfl (lv_at hl 0 rfl) ?_
    refine getF (v := .ref (qm 3)) hx hb ht hown hK hP iTX10 0 3 rfl rfl (by decide) fl_RX10_31 rfl dX10_count_60 ?_
    refine getF (v := .ref (qms 0)) hx hb ht hown hK hP iTX8 3 0 rfl rfl (by decide) fl_RX10_98 rfl dX10_count_63 ?_
    refine behR (runVP (As := []) (rest := []) ⟨hx, hb, hml, hown, ht⟩ (sX3_countDoors l G cs (qms 0) qmh Fmh Amh Bmh Dmh hImh ) okV_RX10_335 ⟨by decide, by decide⟩ hK hP [5, 6, 7, 8, 9, 10, 11, 12] rfl 5 rfl rfl hl.1 rfl (Nat.le_of_ble_eq_true rfl) dX10_count_66 ⟨by decide, by decide⟩) hP hS (fun _ h => h) (fun r2 H locs hr2 hP hS => ?_)
    exact retRi hx hb hr hlk hS dX10_count_69 (trivial)
  · refine lv_tableIn (off := 69) (tgt := 70) hx hb dX10_count_1 (by decide) (by decide) (by decide) (by decide) ?_
    refine lv_aload_n hx hb dX10_count_70 rfl (lv_at hl 0 rfl) ?_
    refine getF (v := .ref (qm 3)) hx hb ht hown hK hP iTX10 0 3 rfl rfl (by decide) fl_RX10_31 rfl dX10_count_71 ?_
    refine getF (v := .ref (qms 0)) hx hb ht hown hK hP iTX8 3 0 rfl rfl (by decide) fl_RX10_98 rfl dX10_count_74 ?_
    refine getF (v := .int (Fmh 6)) hx hb ht hown hK hP iTX3 5 6 rfl rfl (by decide) fl_RX10_283 rfl dX10_count_77 ?_
    have zf3 : (0 : Int) ≤ (Fmh 6).toInt ∧ (Fmh 6).toInt ≤ 6 := hImh.1 6
    exact retRi hx hb hr hlk hS dX10_count_80 (trivial)
  · refine lv_tableIn (off := 80) (tgt := 81) hx hb dX10_count_1 (by decide) (by decide) (by decide) (by decide) ?_
    refine lv_aload_n hx hb dX10_count_81 rfl (lv_at hl 0 rfl) ?_
    refine lv_aload_n hx hb dX10_count_82 rfl (lv_at hl 0 rfl) ?_
    refine getF (v := .ref (qm 3)) hx hb ht hown hK hP iTX10 0 3 rfl rfl (by decide) fl_RX10_31 rfl dX10_count_83 ?_
    refine getF (v := .ref (qms 0)) hx hb ht hown hK hP iTX8 3 0 rfl rfl (by decide) fl_RX10_98 rfl dX10_count_86 ?_
    refine behR (runVP (As := []) (rest := [.ref adm]) ⟨hx, hb, hml, hown, ht⟩ (sX3_allRooms l G cs (qms 0) qmh Fmh Amh Bmh Dmh hImh ) okV_RX10_238 ⟨by decide, by decide⟩ hK hP [5, 6, 7, 8, 9, 10, 11, 12] rfl 5 rfl rfl hl.1 rfl (Nat.le_of_ble_eq_true rfl) dX10_count_89 ⟨by decide, by decide⟩) hP hS (fun _ h => h) (fun r4 H locs hr4 hP hS => ?_)
    have hr4 : (0 : Int) ≤ r4.toInt ∧ r4.toInt ≤ 127 := hr4
    refine behR (runVP (As := [.int r4]) (rest := []) ⟨hx, hb, hml, hown, ht⟩ (sX10_peopleOf l G cs adm qm Fm Am Bm Dm hIm qms Fms Ams Bms Dms hIms qmh Fmh Amh Bmh Dmh hImh r4 ) okV_RX10_247 ⟨by decide, by decide⟩ hK hP [0, 1, 2, 3, 4, 5, 6, 7, 8, 9, 10, 11, 12] rfl 0 rfl rfl hl.1 rfl (Nat.le_of_ble_eq_true rfl) dX10_count_92 ⟨by decide, by decide⟩) hP hS (fun _ h => h) (fun r5 H locs hr5 hP hS => ?_)
    exact retRi hx hb hr hlk hS dX10_count_95 (trivial)
  · refine lv_tableIn (off := 95) (tgt := 96) hx hb dX10_count_1 (by decide) (by decide) (by decide) (by decide) ?_
    refine lv_aload_n hx hb dX10_count_96 rfl (lv_at hl 0 rfl) ?_
    refine getF (v := .ref (qm 3)) hx hb ht hown hK hP iTX10 0 3 rfl rfl (by decide) fl_RX10_31 rfl dX10_count_97 ?_
    refine getF (v := .ref (qms 0)) hx hb ht hown hK hP iTX8 3 0 rfl rfl (by decide) fl_RX10_98 rfl dX10_count_100 ?_
    refine getF (v := .int (Fmh 0)) hx hb ht hown hK hP iTX3 5 0 rfl rfl (by decide) fl_RX10_111 rfl dX10_count_103 ?_
    exact retRi hx hb hr hlk hS dX10_count_106 (trivial)
  · refine lv_tableIn (off := 106) (tgt := 107) hx hb dX10_count_1 (by decide) (by decide) (by decide) (by decide) ?_
    refine lv_aload_n hx hb dX10_count_107 rfl (lv_at hl 0 rfl) ?_
    refine getF (v := .ref (qm 1)) hx hb ht hown hK hP iTX10 0 1 rfl rfl (by decide) fl_RX10_20 rfl dX10_count_108 ?_
    refine getF (v := .int (Fmt 1)) hx hb ht hown hK hP iTX9 13 1 rfl rfl (by decide) fl_RX10_84 rfl dX10_count_111 ?_
    have zf6 : (0 : Int) ≤ (Fmt 1).toInt ∧ (Fmt 1).toInt ≤ 900 := hImt.1 1
    exact retRi hx hb hr hlk hS dX10_count_114 (trivial)
  · refine lv_tableIn (off := 114) (tgt := 115) hx hb dX10_count_1 (by decide) (by decide) (by decide) (by decide) ?_
    refine lv_aload_n hx hb dX10_count_115 rfl (lv_at hl 0 rfl) ?_
    refine getF (v := .ref (qm 3)) hx hb ht hown hK hP iTX10 0 3 rfl rfl (by decide) fl_RX10_31 rfl dX10_count_116 ?_
    refine getF (v := .int (Fms 2)) hx hb ht hown hK hP iTX8 3 2 rfl rfl (by decide) fl_RX10_105 rfl dX10_count_119 ?_
    have zf7 : (0 : Int) ≤ (Fms 2).toInt ∧ (Fms 2).toInt ≤ 60 := hIms.1 2
    exact retRi hx hb hr hlk hS dX10_count_122 (trivial)
  · refine lv_tableIn (off := 122) (tgt := 123) hx hb dX10_count_1 (by decide) (by decide) (by decide) (by decide) ?_
    refine lv_aload_n hx hb dX10_count_123 rfl (lv_at hl 0 rfl) ?_
    refine behR (runVP (As := []) (rest := []) ⟨hx, hb, hml, hown, ht⟩ (sX10_countRows l G cs adm qm Fm Am Bm Dm hIm qr0 Fr0 Ar0 Br0 Dr0 hIr0 qr1 Fr1 Ar1 Br1 Dr1 hIr1 qr2 Fr2 Ar2 Br2 Dr2 hIr2 qr3 Fr3 Ar3 Br3 Dr3 hIr3 ) okV_RX10_338 ⟨by decide, by decide⟩ hK hP [0, 1, 2, 15, 16, 17, 18, 19, 20, 21, 22] rfl 0 rfl rfl hl.1 rfl (Nat.le_of_ble_eq_true rfl) dX10_count_124 ⟨by decide, by decide⟩) hP hS (fun _ h => h) (fun r8 H locs hr8 hP hS => ?_)
    exact retRi hx hb hr hlk hS dX10_count_127 (trivial)

set_option maxRecDepth 100000 in
set_option maxHeartbeats 16000000 in
theorem sX10_image_0 (l : Launch) (G : va_G) (cs : Nat → ClassId) (adm : Nat) (qm : Nat → Nat) (Fm : Nat → Int32) (Am : Nat → Nat → Int32) (Bm : Nat → Nat → Int64) (Dm : Int64) (hIm : IX10 Fm Am) (qms : Nat → Nat) (Fms : Nat → Int32) (Ams : Nat → Nat → Int32) (Bms : Nat → Nat → Int64) (Dms : Int64) (hIms : IX8 Fms Ams) (qmh : Nat → Nat) (Fmh : Nat → Int32) (Amh : Nat → Nat → Int32) (Bmh : Nat → Nat → Int64) (Dmh : Int64) (hImh : IX3 Fmh Amh) (qi0 : Nat → Nat) (Fi0 : Nat → Int32) (Ai0 : Nat → Nat → Int32) (Bi0 : Nat → Nat → Int64) (Di0 : Int64) (hIi0 : IX8 Fi0 Ai0) (qj0 : Nat → Nat) (Fj0 : Nat → Int32) (Aj0 : Nat → Nat → Int32) (Bj0 : Nat → Nat → Int64) (Dj0 : Int64) (hIj0 : IX3 Fj0 Aj0) : ∀ sz : Nat, Met l yX10_image (wk yX10_image cX10_image 2 (some .int)) (rmk 3 0 0) (PreD G (TY cs) [.ref adm, .int 0] ((uX10 cs adm qm Fm Am Bm Dm) ++ ((uX8 cs (qm 3) qms Fms Ams Bms Dms) ++ ((uX3 cs (qms 0) qmh Fmh Amh Bmh Dmh) ++ ((uX8 cs (qm 30) qi0 Fi0 Ai0 Bi0 Di0) ++ (uX3 cs (qi0 0) qj0 Fj0 Aj0 Bj0 Dj0))))) sz) ((QDi G (fun (r : Int32) (u : Int32 × Int32 × Int32 × Int32 × Int32 × Int32 × Int32 × Int32 × Int32 × (Nat → Int32) × (Nat → Int32) × (Nat → Int32) × (Nat → Int32) × (Nat → Int32) × (Nat → Int32) × (Nat → Int32) × (Nat → Int32)) => ((0 : Int) ≤ u.1.toInt ∧ u.1.toInt ≤ 60) ∧ ((0 : Int) ≤ u.2.1.toInt ∧ u.2.1.toInt ≤ 1) ∧ ((0 : Int) ≤ u.2.2.2.2.2.2.2.1.toInt ∧ u.2.2.2.2.2.2.2.1.toInt ≤ 7) ∧ ((0 : Int) ≤ u.2.2.2.2.2.2.2.2.1.toInt ∧ u.2.2.2.2.2.2.2.2.1.toInt ≤ 6) ∧ AJ (0) 127 u.2.2.2.2.2.2.2.2.2.2.2.2.2.1 ∧ AJ (0) 63 u.2.2.2.2.2.2.2.2.2.2.2.2.2.2.2.1 ∧ (r.toInt = 0 ∧ u.2.1.toInt = 1)) (fun u : Int32 × Int32 × Int32 × Int32 × Int32 × Int32 × Int32 × Int32 × Int32 × (Nat → Int32) × (Nat → Int32) × (Nat → Int32) × (Nat → Int32) × (Nat → Int32) × (Nat → Int32) × (Nat → Int32) × (Nat → Int32) => ((uX10 cs adm qm Fm Am Bm Dm) ++ ((uX8 cs (qm 3) qms Fms Ams Bms Dms) ++ ((uX3 cs (qms 0) qmh Fmh Amh Bmh Dmh) ++ ((wX8 cs (qm 30) qi0 (upd (upd Fi0 2 u.1) 3 u.2.1) (vA Ai0 1 u.2.2.2.2.2.2.2.2.2.1) Bi0 Di0) ++ (wX3 cs (qi0 0) qj0 (upd (upd (upd (upd (upd (upd (upd Fj0 0 u.2.2.1) 1 u.2.2.2.1) 2 u.2.2.2.2.1) 3 u.2.2.2.2.2.1) 4 u.2.2.2.2.2.2.1) 5 u.2.2.2.2.2.2.2.1) 6 u.2.2.2.2.2.2.2.2.1) (vA (vA (vA (vA (vA (vA (vA Aj0 7 u.2.2.2.2.2.2.2.2.2.2.1) 8 u.2.2.2.2.2.2.2.2.2.2.2.1) 9 u.2.2.2.2.2.2.2.2.2.2.2.2.1) 10 u.2.2.2.2.2.2.2.2.2.2.2.2.2.1) 11 u.2.2.2.2.2.2.2.2.2.2.2.2.2.2.1) 12 u.2.2.2.2.2.2.2.2.2.2.2.2.2.2.2.1) 13 u.2.2.2.2.2.2.2.2.2.2.2.2.2.2.2.2) Bj0 Dj0))))))) (va_A ((uX10 cs adm qm Fm Am Bm Dm) ++ ((uX8 cs (qm 3) qms Fms Ams Bms Dms) ++ ((uX3 cs (qms 0) qmh Fmh Amh Bmh Dmh) ++ ((uX8 cs (qm 30) qi0 Fi0 Ai0 Bi0 Di0) ++ (uX3 cs (qi0 0) qj0 Fj0 Aj0 Bj0 Dj0))))) sz)) 0 0 (va_A ((uX10 cs adm qm Fm Am Bm Dm) ++ ((uX8 cs (qm 3) qms Fms Ams Bms Dms) ++ ((uX3 cs (qms 0) qmh Fmh Amh Bmh Dmh) ++ ((uX8 cs (qm 30) qi0 Fi0 Ai0 Bi0 Di0) ++ (uX3 cs (qi0 0) qj0 Fj0 Aj0 Bj0 Dj0))))) sz) := by
  refine mkD (Qc := (QDi G (fun (r : Int32) (u : Int32 × Int32 × Int32 × Int32 × Int32 × Int32 × Int32 × Int32 × Int32 × (Nat → Int32) × (Nat → Int32) × (Nat → Int32) × (Nat → Int32) × (Nat → Int32) × (Nat → Int32) × (Nat → Int32) × (Nat → Int32)) => ((0 : Int) ≤ u.1.toInt ∧ u.1.toInt ≤ 60) ∧ ((0 : Int) ≤ u.2.1.toInt ∧ u.2.1.toInt ≤ 1) ∧ ((0 : Int) ≤ u.2.2.2.2.2.2.2.1.toInt ∧ u.2.2.2.2.2.2.2.1.toInt ≤ 7) ∧ ((0 : Int) ≤ u.2.2.2.2.2.2.2.2.1.toInt ∧ u.2.2.2.2.2.2.2.2.1.toInt ≤ 6) ∧ AJ (0) 127 u.2.2.2.2.2.2.2.2.2.2.2.2.2.1 ∧ AJ (0) 63 u.2.2.2.2.2.2.2.2.2.2.2.2.2.2.2.1 ∧ (r.toInt = 0 ∧ u.2.1.toInt = 1)) (fun u : Int32 × Int32 × Int32 × Int32 × Int32 × Int32 × Int32 × Int32 × Int32 × (Nat → Int32) × (Nat → Int32) × (Nat → Int32) × (Nat → Int32) × (Nat → Int32) × (Nat → Int32) × (Nat → Int32) × (Nat → Int32) => ((uX10 cs adm qm Fm Am Bm Dm) ++ ((uX8 cs (qm 3) qms Fms Ams Bms Dms) ++ ((uX3 cs (qms 0) qmh Fmh Amh Bmh Dmh) ++ ((wX8 cs (qm 30) qi0 (upd (upd Fi0 2 u.1) 3 u.2.1) (vA Ai0 1 u.2.2.2.2.2.2.2.2.2.1) Bi0 Di0) ++ (wX3 cs (qi0 0) qj0 (upd (upd (upd (upd (upd (upd (upd Fj0 0 u.2.2.1) 1 u.2.2.2.1) 2 u.2.2.2.2.1) 3 u.2.2.2.2.2.1) 4 u.2.2.2.2.2.2.1) 5 u.2.2.2.2.2.2.2.1) 6 u.2.2.2.2.2.2.2.2.1) (vA (vA (vA (vA (vA (vA (vA Aj0 7 u.2.2.2.2.2.2.2.2.2.2.1) 8 u.2.2.2.2.2.2.2.2.2.2.2.1) 9 u.2.2.2.2.2.2.2.2.2.2.2.2.1) 10 u.2.2.2.2.2.2.2.2.2.2.2.2.2.1) 11 u.2.2.2.2.2.2.2.2.2.2.2.2.2.2.1) 12 u.2.2.2.2.2.2.2.2.2.2.2.2.2.2.2.1) 13 u.2.2.2.2.2.2.2.2.2.2.2.2.2.2.2.2) Bj0 Dj0)))))))) (by decide) (by simp [lg_sl, Value.category]) ?_
  intro p e s m args below meth c ls A0 hx hb hml hr hlk hown hmn ht hK hP hD hS hA hl
  have hl : lv_has ls 2 [(0, .ref adm), (1, .int 0)] := hl
  refine lv_iload_n hx hb dX10_image_0 rfl (lv_at hl 1 rfl) ?_
  refine lv_if_lt (tgt := 9) hx hb dX10_image_1 (by decide) (fun c1 => False.elim (by revert c1; decide)) (fun c1 => ?_)
  refine lv_iload_n hx hb dX10_image_4 rfl (lv_at hl 1 rfl) ?_
  refine lv_iconst (v := 3) hx hb dX10_image_5 (by decide) ?_
  refine lv_icmp_lt (tgt := 12) hx hb dX10_image_6 (by decide) (fun c2 => ?_) (fun c2 => False.elim (by revert c2; decide))
  refine lv_aload_n hx hb dX10_image_12 rfl (lv_at hl 0 rfl) ?_
  refine getF (v := .ref (qm 4)) hx hb ht hown hK hP iTX10 0 4 rfl rfl (by decide) fl_RX10_35 rfl dX10_image_13 ?_
  refine lv_iload_n hx hb dX10_image_16 rfl (lv_at hl 1 rfl) ?_
  refine va_aldq hx hb hK.1 hP 1 4 rfl rfl (show ¬ (_ ∨ _) by decide) dX10_image_17 ?_
  refine W.eq (g2 := F0 m 18 ls [.ref (qm 30)]) rfl ?_
  refine lv_aload_n hx hb dX10_image_18 rfl (lv_at hl 0 rfl) ?_
  refine getF (v := .ref (qm 3)) hx hb ht hown hK hP iTX10 0 3 rfl rfl (by decide) fl_RX10_31 rfl dX10_image_19 ?_
  refine behDw (wr := (uX10 cs adm qm Fm Am Bm Dm)) (runVD (As := [.ref (qm 3)]) (rest := []) ⟨hx, hb, hml, hown, ht⟩ (sX8_copyFrom l G cs (qm 30) qi0 Fi0 Ai0 Bi0 Di0 hIi0 qj0 Fj0 Aj0 Bj0 Dj0 hIj0 (qm 3) qms Fms Ams Bms Dms hIms qmh Fmh Amh Bmh Dmh hImh ) okV_RX10_341 ⟨by decide, by decide⟩ hK hP hD [13, 14, 15, 16, 17, 18, 19, 20, 21, 22, 3, 4, 5, 6, 7, 8, 9, 10, 11, 12] rfl (by decide) rfl 13 rfl rfl hl.1 rfl (Nat.le_of_ble_eq_true rfl) dX10_image_22 ⟨(Nat.le_of_ble_eq_true rfl), (Nat.le_of_ble_eq_true rfl)⟩) hP hD hS hA [13, 14, 15, 16, 17, 18, 19, 20, 21, 22, 3, 4, 5, 6, 7, 8, 9, 10, 11, 12] [0, 1, 2] rfl rfl (by decide) (by decide) (fun u H locs hu hP hD hS => ?_)
  obtain ⟨x3, x4, x5, x6, x7, x8, x9, x10, g11, g12, g13, g14, g15, g16, g17, g18⟩ := u
  obtain ⟨hbx3, hbx9, hbx10, hg15, hg17, hr19⟩ := hu
  have hbx3 : (0 : Int) ≤ x3.toInt ∧ x3.toInt ≤ 60 := hbx3
  have hbx9 : (0 : Int) ≤ x9.toInt ∧ x9.toInt ≤ 7 := hbx9
  have hbx10 : (0 : Int) ≤ x10.toInt ∧ x10.toInt ≤ 6 := hbx10
  have hg15 : AJ (0) 127 g15 := hg15
  have hg17 : AJ (0) 63 g17 := hg17
  have hP : va_P G vwCl ((uX10 cs adm qm Fm Am Bm Dm) ++ ((uX8 cs (qm 3) qms Fms Ams Bms Dms) ++ ((uX3 cs (qms 0) qmh Fmh Amh Bmh Dmh) ++ ((uX8 cs (qm 30) qi0 (upv 2 x3 Fi0) (vB 1 g11 Ai0) Bi0 Di0) ++ (uX3 cs (qi0 0) qj0 (upv 6 x10 (upv 5 x9 (upv 4 x8 (upv 3 x7 (upv 2 x6 (upv 1 x5 (upv 0 x4 Fj0))))))) (vB 13 g18 (vB 12 g17 (vB 11 g16 (vB 10 g15 (vB 9 g14 (vB 8 g13 (vB 7 g12 Aj0))))))) Bj0 Dj0))))) H := hP.sub [0, 1, 2, 13, 14, 15, 16, 17, 18, 19, 20, 21, 22, 3, 4, 5, 6, 7, 8, 9, 10, 11, 12] rfl
  have hD : va_D A0 ((uX10 cs adm qm Fm Am Bm Dm) ++ ((uX8 cs (qm 3) qms Fms Ams Bms Dms) ++ ((uX3 cs (qms 0) qmh Fmh Amh Bmh Dmh) ++ ((uX8 cs (qm 30) qi0 (upv 2 x3 Fi0) (vB 1 g11 Ai0) Bi0 Di0) ++ (uX3 cs (qi0 0) qj0 (upv 6 x10 (upv 5 x9 (upv 4 x8 (upv 3 x7 (upv 2 x6 (upv 1 x5 (upv 0 x4 Fj0))))))) (vB 13 g18 (vB 12 g17 (vB 11 g16 (vB 10 g15 (vB 9 g14 (vB 8 g13 (vB 7 g12 Aj0))))))) Bj0 Dj0))))) := hD.sub [0, 1, 2, 13, 14, 15, 16, 17, 18, 19, 20, 21, 22, 3, 4, 5, 6, 7, 8, 9, 10, 11, 12] (by decide) rfl
  refine lv_aload_n hx hb dX10_image_25 rfl (lv_at hl 0 rfl) ?_
  refine getF (v := .ref (qm 4)) hx hb ht hown hK hP iTX10 0 4 rfl rfl (by decide) fl_RX10_35 rfl dX10_image_26 ?_
  refine lv_iload_n hx hb dX10_image_29 rfl (lv_at hl 1 rfl) ?_
  refine va_aldq hx hb hK.1 hP 1 4 rfl rfl (show ¬ (_ ∨ _) by decide) dX10_image_30 ?_
  refine W.eq (g2 := F0 m 31 ls [.ref (qm 30)]) rfl ?_
  refine lv_iconst (v := 1) hx hb dX10_image_31 (by decide) ?_
  refine putD hx hb ht hown hK hP hD hS iTX8 tyX8 tyX8_ok nmX8 13 3 rfl rfl (by decide) fl_RX10_344 rfl rfl rfl (Nat.le_of_ble_eq_true rfl) dX10_image_32 (fun H locs hP hD hS => ?_)
  have hP : va_P G vwCl ((uX10 cs adm qm Fm Am Bm Dm) ++ ((uX8 cs (qm 3) qms Fms Ams Bms Dms) ++ ((uX3 cs (qms 0) qmh Fmh Amh Bmh Dmh) ++ ((uX8 cs (qm 30) qi0 (upv 3 (1 : Int32) (upv 2 x3 Fi0)) (vB 1 g11 Ai0) Bi0 Di0) ++ (uX3 cs (qi0 0) qj0 (upv 6 x10 (upv 5 x9 (upv 4 x8 (upv 3 x7 (upv 2 x6 (upv 1 x5 (upv 0 x4 Fj0))))))) (vB 13 g18 (vB 12 g17 (vB 11 g16 (vB 10 g15 (vB 9 g14 (vB 8 g13 (vB 7 g12 Aj0))))))) Bj0 Dj0))))) H := hP
  have hD : va_D A0 ((uX10 cs adm qm Fm Am Bm Dm) ++ ((uX8 cs (qm 3) qms Fms Ams Bms Dms) ++ ((uX3 cs (qms 0) qmh Fmh Amh Bmh Dmh) ++ ((uX8 cs (qm 30) qi0 (upv 3 (1 : Int32) (upv 2 x3 Fi0)) (vB 1 g11 Ai0) Bi0 Di0) ++ (uX3 cs (qi0 0) qj0 (upv 6 x10 (upv 5 x9 (upv 4 x8 (upv 3 x7 (upv 2 x6 (upv 1 x5 (upv 0 x4 Fj0))))))) (vB 13 g18 (vB 12 g17 (vB 11 g16 (vB 10 g15 (vB 9 g14 (vB 8 g13 (vB 7 g12 Aj0))))))) Bj0 Dj0))))) := hD
  refine lv_iconst (v := 0) hx hb dX10_image_35 (by decide) ?_
  exact retDi (x3, (1 : Int32), x4, x5, x6, x7, x8, x9, x10, g11, g12, g13, g14, g15, g16, g17, g18) hx hb hr hlk hP hD hS dX10_image_36 (⟨show (0 : Int) ≤ x3.toInt ∧ x3.toInt ≤ 60 by omega, show (0 : Int) ≤ (1 : Int32).toInt ∧ (1 : Int32).toInt ≤ 1 by decide, show (0 : Int) ≤ x9.toInt ∧ x9.toInt ≤ 7 by omega, show (0 : Int) ≤ x10.toInt ∧ x10.toInt ≤ 6 by omega, hg15, hg17, show (0 : Int32).toInt = 0 ∧ (1 : Int32).toInt = 1 by decide⟩) (Nat.le_of_ble_eq_true rfl) (Nat.le_of_ble_eq_true rfl)

set_option maxRecDepth 100000 in
set_option maxHeartbeats 16000000 in
theorem sX10_back_0 (l : Launch) (G : va_G) (cs : Nat → ClassId) (adm : Nat) (qm : Nat → Nat) (Fm : Nat → Int32) (Am : Nat → Nat → Int32) (Bm : Nat → Nat → Int64) (Dm : Int64) (hIm : IX10 Fm Am) (qms : Nat → Nat) (Fms : Nat → Int32) (Ams : Nat → Nat → Int32) (Bms : Nat → Nat → Int64) (Dms : Int64) (hIms : IX8 Fms Ams) (qmh : Nat → Nat) (Fmh : Nat → Int32) (Amh : Nat → Nat → Int32) (Bmh : Nat → Nat → Int64) (Dmh : Int64) (hImh : IX3 Fmh Amh) (qmn : Nat → Nat) (Fmn : Nat → Int32) (Amn : Nat → Nat → Int32) (Bmn : Nat → Nat → Int64) (Dmn : Int64) (hImn : IX5 Fmn Amn) (qi0 : Nat → Nat) (Fi0 : Nat → Int32) (Ai0 : Nat → Nat → Int32) (Bi0 : Nat → Nat → Int64) (Di0 : Int64) (hIi0 : IX8 Fi0 Ai0) (qj0 : Nat → Nat) (Fj0 : Nat → Int32) (Aj0 : Nat → Nat → Int32) (Bj0 : Nat → Nat → Int64) (Dj0 : Int64) (hIj0 : IX3 Fj0 Aj0) : ∀ sz : Nat, Met l yX10_back (wk yX10_back cX10_back 2 (some .int)) (rmk 5 0 0) (PreD G (TY cs) [.ref adm, .int 0] ((uX10 cs adm qm Fm Am Bm Dm) ++ ((uX8 cs (qm 3) qms Fms Ams Bms Dms) ++ ((uX3 cs (qms 0) qmh Fmh Amh Bmh Dmh) ++ ((uX5 cs (qm 6) qmn Fmn Amn Bmn Dmn) ++ ((uX8 cs (qm 30) qi0 Fi0 Ai0 Bi0 Di0) ++ (uX3 cs (qi0 0) qj0 Fj0 Aj0 Bj0 Dj0)))))) sz) ((QDi G (fun (r : Int32) (u : Int32 × Int32 × Int32 × Int32 × Int32 × Int32 × Int32 × Int32 × Int32 × Int32 × (Nat → Int32) × (Nat → Int32) × (Nat → Int32) × (Nat → Int32) × (Nat → Int32) × (Nat → Int32) × (Nat → Int32) × (Nat → Int32) × (Nat → Int32) × (Nat → Int32)) => ((0 : Int) ≤ u.2.2.2.2.2.1.toInt ∧ u.2.2.2.2.2.1.toInt ≤ 7) ∧ ((0 : Int) ≤ u.2.2.2.2.2.2.1.toInt ∧ u.2.2.2.2.2.2.1.toInt ≤ 6) ∧ ((0 : Int) ≤ u.2.2.2.2.2.2.2.2.2.1.toInt ∧ u.2.2.2.2.2.2.2.2.2.1.toInt ≤ 60) ∧ AJ (0) 127 u.2.2.2.2.2.2.2.2.2.2.2.2.2.1 ∧ AJ (0) 63 u.2.2.2.2.2.2.2.2.2.2.2.2.2.2.2.1 ∧ (((Fi0 3).toInt = 0 ∧ r.toInt = -6) ∨ (¬ (Fi0 3).toInt = 0 ∧ r.toInt = 0))) (fun u : Int32 × Int32 × Int32 × Int32 × Int32 × Int32 × Int32 × Int32 × Int32 × Int32 × (Nat → Int32) × (Nat → Int32) × (Nat → Int32) × (Nat → Int32) × (Nat → Int32) × (Nat → Int32) × (Nat → Int32) × (Nat → Int32) × (Nat → Int32) × (Nat → Int32) => ((uX10 cs adm qm Fm Am Bm Dm) ++ ((wX8 cs (qm 3) qms (upd Fms 2 u.2.2.2.2.2.2.2.2.2.1) (vA Ams 1 u.2.2.2.2.2.2.2.2.2.2.2.2.2.2.2.2.2.2.2) Bms Dms) ++ ((wX3 cs (qms 0) qmh (upd (upd (upd (upd (upd (upd (upd Fmh 0 u.1) 1 u.2.1) 2 u.2.2.1) 3 u.2.2.2.1) 4 u.2.2.2.2.1) 5 u.2.2.2.2.2.1) 6 u.2.2.2.2.2.2.1) (vA (vA (vA (vA (vA (vA (vA Amh 7 u.2.2.2.2.2.2.2.2.2.2.1) 8 u.2.2.2.2.2.2.2.2.2.2.2.1) 9 u.2.2.2.2.2.2.2.2.2.2.2.2.1) 10 u.2.2.2.2.2.2.2.2.2.2.2.2.2.1) 11 u.2.2.2.2.2.2.2.2.2.2.2.2.2.2.1) 12 u.2.2.2.2.2.2.2.2.2.2.2.2.2.2.2.1) 13 u.2.2.2.2.2.2.2.2.2.2.2.2.2.2.2.2.1) Bmh Dmh) ++ ((wX5 cs (qm 6) qmn (upd (upd Fmn 2 u.2.2.2.2.2.2.2.1) 3 u.2.2.2.2.2.2.2.2.1) (vA (vA Amn 0 u.2.2.2.2.2.2.2.2.2.2.2.2.2.2.2.2.2.1) 1 u.2.2.2.2.2.2.2.2.2.2.2.2.2.2.2.2.2.2.1) Bmn Dmn) ++ ((uX8 cs (qm 30) qi0 Fi0 Ai0 Bi0 Di0) ++ (uX3 cs (qi0 0) qj0 Fj0 Aj0 Bj0 Dj0)))))))) (va_A ((uX10 cs adm qm Fm Am Bm Dm) ++ ((uX8 cs (qm 3) qms Fms Ams Bms Dms) ++ ((uX3 cs (qms 0) qmh Fmh Amh Bmh Dmh) ++ ((uX5 cs (qm 6) qmn Fmn Amn Bmn Dmn) ++ ((uX8 cs (qm 30) qi0 Fi0 Ai0 Bi0 Di0) ++ (uX3 cs (qi0 0) qj0 Fj0 Aj0 Bj0 Dj0)))))) sz)) 0 0 (va_A ((uX10 cs adm qm Fm Am Bm Dm) ++ ((uX8 cs (qm 3) qms Fms Ams Bms Dms) ++ ((uX3 cs (qms 0) qmh Fmh Amh Bmh Dmh) ++ ((uX5 cs (qm 6) qmn Fmn Amn Bmn Dmn) ++ ((uX8 cs (qm 30) qi0 Fi0 Ai0 Bi0 Di0) ++ (uX3 cs (qi0 0) qj0 Fj0 Aj0 Bj0 Dj0)))))) sz) := by
  refine mkD (Qc := (QDi G (fun (r : Int32) (u : Int32 × Int32 × Int32 × Int32 × Int32 × Int32 × Int32 × Int32 × Int32 × Int32 × (Nat → Int32) × (Nat → Int32) × (Nat → Int32) × (Nat → Int32) × (Nat → Int32) × (Nat → Int32) × (Nat → Int32) × (Nat → Int32) × (Nat → Int32) × (Nat → Int32)) => ((0 : Int) ≤ u.2.2.2.2.2.1.toInt ∧ u.2.2.2.2.2.1.toInt ≤ 7) ∧ ((0 : Int) ≤ u.2.2.2.2.2.2.1.toInt ∧ u.2.2.2.2.2.2.1.toInt ≤ 6) ∧ ((0 : Int) ≤ u.2.2.2.2.2.2.2.2.2.1.toInt ∧ u.2.2.2.2.2.2.2.2.2.1.toInt ≤ 60) ∧ AJ (0) 127 u.2.2.2.2.2.2.2.2.2.2.2.2.2.1 ∧ AJ (0) 63 u.2.2.2.2.2.2.2.2.2.2.2.2.2.2.2.1 ∧ (((Fi0 3).toInt = 0 ∧ r.toInt = -6) ∨ (¬ (Fi0 3).toInt = 0 ∧ r.toInt = 0))) (fun u : Int32 × Int32 × Int32 × Int32 × Int32 × Int32 × Int32 × Int32 × Int32 × Int32 × (Nat → Int32) × (Nat → Int32) × (Nat → Int32) × (Nat → Int32) × (Nat → Int32) × (Nat → Int32) × (Nat → Int32) × (Nat → Int32) × (Nat → Int32) × (Nat → Int32) => ((uX10 cs adm qm Fm Am Bm Dm) ++ ((wX8 cs (qm 3) qms (upd Fms 2 u.2.2.2.2.2.2.2.2.2.1) (vA Ams 1 u.2.2.2.2.2.2.2.2.2.2.2.2.2.2.2.2.2.2.2) Bms Dms) ++ ((wX3 cs (qms 0) qmh (upd (upd (upd (upd (upd (upd (upd Fmh 0 u.1) 1 u.2.1) 2 u.2.2.1) 3 u.2.2.2.1) 4 u.2.2.2.2.1) 5 u.2.2.2.2.2.1) 6 u.2.2.2.2.2.2.1) (vA (vA (vA (vA (vA (vA (vA Amh 7 u.2.2.2.2.2.2.2.2.2.2.1) 8 u.2.2.2.2.2.2.2.2.2.2.2.1) 9 u.2.2.2.2.2.2.2.2.2.2.2.2.1) 10 u.2.2.2.2.2.2.2.2.2.2.2.2.2.1) 11 u.2.2.2.2.2.2.2.2.2.2.2.2.2.2.1) 12 u.2.2.2.2.2.2.2.2.2.2.2.2.2.2.2.1) 13 u.2.2.2.2.2.2.2.2.2.2.2.2.2.2.2.2.1) Bmh Dmh) ++ ((wX5 cs (qm 6) qmn (upd (upd Fmn 2 u.2.2.2.2.2.2.2.1) 3 u.2.2.2.2.2.2.2.2.1) (vA (vA Amn 0 u.2.2.2.2.2.2.2.2.2.2.2.2.2.2.2.2.2.1) 1 u.2.2.2.2.2.2.2.2.2.2.2.2.2.2.2.2.2.2.1) Bmn Dmn) ++ ((uX8 cs (qm 30) qi0 Fi0 Ai0 Bi0 Di0) ++ (uX3 cs (qi0 0) qj0 Fj0 Aj0 Bj0 Dj0))))))))) (by decide) (by simp [lg_sl, Value.category]) ?_
  intro p e s m args below meth c ls A0 hx hb hml hr hlk hown hmn ht hK hP hD hS hA hl
  have hl : lv_has ls 2 [(0, .ref adm), (1, .int 0)] := hl
  refine lv_iload_n hx hb dX10_back_0 rfl (lv_at hl 1 rfl) ?_
  refine lv_if_lt (tgt := 9) hx hb dX10_back_1 (by decide) (fun c1 => False.elim (by revert c1; decide)) (fun c1 => ?_)
  refine lv_iload_n hx hb dX10_back_4 rfl (lv_at hl 1 rfl) ?_
  refine lv_iconst (v := 3) hx hb dX10_back_5 (by decide) ?_
  refine lv_icmp_lt (tgt := 12) hx hb dX10_back_6 (by decide) (fun c2 => ?_) (fun c2 => False.elim (by revert c2; decide))
  refine lv_aload_n hx hb dX10_back_12 rfl (lv_at hl 0 rfl) ?_
  refine getF (v := .ref (qm 4)) hx hb ht hown hK hP iTX10 0 4 rfl rfl (by decide) fl_RX10_35 rfl dX10_back_13 ?_
  refine lv_iload_n hx hb dX10_back_16 rfl (lv_at hl 1 rfl) ?_
  refine va_aldq hx hb hK.1 hP 1 4 rfl rfl (show ¬ (_ ∨ _) by decide) dX10_back_17 ?_
  refine W.eq (g2 := F0 m 18 ls [.ref (qm 30)]) rfl ?_
  refine getF (v := .int (Fi0 3)) hx hb ht hown hK hP iTX8 16 3 rfl rfl (by decide) fl_RX10_344 rfl dX10_back_18 ?_
  have zf3 : (0 : Int) ≤ (Fi0 3).toInt ∧ (Fi0 3).toInt ≤ 1 := hIi0.1 3
  refine lv_if_ne (tgt := 27) hx hb dX10_back_21 (by decide) (fun c4 => ?_) (fun c4 => ?_)
  · have zc4 := neK rfl (show (0 : Int32).toInt = 0 by decide) c4
    refine lv_aload_n hx hb dX10_back_27 rfl (lv_at hl 0 rfl) ?_
    refine getF (v := .ref (qm 3)) hx hb ht hown hK hP iTX10 0 3 rfl rfl (by decide) fl_RX10_31 rfl dX10_back_28 ?_
    refine lv_aload_n hx hb dX10_back_31 rfl (lv_at hl 0 rfl) ?_
    refine getF (v := .ref (qm 4)) hx hb ht hown hK hP iTX10 0 4 rfl rfl (by decide) fl_RX10_35 rfl dX10_back_32 ?_
    refine lv_iload_n hx hb dX10_back_35 rfl (lv_at hl 1 rfl) ?_
    refine va_aldq hx hb hK.1 hP 1 4 rfl rfl (show ¬ (_ ∨ _) by decide) dX10_back_36 ?_
    refine W.eq (g2 := F0 m 37 ls [.ref (qm 30), .ref (qm 3)]) rfl ?_
    refine behDw (wr := ((uX10 cs adm qm Fm Am Bm Dm) ++ (uX5 cs (qm 6) qmn Fmn Amn Bmn Dmn))) (runVD (As := [.ref (qm 30)]) (rest := []) ⟨hx, hb, hml, hown, ht⟩ (sX8_copyFrom l G cs (qm 3) qms Fms Ams Bms Dms hIms qmh Fmh Amh Bmh Dmh hImh (qm 30) qi0 Fi0 Ai0 Bi0 Di0 hIi0 qj0 Fj0 Aj0 Bj0 Dj0 hIj0 ) okV_RX10_341 ⟨by decide, by decide⟩ hK hP hD [3, 4, 5, 6, 7, 8, 9, 10, 11, 12, 16, 17, 18, 19, 20, 21, 22, 23, 24, 25] rfl (by decide) rfl 3 rfl rfl hl.1 rfl (Nat.le_of_ble_eq_true rfl) dX10_back_37 ⟨(Nat.le_of_ble_eq_true rfl), (Nat.le_of_ble_eq_true rfl)⟩) hP hD hS hA [3, 4, 5, 6, 7, 8, 9, 10, 11, 12, 16, 17, 18, 19, 20, 21, 22, 23, 24, 25] [0, 1, 2, 13, 14, 15] rfl rfl (by decide) (by decide) (fun u H locs hu hP hD hS => ?_)
    obtain ⟨x5, x6, x7, x8, x9, x10, x11, x12, g13, g14, g15, g16, g17, g18, g19, g20⟩ := u
    obtain ⟨hbx5, hbx11, hbx12, hg17, hg19, hr21⟩ := hu
    have hbx5 : (0 : Int) ≤ x5.toInt ∧ x5.toInt ≤ 60 := hbx5
    have hbx11 : (0 : Int) ≤ x11.toInt ∧ x11.toInt ≤ 7 := hbx11
    have hbx12 : (0 : Int) ≤ x12.toInt ∧ x12.toInt ≤ 6 := hbx12
    have hg17 : AJ (0) 127 g17 := hg17
    have hg19 : AJ (0) 63 g19 := hg19
    have hP : va_P G vwCl ((uX10 cs adm qm Fm Am Bm Dm) ++ ((uX8 cs (qm 3) qms (upv 2 x5 Fms) (vB 1 g13 Ams) Bms Dms) ++ ((uX3 cs (qms 0) qmh (upv 6 x12 (upv 5 x11 (upv 4 x10 (upv 3 x9 (upv 2 x8 (upv 1 x7 (upv 0 x6 Fmh))))))) (vB 13 g20 (vB 12 g19 (vB 11 g18 (vB 10 g17 (vB 9 g16 (vB 8 g15 (vB 7 g14 Amh))))))) Bmh Dmh) ++ ((uX5 cs (qm 6) qmn Fmn Amn Bmn Dmn) ++ ((uX8 cs (qm 30) qi0 Fi0 Ai0 Bi0 Di0) ++ (uX3 cs (qi0 0) qj0 Fj0 Aj0 Bj0 Dj0)))))) H := hP.sub [0, 1, 2, 6, 7, 8, 9, 10, 11, 12, 13, 14, 15, 3, 4, 5, 16, 17, 18, 19, 20, 21, 22, 23, 24, 25] rfl
    have hD : va_D A0 ((uX10 cs adm qm Fm Am Bm Dm) ++ ((uX8 cs (qm 3) qms (upv 2 x5 Fms) (vB 1 g13 Ams) Bms Dms) ++ ((uX3 cs (qms 0) qmh (upv 6 x12 (upv 5 x11 (upv 4 x10 (upv 3 x9 (upv 2 x8 (upv 1 x7 (upv 0 x6 Fmh))))))) (vB 13 g20 (vB 12 g19 (vB 11 g18 (vB 10 g17 (vB 9 g16 (vB 8 g15 (vB 7 g14 Amh))))))) Bmh Dmh) ++ ((uX5 cs (qm 6) qmn Fmn Amn Bmn Dmn) ++ ((uX8 cs (qm 30) qi0 Fi0 Ai0 Bi0 Di0) ++ (uX3 cs (qi0 0) qj0 Fj0 Aj0 Bj0 Dj0)))))) := hD.sub [0, 1, 2, 6, 7, 8, 9, 10, 11, 12, 13, 14, 15, 3, 4, 5, 16, 17, 18, 19, 20, 21, 22, 23, 24, 25] (by decide) rfl
    refine lv_aload_n hx hb dX10_back_40 rfl (lv_at hl 0 rfl) ?_
    refine behDw (wr := ((uX8 cs (qm 30) qi0 Fi0 Ai0 Bi0 Di0) ++ (uX3 cs (qi0 0) qj0 Fj0 Aj0 Bj0 Dj0))) (runVD (As := []) (rest := []) ⟨hx, hb, hml, hown, ht⟩ (sX10_replay l G cs adm qm Fm Am Bm Dm hIm qms (upv 2 x5 Fms) (vB 1 g13 Ams) Bms Dms (IB_av (k := 1) (IB_pv (k := 2) hIms (show (0 : Int) ≤ x5.toInt ∧ x5.toInt ≤ 60 by omega)) (AJ_full _)) qmh (upv 6 x12 (upv 5 x11 (upv 4 x10 (upv 3 x9 (upv 2 x8 (upv 1 x7 (upv 0 x6 Fmh))))))) (vB 13 g20 (vB 12 g19 (vB 11 g18 (vB 10 g17 (vB 9 g16 (vB 8 g15 (vB 7 g14 Amh))))))) Bmh Dmh (IB_av (k := 13) (IB_av (k := 12) (IB_av (k := 11) (IB_av (k := 10) (IB_av (k := 9) (IB_av (k := 8) (IB_av (k := 7) (IB_pv (k := 6) (IB_pv (k := 5) (IB_pv (k := 4) (IB_pv (k := 3) (IB_pv (k := 2) (IB_pv (k := 1) (IB_pv (k := 0) hImh (i32b _)) (i32b _)) (i32b _)) (i32b _)) (i32b _)) (show (0 : Int) ≤ x11.toInt ∧ x11.toInt ≤ 7 by omega)) (show (0 : Int) ≤ x12.toInt ∧ x12.toInt ≤ 6 by omega)) (AJ_full _)) (AJ_full _)) (AJ_full _)) hg17) (AJ_full _)) hg19) (AJ_full _)) qmn Fmn Amn Bmn Dmn hImn ) okV_RX10_108 ⟨by decide, by decide⟩ hK hP hD [0, 1, 2, 3, 4, 5, 6, 7, 8, 9, 10, 11, 12, 13, 14, 15] rfl (by decide) rfl 0 rfl rfl hl.1 rfl (Nat.le_of_ble_eq_true rfl) dX10_back_41 ⟨(Nat.le_of_ble_eq_true rfl), (Nat.le_of_ble_eq_true rfl)⟩) hP hD hS hA [0, 1, 2, 3, 4, 5, 6, 7, 8, 9, 10, 11, 12, 13, 14, 15] [16, 17, 18, 19, 20, 21, 22, 23, 24, 25] rfl rfl (by decide) (by decide) (fun u H locs hu hP hD hS => ?_)
    obtain ⟨x22, x23, g24, g25⟩ := u
    have hr26 := hu
    have hP : va_P G vwCl ((uX10 cs adm qm Fm Am Bm Dm) ++ ((uX8 cs (qm 3) qms (upv 2 x5 Fms) (vB 1 g13 Ams) Bms Dms) ++ ((uX3 cs (qms 0) qmh (upv 6 x12 (upv 5 x11 (upv 4 x10 (upv 3 x9 (upv 2 x8 (upv 1 x7 (upv 0 x6 Fmh))))))) (vB 13 g20 (vB 12 g19 (vB 11 g18 (vB 10 g17 (vB 9 g16 (vB 8 g15 (vB 7 g14 Amh))))))) Bmh Dmh) ++ ((uX5 cs (qm 6) qmn (upv 3 x23 (upv 2 x22 Fmn)) (vB 1 g25 (vB 0 g24 Amn)) Bmn Dmn) ++ ((uX8 cs (qm 30) qi0 Fi0 Ai0 Bi0 Di0) ++ (uX3 cs (qi0 0) qj0 Fj0 Aj0 Bj0 Dj0)))))) H := hP.sub [10, 11, 12, 13, 14, 15, 16, 17, 18, 19, 20, 21, 22, 23, 24, 25, 0, 1, 2, 3, 4, 5, 6, 7, 8, 9] rfl
    have hD : va_D A0 ((uX10 cs adm qm Fm Am Bm Dm) ++ ((uX8 cs (qm 3) qms (upv 2 x5 Fms) (vB 1 g13 Ams) Bms Dms) ++ ((uX3 cs (qms 0) qmh (upv 6 x12 (upv 5 x11 (upv 4 x10 (upv 3 x9 (upv 2 x8 (upv 1 x7 (upv 0 x6 Fmh))))))) (vB 13 g20 (vB 12 g19 (vB 11 g18 (vB 10 g17 (vB 9 g16 (vB 8 g15 (vB 7 g14 Amh))))))) Bmh Dmh) ++ ((uX5 cs (qm 6) qmn (upv 3 x23 (upv 2 x22 Fmn)) (vB 1 g25 (vB 0 g24 Amn)) Bmn Dmn) ++ ((uX8 cs (qm 30) qi0 Fi0 Ai0 Bi0 Di0) ++ (uX3 cs (qi0 0) qj0 Fj0 Aj0 Bj0 Dj0)))))) := hD.sub [10, 11, 12, 13, 14, 15, 16, 17, 18, 19, 20, 21, 22, 23, 24, 25, 0, 1, 2, 3, 4, 5, 6, 7, 8, 9] (by decide) rfl
    refine lv_iconst (v := 0) hx hb dX10_back_44 (by decide) ?_
    exact retDi (x6, x7, x8, x9, x10, x11, x12, x22, x23, x5, g14, g15, g16, g17, g18, g19, g20, g24, g25, g13) hx hb hr hlk hP hD hS dX10_back_45 (⟨show (0 : Int) ≤ x11.toInt ∧ x11.toInt ≤ 7 by omega, show (0 : Int) ≤ x12.toInt ∧ x12.toInt ≤ 6 by omega, show (0 : Int) ≤ x5.toInt ∧ x5.toInt ≤ 60 by omega, hg17, hg19, show ((Fi0 3).toInt = 0 ∧ (0 : Int32).toInt = -6) ∨ (¬ (Fi0 3).toInt = 0 ∧ (0 : Int32).toInt = 0) by have kk : (0 : Int32).toInt = 0 := (by decide); omega⟩) (Nat.le_of_ble_eq_true rfl) (Nat.le_of_ble_eq_true rfl)
  · have zc4 := eqK rfl (show (0 : Int32).toInt = 0 by decide) c4
    refine lv_bipush (v := (-6)) hx hb dX10_back_24 (by decide) ?_
    exact retDi ((Fmh 0), (Fmh 1), (Fmh 2), (Fmh 3), (Fmh 4), (Fmh 5), (Fmh 6), (Fmn 2), (Fmn 3), (Fms 2), (Amh 7), (Amh 8), (Amh 9), (Amh 10), (Amh 11), (Amh 12), (Amh 13), (Amn 0), (Amn 1), (Ams 1)) hx hb hr hlk hP hD hS dX10_back_26 (⟨hImh.1 5, hImh.1 6, hIms.1 2, fun j => hImh.2 10 j, fun j => hImh.2 12 j, show ((Fi0 3).toInt = 0 ∧ (-6 : Int32).toInt = -6) ∨ (¬ (Fi0 3).toInt = 0 ∧ (-6 : Int32).toInt = 0) by have kk : (-6 : Int32).toInt = -6 := (by decide); omega⟩) (Nat.le_of_ble_eq_true rfl) (Nat.le_of_ble_eq_true rfl)

set_option maxRecDepth 100000 in
set_option maxHeartbeats 16000000 in
theorem sX10_image_1 (l : Launch) (G : va_G) (cs : Nat → ClassId) (adm : Nat) (qm : Nat → Nat) (Fm : Nat → Int32) (Am : Nat → Nat → Int32) (Bm : Nat → Nat → Int64) (Dm : Int64) (hIm : IX10 Fm Am) (qms : Nat → Nat) (Fms : Nat → Int32) (Ams : Nat → Nat → Int32) (Bms : Nat → Nat → Int64) (Dms : Int64) (hIms : IX8 Fms Ams) (qmh : Nat → Nat) (Fmh : Nat → Int32) (Amh : Nat → Nat → Int32) (Bmh : Nat → Nat → Int64) (Dmh : Int64) (hImh : IX3 Fmh Amh) (qi1 : Nat → Nat) (Fi1 : Nat → Int32) (Ai1 : Nat → Nat → Int32) (Bi1 : Nat → Nat → Int64) (Di1 : Int64) (hIi1 : IX8 Fi1 Ai1) (qj1 : Nat → Nat) (Fj1 : Nat → Int32) (Aj1 : Nat → Nat → Int32) (Bj1 : Nat → Nat → Int64) (Dj1 : Int64) (hIj1 : IX3 Fj1 Aj1) : ∀ sz : Nat, Met l yX10_image (wk yX10_image cX10_image 2 (some .int)) (rmk 3 0 0) (PreD G (TY cs) [.ref adm, .int 1] ((uX10 cs adm qm Fm Am Bm Dm) ++ ((uX8 cs (qm 3) qms Fms Ams Bms Dms) ++ ((uX3 cs (qms 0) qmh Fmh Amh Bmh Dmh) ++ ((uX8 cs (qm 31) qi1 Fi1 Ai1 Bi1 Di1) ++ (uX3 cs (qi1 0) qj1 Fj1 Aj1 Bj1 Dj1))))) sz) ((QDi G (fun (r : Int32) (u : Int32 × Int32 × Int32 × Int32 × Int32 × Int32 × Int32 × Int32 × Int32 × (Nat → Int32) × (Nat → Int32) × (Nat → Int32) × (Nat → Int32) × (Nat → Int32) × (Nat → Int32) × (Nat → Int32) × (Nat → Int32)) => ((0 : Int) ≤ u.1.toInt ∧ u.1.toInt ≤ 60) ∧ ((0 : Int) ≤ u.2.1.toInt ∧ u.2.1.toInt ≤ 1) ∧ ((0 : Int) ≤ u.2.2.2.2.2.2.2.1.toInt ∧ u.2.2.2.2.2.2.2.1.toInt ≤ 7) ∧ ((0 : Int) ≤ u.2.2.2.2.2.2.2.2.1.toInt ∧ u.2.2.2.2.2.2.2.2.1.toInt ≤ 6) ∧ AJ (0) 127 u.2.2.2.2.2.2.2.2.2.2.2.2.2.1 ∧ AJ (0) 63 u.2.2.2.2.2.2.2.2.2.2.2.2.2.2.2.1 ∧ (r.toInt = 0 ∧ u.2.1.toInt = 1)) (fun u : Int32 × Int32 × Int32 × Int32 × Int32 × Int32 × Int32 × Int32 × Int32 × (Nat → Int32) × (Nat → Int32) × (Nat → Int32) × (Nat → Int32) × (Nat → Int32) × (Nat → Int32) × (Nat → Int32) × (Nat → Int32) => ((uX10 cs adm qm Fm Am Bm Dm) ++ ((uX8 cs (qm 3) qms Fms Ams Bms Dms) ++ ((uX3 cs (qms 0) qmh Fmh Amh Bmh Dmh) ++ ((wX8 cs (qm 31) qi1 (upd (upd Fi1 2 u.1) 3 u.2.1) (vA Ai1 1 u.2.2.2.2.2.2.2.2.2.1) Bi1 Di1) ++ (wX3 cs (qi1 0) qj1 (upd (upd (upd (upd (upd (upd (upd Fj1 0 u.2.2.1) 1 u.2.2.2.1) 2 u.2.2.2.2.1) 3 u.2.2.2.2.2.1) 4 u.2.2.2.2.2.2.1) 5 u.2.2.2.2.2.2.2.1) 6 u.2.2.2.2.2.2.2.2.1) (vA (vA (vA (vA (vA (vA (vA Aj1 7 u.2.2.2.2.2.2.2.2.2.2.1) 8 u.2.2.2.2.2.2.2.2.2.2.2.1) 9 u.2.2.2.2.2.2.2.2.2.2.2.2.1) 10 u.2.2.2.2.2.2.2.2.2.2.2.2.2.1) 11 u.2.2.2.2.2.2.2.2.2.2.2.2.2.2.1) 12 u.2.2.2.2.2.2.2.2.2.2.2.2.2.2.2.1) 13 u.2.2.2.2.2.2.2.2.2.2.2.2.2.2.2.2) Bj1 Dj1))))))) (va_A ((uX10 cs adm qm Fm Am Bm Dm) ++ ((uX8 cs (qm 3) qms Fms Ams Bms Dms) ++ ((uX3 cs (qms 0) qmh Fmh Amh Bmh Dmh) ++ ((uX8 cs (qm 31) qi1 Fi1 Ai1 Bi1 Di1) ++ (uX3 cs (qi1 0) qj1 Fj1 Aj1 Bj1 Dj1))))) sz)) 0 0 (va_A ((uX10 cs adm qm Fm Am Bm Dm) ++ ((uX8 cs (qm 3) qms Fms Ams Bms Dms) ++ ((uX3 cs (qms 0) qmh Fmh Amh Bmh Dmh) ++ ((uX8 cs (qm 31) qi1 Fi1 Ai1 Bi1 Di1) ++ (uX3 cs (qi1 0) qj1 Fj1 Aj1 Bj1 Dj1))))) sz) := by
  refine mkD (Qc := (QDi G (fun (r : Int32) (u : Int32 × Int32 × Int32 × Int32 × Int32 × Int32 × Int32 × Int32 × Int32 × (Nat → Int32) × (Nat → Int32) × (Nat → Int32) × (Nat → Int32) × (Nat → Int32) × (Nat → Int32) × (Nat → Int32) × (Nat → Int32)) => ((0 : Int) ≤ u.1.toInt ∧ u.1.toInt ≤ 60) ∧ ((0 : Int) ≤ u.2.1.toInt ∧ u.2.1.toInt ≤ 1) ∧ ((0 : Int) ≤ u.2.2.2.2.2.2.2.1.toInt ∧ u.2.2.2.2.2.2.2.1.toInt ≤ 7) ∧ ((0 : Int) ≤ u.2.2.2.2.2.2.2.2.1.toInt ∧ u.2.2.2.2.2.2.2.2.1.toInt ≤ 6) ∧ AJ (0) 127 u.2.2.2.2.2.2.2.2.2.2.2.2.2.1 ∧ AJ (0) 63 u.2.2.2.2.2.2.2.2.2.2.2.2.2.2.2.1 ∧ (r.toInt = 0 ∧ u.2.1.toInt = 1)) (fun u : Int32 × Int32 × Int32 × Int32 × Int32 × Int32 × Int32 × Int32 × Int32 × (Nat → Int32) × (Nat → Int32) × (Nat → Int32) × (Nat → Int32) × (Nat → Int32) × (Nat → Int32) × (Nat → Int32) × (Nat → Int32) => ((uX10 cs adm qm Fm Am Bm Dm) ++ ((uX8 cs (qm 3) qms Fms Ams Bms Dms) ++ ((uX3 cs (qms 0) qmh Fmh Amh Bmh Dmh) ++ ((wX8 cs (qm 31) qi1 (upd (upd Fi1 2 u.1) 3 u.2.1) (vA Ai1 1 u.2.2.2.2.2.2.2.2.2.1) Bi1 Di1) ++ (wX3 cs (qi1 0) qj1 (upd (upd (upd (upd (upd (upd (upd Fj1 0 u.2.2.1) 1 u.2.2.2.1) 2 u.2.2.2.2.1) 3 u.2.2.2.2.2.1) 4 u.2.2.2.2.2.2.1) 5 u.2.2.2.2.2.2.2.1) 6 u.2.2.2.2.2.2.2.2.1) (vA (vA (vA (vA (vA (vA (vA Aj1 7 u.2.2.2.2.2.2.2.2.2.2.1) 8 u.2.2.2.2.2.2.2.2.2.2.2.1) 9 u.2.2.2.2.2.2.2.2.2.2.2.2.1) 10 u.2.2.2.2.2.2.2.2.2.2.2.2.2.1) 11 u.2.2.2.2.2.2.2.2.2.2.2.2.2.2.1) 12 u.2.2.2.2.2.2.2.2.2.2.2.2.2.2.2.1) 13 u.2.2.2.2.2.2.2.2.2.2.2.2.2.2.2.2) Bj1 Dj1)))))))) (by decide) (by simp [lg_sl, Value.category]) ?_
  intro p e s m args below meth c ls A0 hx hb hml hr hlk hown hmn ht hK hP hD hS hA hl
  have hl : lv_has ls 2 [(0, .ref adm), (1, .int 1)] := hl
  refine lv_iload_n hx hb dX10_image_0 rfl (lv_at hl 1 rfl) ?_
  refine lv_if_lt (tgt := 9) hx hb dX10_image_1 (by decide) (fun c1 => False.elim (by revert c1; decide)) (fun c1 => ?_)
  refine lv_iload_n hx hb dX10_image_4 rfl (lv_at hl 1 rfl) ?_
  refine lv_iconst (v := 3) hx hb dX10_image_5 (by decide) ?_
  refine lv_icmp_lt (tgt := 12) hx hb dX10_image_6 (by decide) (fun c2 => ?_) (fun c2 => False.elim (by revert c2; decide))
  refine lv_aload_n hx hb dX10_image_12 rfl (lv_at hl 0 rfl) ?_
  refine getF (v := .ref (qm 4)) hx hb ht hown hK hP iTX10 0 4 rfl rfl (by decide) fl_RX10_35 rfl dX10_image_13 ?_
  refine lv_iload_n hx hb dX10_image_16 rfl (lv_at hl 1 rfl) ?_
  refine va_aldq hx hb hK.1 hP 1 4 rfl rfl (show ¬ (_ ∨ _) by decide) dX10_image_17 ?_
  refine W.eq (g2 := F0 m 18 ls [.ref (qm 31)]) rfl ?_
  refine lv_aload_n hx hb dX10_image_18 rfl (lv_at hl 0 rfl) ?_
  refine getF (v := .ref (qm 3)) hx hb ht hown hK hP iTX10 0 3 rfl rfl (by decide) fl_RX10_31 rfl dX10_image_19 ?_
  refine behDw (wr := (uX10 cs adm qm Fm Am Bm Dm)) (runVD (As := [.ref (qm 3)]) (rest := []) ⟨hx, hb, hml, hown, ht⟩ (sX8_copyFrom l G cs (qm 31) qi1 Fi1 Ai1 Bi1 Di1 hIi1 qj1 Fj1 Aj1 Bj1 Dj1 hIj1 (qm 3) qms Fms Ams Bms Dms hIms qmh Fmh Amh Bmh Dmh hImh ) okV_RX10_341 ⟨by decide, by decide⟩ hK hP hD [13, 14, 15, 16, 17, 18, 19, 20, 21, 22, 3, 4, 5, 6, 7, 8, 9, 10, 11, 12] rfl (by decide) rfl 13 rfl rfl hl.1 rfl (Nat.le_of_ble_eq_true rfl) dX10_image_22 ⟨(Nat.le_of_ble_eq_true rfl), (Nat.le_of_ble_eq_true rfl)⟩) hP hD hS hA [13, 14, 15, 16, 17, 18, 19, 20, 21, 22, 3, 4, 5, 6, 7, 8, 9, 10, 11, 12] [0, 1, 2] rfl rfl (by decide) (by decide) (fun u H locs hu hP hD hS => ?_)
  obtain ⟨x3, x4, x5, x6, x7, x8, x9, x10, g11, g12, g13, g14, g15, g16, g17, g18⟩ := u
  obtain ⟨hbx3, hbx9, hbx10, hg15, hg17, hr19⟩ := hu
  have hbx3 : (0 : Int) ≤ x3.toInt ∧ x3.toInt ≤ 60 := hbx3
  have hbx9 : (0 : Int) ≤ x9.toInt ∧ x9.toInt ≤ 7 := hbx9
  have hbx10 : (0 : Int) ≤ x10.toInt ∧ x10.toInt ≤ 6 := hbx10
  have hg15 : AJ (0) 127 g15 := hg15
  have hg17 : AJ (0) 63 g17 := hg17
  have hP : va_P G vwCl ((uX10 cs adm qm Fm Am Bm Dm) ++ ((uX8 cs (qm 3) qms Fms Ams Bms Dms) ++ ((uX3 cs (qms 0) qmh Fmh Amh Bmh Dmh) ++ ((uX8 cs (qm 31) qi1 (upv 2 x3 Fi1) (vB 1 g11 Ai1) Bi1 Di1) ++ (uX3 cs (qi1 0) qj1 (upv 6 x10 (upv 5 x9 (upv 4 x8 (upv 3 x7 (upv 2 x6 (upv 1 x5 (upv 0 x4 Fj1))))))) (vB 13 g18 (vB 12 g17 (vB 11 g16 (vB 10 g15 (vB 9 g14 (vB 8 g13 (vB 7 g12 Aj1))))))) Bj1 Dj1))))) H := hP.sub [0, 1, 2, 13, 14, 15, 16, 17, 18, 19, 20, 21, 22, 3, 4, 5, 6, 7, 8, 9, 10, 11, 12] rfl
  have hD : va_D A0 ((uX10 cs adm qm Fm Am Bm Dm) ++ ((uX8 cs (qm 3) qms Fms Ams Bms Dms) ++ ((uX3 cs (qms 0) qmh Fmh Amh Bmh Dmh) ++ ((uX8 cs (qm 31) qi1 (upv 2 x3 Fi1) (vB 1 g11 Ai1) Bi1 Di1) ++ (uX3 cs (qi1 0) qj1 (upv 6 x10 (upv 5 x9 (upv 4 x8 (upv 3 x7 (upv 2 x6 (upv 1 x5 (upv 0 x4 Fj1))))))) (vB 13 g18 (vB 12 g17 (vB 11 g16 (vB 10 g15 (vB 9 g14 (vB 8 g13 (vB 7 g12 Aj1))))))) Bj1 Dj1))))) := hD.sub [0, 1, 2, 13, 14, 15, 16, 17, 18, 19, 20, 21, 22, 3, 4, 5, 6, 7, 8, 9, 10, 11, 12] (by decide) rfl
  refine lv_aload_n hx hb dX10_image_25 rfl (lv_at hl 0 rfl) ?_
  refine getF (v := .ref (qm 4)) hx hb ht hown hK hP iTX10 0 4 rfl rfl (by decide) fl_RX10_35 rfl dX10_image_26 ?_
  refine lv_iload_n hx hb dX10_image_29 rfl (lv_at hl 1 rfl) ?_
  refine va_aldq hx hb hK.1 hP 1 4 rfl rfl (show ¬ (_ ∨ _) by decide) dX10_image_30 ?_
  refine W.eq (g2 := F0 m 31 ls [.ref (qm 31)]) rfl ?_
  refine lv_iconst (v := 1) hx hb dX10_image_31 (by decide) ?_
  refine putD hx hb ht hown hK hP hD hS iTX8 tyX8 tyX8_ok nmX8 13 3 rfl rfl (by decide) fl_RX10_344 rfl rfl rfl (Nat.le_of_ble_eq_true rfl) dX10_image_32 (fun H locs hP hD hS => ?_)
  have hP : va_P G vwCl ((uX10 cs adm qm Fm Am Bm Dm) ++ ((uX8 cs (qm 3) qms Fms Ams Bms Dms) ++ ((uX3 cs (qms 0) qmh Fmh Amh Bmh Dmh) ++ ((uX8 cs (qm 31) qi1 (upv 3 (1 : Int32) (upv 2 x3 Fi1)) (vB 1 g11 Ai1) Bi1 Di1) ++ (uX3 cs (qi1 0) qj1 (upv 6 x10 (upv 5 x9 (upv 4 x8 (upv 3 x7 (upv 2 x6 (upv 1 x5 (upv 0 x4 Fj1))))))) (vB 13 g18 (vB 12 g17 (vB 11 g16 (vB 10 g15 (vB 9 g14 (vB 8 g13 (vB 7 g12 Aj1))))))) Bj1 Dj1))))) H := hP
  have hD : va_D A0 ((uX10 cs adm qm Fm Am Bm Dm) ++ ((uX8 cs (qm 3) qms Fms Ams Bms Dms) ++ ((uX3 cs (qms 0) qmh Fmh Amh Bmh Dmh) ++ ((uX8 cs (qm 31) qi1 (upv 3 (1 : Int32) (upv 2 x3 Fi1)) (vB 1 g11 Ai1) Bi1 Di1) ++ (uX3 cs (qi1 0) qj1 (upv 6 x10 (upv 5 x9 (upv 4 x8 (upv 3 x7 (upv 2 x6 (upv 1 x5 (upv 0 x4 Fj1))))))) (vB 13 g18 (vB 12 g17 (vB 11 g16 (vB 10 g15 (vB 9 g14 (vB 8 g13 (vB 7 g12 Aj1))))))) Bj1 Dj1))))) := hD
  refine lv_iconst (v := 0) hx hb dX10_image_35 (by decide) ?_
  exact retDi (x3, (1 : Int32), x4, x5, x6, x7, x8, x9, x10, g11, g12, g13, g14, g15, g16, g17, g18) hx hb hr hlk hP hD hS dX10_image_36 (⟨show (0 : Int) ≤ x3.toInt ∧ x3.toInt ≤ 60 by omega, show (0 : Int) ≤ (1 : Int32).toInt ∧ (1 : Int32).toInt ≤ 1 by decide, show (0 : Int) ≤ x9.toInt ∧ x9.toInt ≤ 7 by omega, show (0 : Int) ≤ x10.toInt ∧ x10.toInt ≤ 6 by omega, hg15, hg17, show (0 : Int32).toInt = 0 ∧ (1 : Int32).toInt = 1 by decide⟩) (Nat.le_of_ble_eq_true rfl) (Nat.le_of_ble_eq_true rfl)

set_option maxRecDepth 100000 in
set_option maxHeartbeats 16000000 in
theorem sX10_back_1 (l : Launch) (G : va_G) (cs : Nat → ClassId) (adm : Nat) (qm : Nat → Nat) (Fm : Nat → Int32) (Am : Nat → Nat → Int32) (Bm : Nat → Nat → Int64) (Dm : Int64) (hIm : IX10 Fm Am) (qms : Nat → Nat) (Fms : Nat → Int32) (Ams : Nat → Nat → Int32) (Bms : Nat → Nat → Int64) (Dms : Int64) (hIms : IX8 Fms Ams) (qmh : Nat → Nat) (Fmh : Nat → Int32) (Amh : Nat → Nat → Int32) (Bmh : Nat → Nat → Int64) (Dmh : Int64) (hImh : IX3 Fmh Amh) (qmn : Nat → Nat) (Fmn : Nat → Int32) (Amn : Nat → Nat → Int32) (Bmn : Nat → Nat → Int64) (Dmn : Int64) (hImn : IX5 Fmn Amn) (qi1 : Nat → Nat) (Fi1 : Nat → Int32) (Ai1 : Nat → Nat → Int32) (Bi1 : Nat → Nat → Int64) (Di1 : Int64) (hIi1 : IX8 Fi1 Ai1) (qj1 : Nat → Nat) (Fj1 : Nat → Int32) (Aj1 : Nat → Nat → Int32) (Bj1 : Nat → Nat → Int64) (Dj1 : Int64) (hIj1 : IX3 Fj1 Aj1) : ∀ sz : Nat, Met l yX10_back (wk yX10_back cX10_back 2 (some .int)) (rmk 5 0 0) (PreD G (TY cs) [.ref adm, .int 1] ((uX10 cs adm qm Fm Am Bm Dm) ++ ((uX8 cs (qm 3) qms Fms Ams Bms Dms) ++ ((uX3 cs (qms 0) qmh Fmh Amh Bmh Dmh) ++ ((uX5 cs (qm 6) qmn Fmn Amn Bmn Dmn) ++ ((uX8 cs (qm 31) qi1 Fi1 Ai1 Bi1 Di1) ++ (uX3 cs (qi1 0) qj1 Fj1 Aj1 Bj1 Dj1)))))) sz) ((QDi G (fun (r : Int32) (u : Int32 × Int32 × Int32 × Int32 × Int32 × Int32 × Int32 × Int32 × Int32 × Int32 × (Nat → Int32) × (Nat → Int32) × (Nat → Int32) × (Nat → Int32) × (Nat → Int32) × (Nat → Int32) × (Nat → Int32) × (Nat → Int32) × (Nat → Int32) × (Nat → Int32)) => ((0 : Int) ≤ u.2.2.2.2.2.1.toInt ∧ u.2.2.2.2.2.1.toInt ≤ 7) ∧ ((0 : Int) ≤ u.2.2.2.2.2.2.1.toInt ∧ u.2.2.2.2.2.2.1.toInt ≤ 6) ∧ ((0 : Int) ≤ u.2.2.2.2.2.2.2.2.2.1.toInt ∧ u.2.2.2.2.2.2.2.2.2.1.toInt ≤ 60) ∧ AJ (0) 127 u.2.2.2.2.2.2.2.2.2.2.2.2.2.1 ∧ AJ (0) 63 u.2.2.2.2.2.2.2.2.2.2.2.2.2.2.2.1 ∧ (((Fi1 3).toInt = 0 ∧ r.toInt = -6) ∨ (¬ (Fi1 3).toInt = 0 ∧ r.toInt = 0))) (fun u : Int32 × Int32 × Int32 × Int32 × Int32 × Int32 × Int32 × Int32 × Int32 × Int32 × (Nat → Int32) × (Nat → Int32) × (Nat → Int32) × (Nat → Int32) × (Nat → Int32) × (Nat → Int32) × (Nat → Int32) × (Nat → Int32) × (Nat → Int32) × (Nat → Int32) => ((uX10 cs adm qm Fm Am Bm Dm) ++ ((wX8 cs (qm 3) qms (upd Fms 2 u.2.2.2.2.2.2.2.2.2.1) (vA Ams 1 u.2.2.2.2.2.2.2.2.2.2.2.2.2.2.2.2.2.2.2) Bms Dms) ++ ((wX3 cs (qms 0) qmh (upd (upd (upd (upd (upd (upd (upd Fmh 0 u.1) 1 u.2.1) 2 u.2.2.1) 3 u.2.2.2.1) 4 u.2.2.2.2.1) 5 u.2.2.2.2.2.1) 6 u.2.2.2.2.2.2.1) (vA (vA (vA (vA (vA (vA (vA Amh 7 u.2.2.2.2.2.2.2.2.2.2.1) 8 u.2.2.2.2.2.2.2.2.2.2.2.1) 9 u.2.2.2.2.2.2.2.2.2.2.2.2.1) 10 u.2.2.2.2.2.2.2.2.2.2.2.2.2.1) 11 u.2.2.2.2.2.2.2.2.2.2.2.2.2.2.1) 12 u.2.2.2.2.2.2.2.2.2.2.2.2.2.2.2.1) 13 u.2.2.2.2.2.2.2.2.2.2.2.2.2.2.2.2.1) Bmh Dmh) ++ ((wX5 cs (qm 6) qmn (upd (upd Fmn 2 u.2.2.2.2.2.2.2.1) 3 u.2.2.2.2.2.2.2.2.1) (vA (vA Amn 0 u.2.2.2.2.2.2.2.2.2.2.2.2.2.2.2.2.2.1) 1 u.2.2.2.2.2.2.2.2.2.2.2.2.2.2.2.2.2.2.1) Bmn Dmn) ++ ((uX8 cs (qm 31) qi1 Fi1 Ai1 Bi1 Di1) ++ (uX3 cs (qi1 0) qj1 Fj1 Aj1 Bj1 Dj1)))))))) (va_A ((uX10 cs adm qm Fm Am Bm Dm) ++ ((uX8 cs (qm 3) qms Fms Ams Bms Dms) ++ ((uX3 cs (qms 0) qmh Fmh Amh Bmh Dmh) ++ ((uX5 cs (qm 6) qmn Fmn Amn Bmn Dmn) ++ ((uX8 cs (qm 31) qi1 Fi1 Ai1 Bi1 Di1) ++ (uX3 cs (qi1 0) qj1 Fj1 Aj1 Bj1 Dj1)))))) sz)) 0 0 (va_A ((uX10 cs adm qm Fm Am Bm Dm) ++ ((uX8 cs (qm 3) qms Fms Ams Bms Dms) ++ ((uX3 cs (qms 0) qmh Fmh Amh Bmh Dmh) ++ ((uX5 cs (qm 6) qmn Fmn Amn Bmn Dmn) ++ ((uX8 cs (qm 31) qi1 Fi1 Ai1 Bi1 Di1) ++ (uX3 cs (qi1 0) qj1 Fj1 Aj1 Bj1 Dj1)))))) sz) := by
  refine mkD (Qc := (QDi G (fun (r : Int32) (u : Int32 × Int32 × Int32 × Int32 × Int32 × Int32 × Int32 × Int32 × Int32 × Int32 × (Nat → Int32) × (Nat → Int32) × (Nat → Int32) × (Nat → Int32) × (Nat → Int32) × (Nat → Int32) × (Nat → Int32) × (Nat → Int32) × (Nat → Int32) × (Nat → Int32)) => ((0 : Int) ≤ u.2.2.2.2.2.1.toInt ∧ u.2.2.2.2.2.1.toInt ≤ 7) ∧ ((0 : Int) ≤ u.2.2.2.2.2.2.1.toInt ∧ u.2.2.2.2.2.2.1.toInt ≤ 6) ∧ ((0 : Int) ≤ u.2.2.2.2.2.2.2.2.2.1.toInt ∧ u.2.2.2.2.2.2.2.2.2.1.toInt ≤ 60) ∧ AJ (0) 127 u.2.2.2.2.2.2.2.2.2.2.2.2.2.1 ∧ AJ (0) 63 u.2.2.2.2.2.2.2.2.2.2.2.2.2.2.2.1 ∧ (((Fi1 3).toInt = 0 ∧ r.toInt = -6) ∨ (¬ (Fi1 3).toInt = 0 ∧ r.toInt = 0))) (fun u : Int32 × Int32 × Int32 × Int32 × Int32 × Int32 × Int32 × Int32 × Int32 × Int32 × (Nat → Int32) × (Nat → Int32) × (Nat → Int32) × (Nat → Int32) × (Nat → Int32) × (Nat → Int32) × (Nat → Int32) × (Nat → Int32) × (Nat → Int32) × (Nat → Int32) => ((uX10 cs adm qm Fm Am Bm Dm) ++ ((wX8 cs (qm 3) qms (upd Fms 2 u.2.2.2.2.2.2.2.2.2.1) (vA Ams 1 u.2.2.2.2.2.2.2.2.2.2.2.2.2.2.2.2.2.2.2) Bms Dms) ++ ((wX3 cs (qms 0) qmh (upd (upd (upd (upd (upd (upd (upd Fmh 0 u.1) 1 u.2.1) 2 u.2.2.1) 3 u.2.2.2.1) 4 u.2.2.2.2.1) 5 u.2.2.2.2.2.1) 6 u.2.2.2.2.2.2.1) (vA (vA (vA (vA (vA (vA (vA Amh 7 u.2.2.2.2.2.2.2.2.2.2.1) 8 u.2.2.2.2.2.2.2.2.2.2.2.1) 9 u.2.2.2.2.2.2.2.2.2.2.2.2.1) 10 u.2.2.2.2.2.2.2.2.2.2.2.2.2.1) 11 u.2.2.2.2.2.2.2.2.2.2.2.2.2.2.1) 12 u.2.2.2.2.2.2.2.2.2.2.2.2.2.2.2.1) 13 u.2.2.2.2.2.2.2.2.2.2.2.2.2.2.2.2.1) Bmh Dmh) ++ ((wX5 cs (qm 6) qmn (upd (upd Fmn 2 u.2.2.2.2.2.2.2.1) 3 u.2.2.2.2.2.2.2.2.1) (vA (vA Amn 0 u.2.2.2.2.2.2.2.2.2.2.2.2.2.2.2.2.2.1) 1 u.2.2.2.2.2.2.2.2.2.2.2.2.2.2.2.2.2.2.1) Bmn Dmn) ++ ((uX8 cs (qm 31) qi1 Fi1 Ai1 Bi1 Di1) ++ (uX3 cs (qi1 0) qj1 Fj1 Aj1 Bj1 Dj1))))))))) (by decide) (by simp [lg_sl, Value.category]) ?_
  intro p e s m args below meth c ls A0 hx hb hml hr hlk hown hmn ht hK hP hD hS hA hl
  have hl : lv_has ls 2 [(0, .ref adm), (1, .int 1)] := hl
  refine lv_iload_n hx hb dX10_back_0 rfl (lv_at hl 1 rfl) ?_
  refine lv_if_lt (tgt := 9) hx hb dX10_back_1 (by decide) (fun c1 => False.elim (by revert c1; decide)) (fun c1 => ?_)
  refine lv_iload_n hx hb dX10_back_4 rfl (lv_at hl 1 rfl) ?_
  refine lv_iconst (v := 3) hx hb dX10_back_5 (by decide) ?_
  refine lv_icmp_lt (tgt := 12) hx hb dX10_back_6 (by decide) (fun c2 => ?_) (fun c2 => False.elim (by revert c2; decide))
  refine lv_aload_n hx hb dX10_back_12 rfl (lv_at hl 0 rfl) ?_
  refine getF (v := .ref (qm 4)) hx hb ht hown hK hP iTX10 0 4 rfl rfl (by decide) fl_RX10_35 rfl dX10_back_13 ?_
  refine lv_iload_n hx hb dX10_back_16 rfl (lv_at hl 1 rfl) ?_
  refine va_aldq hx hb hK.1 hP 1 4 rfl rfl (show ¬ (_ ∨ _) by decide) dX10_back_17 ?_
  refine W.eq (g2 := F0 m 18 ls [.ref (qm 31)]) rfl ?_
  refine getF (v := .int (Fi1 3)) hx hb ht hown hK hP iTX8 16 3 rfl rfl (by decide) fl_RX10_344 rfl dX10_back_18 ?_
  have zf3 : (0 : Int) ≤ (Fi1 3).toInt ∧ (Fi1 3).toInt ≤ 1 := hIi1.1 3
  refine lv_if_ne (tgt := 27) hx hb dX10_back_21 (by decide) (fun c4 => ?_) (fun c4 => ?_)
  · have zc4 := neK rfl (show (0 : Int32).toInt = 0 by decide) c4
    refine lv_aload_n hx hb dX10_back_27 rfl (lv_at hl 0 rfl) ?_
    refine getF (v := .ref (qm 3)) hx hb ht hown hK hP iTX10 0 3 rfl rfl (by decide) fl_RX10_31 rfl dX10_back_28 ?_
    refine lv_aload_n hx hb dX10_back_31 rfl (lv_at hl 0 rfl) ?_
    refine getF (v := .ref (qm 4)) hx hb ht hown hK hP iTX10 0 4 rfl rfl (by decide) fl_RX10_35 rfl dX10_back_32 ?_
    refine lv_iload_n hx hb dX10_back_35 rfl (lv_at hl 1 rfl) ?_
    refine va_aldq hx hb hK.1 hP 1 4 rfl rfl (show ¬ (_ ∨ _) by decide) dX10_back_36 ?_
    refine W.eq (g2 := F0 m 37 ls [.ref (qm 31), .ref (qm 3)]) rfl ?_
    refine behDw (wr := ((uX10 cs adm qm Fm Am Bm Dm) ++ (uX5 cs (qm 6) qmn Fmn Amn Bmn Dmn))) (runVD (As := [.ref (qm 31)]) (rest := []) ⟨hx, hb, hml, hown, ht⟩ (sX8_copyFrom l G cs (qm 3) qms Fms Ams Bms Dms hIms qmh Fmh Amh Bmh Dmh hImh (qm 31) qi1 Fi1 Ai1 Bi1 Di1 hIi1 qj1 Fj1 Aj1 Bj1 Dj1 hIj1 ) okV_RX10_341 ⟨by decide, by decide⟩ hK hP hD [3, 4, 5, 6, 7, 8, 9, 10, 11, 12, 16, 17, 18, 19, 20, 21, 22, 23, 24, 25] rfl (by decide) rfl 3 rfl rfl hl.1 rfl (Nat.le_of_ble_eq_true rfl) dX10_back_37 ⟨(Nat.le_of_ble_eq_true rfl), (Nat.le_of_ble_eq_true rfl)⟩) hP hD hS hA [3, 4, 5, 6, 7, 8, 9, 10, 11, 12, 16, 17, 18, 19, 20, 21, 22, 23, 24, 25] [0, 1, 2, 13, 14, 15] rfl rfl (by decide) (by decide) (fun u H locs hu hP hD hS => ?_)
    obtain ⟨x5, x6, x7, x8, x9, x10, x11, x12, g13, g14, g15, g16, g17, g18, g19, g20⟩ := u
    obtain ⟨hbx5, hbx11, hbx12, hg17, hg19, hr21⟩ := hu
    have hbx5 : (0 : Int) ≤ x5.toInt ∧ x5.toInt ≤ 60 := hbx5
    have hbx11 : (0 : Int) ≤ x11.toInt ∧ x11.toInt ≤ 7 := hbx11
    have hbx12 : (0 : Int) ≤ x12.toInt ∧ x12.toInt ≤ 6 := hbx12
    have hg17 : AJ (0) 127 g17 := hg17
    have hg19 : AJ (0) 63 g19 := hg19
    have hP : va_P G vwCl ((uX10 cs adm qm Fm Am Bm Dm) ++ ((uX8 cs (qm 3) qms (upv 2 x5 Fms) (vB 1 g13 Ams) Bms Dms) ++ ((uX3 cs (qms 0) qmh (upv 6 x12 (upv 5 x11 (upv 4 x10 (upv 3 x9 (upv 2 x8 (upv 1 x7 (upv 0 x6 Fmh))))))) (vB 13 g20 (vB 12 g19 (vB 11 g18 (vB 10 g17 (vB 9 g16 (vB 8 g15 (vB 7 g14 Amh))))))) Bmh Dmh) ++ ((uX5 cs (qm 6) qmn Fmn Amn Bmn Dmn) ++ ((uX8 cs (qm 31) qi1 Fi1 Ai1 Bi1 Di1) ++ (uX3 cs (qi1 0) qj1 Fj1 Aj1 Bj1 Dj1)))))) H := hP.sub [0, 1, 2, 6, 7, 8, 9, 10, 11, 12, 13, 14, 15, 3, 4, 5, 16, 17, 18, 19, 20, 21, 22, 23, 24, 25] rfl
    have hD : va_D A0 ((uX10 cs adm qm Fm Am Bm Dm) ++ ((uX8 cs (qm 3) qms (upv 2 x5 Fms) (vB 1 g13 Ams) Bms Dms) ++ ((uX3 cs (qms 0) qmh (upv 6 x12 (upv 5 x11 (upv 4 x10 (upv 3 x9 (upv 2 x8 (upv 1 x7 (upv 0 x6 Fmh))))))) (vB 13 g20 (vB 12 g19 (vB 11 g18 (vB 10 g17 (vB 9 g16 (vB 8 g15 (vB 7 g14 Amh))))))) Bmh Dmh) ++ ((uX5 cs (qm 6) qmn Fmn Amn Bmn Dmn) ++ ((uX8 cs (qm 31) qi1 Fi1 Ai1 Bi1 Di1) ++ (uX3 cs (qi1 0) qj1 Fj1 Aj1 Bj1 Dj1)))))) := hD.sub [0, 1, 2, 6, 7, 8, 9, 10, 11, 12, 13, 14, 15, 3, 4, 5, 16, 17, 18, 19, 20, 21, 22, 23, 24, 25] (by decide) rfl
    refine lv_aload_n hx hb dX10_back_40 rfl (lv_at hl 0 rfl) ?_
    refine behDw (wr := ((uX8 cs (qm 31) qi1 Fi1 Ai1 Bi1 Di1) ++ (uX3 cs (qi1 0) qj1 Fj1 Aj1 Bj1 Dj1))) (runVD (As := []) (rest := []) ⟨hx, hb, hml, hown, ht⟩ (sX10_replay l G cs adm qm Fm Am Bm Dm hIm qms (upv 2 x5 Fms) (vB 1 g13 Ams) Bms Dms (IB_av (k := 1) (IB_pv (k := 2) hIms (show (0 : Int) ≤ x5.toInt ∧ x5.toInt ≤ 60 by omega)) (AJ_full _)) qmh (upv 6 x12 (upv 5 x11 (upv 4 x10 (upv 3 x9 (upv 2 x8 (upv 1 x7 (upv 0 x6 Fmh))))))) (vB 13 g20 (vB 12 g19 (vB 11 g18 (vB 10 g17 (vB 9 g16 (vB 8 g15 (vB 7 g14 Amh))))))) Bmh Dmh (IB_av (k := 13) (IB_av (k := 12) (IB_av (k := 11) (IB_av (k := 10) (IB_av (k := 9) (IB_av (k := 8) (IB_av (k := 7) (IB_pv (k := 6) (IB_pv (k := 5) (IB_pv (k := 4) (IB_pv (k := 3) (IB_pv (k := 2) (IB_pv (k := 1) (IB_pv (k := 0) hImh (i32b _)) (i32b _)) (i32b _)) (i32b _)) (i32b _)) (show (0 : Int) ≤ x11.toInt ∧ x11.toInt ≤ 7 by omega)) (show (0 : Int) ≤ x12.toInt ∧ x12.toInt ≤ 6 by omega)) (AJ_full _)) (AJ_full _)) (AJ_full _)) hg17) (AJ_full _)) hg19) (AJ_full _)) qmn Fmn Amn Bmn Dmn hImn ) okV_RX10_108 ⟨by decide, by decide⟩ hK hP hD [0, 1, 2, 3, 4, 5, 6, 7, 8, 9, 10, 11, 12, 13, 14, 15] rfl (by decide) rfl 0 rfl rfl hl.1 rfl (Nat.le_of_ble_eq_true rfl) dX10_back_41 ⟨(Nat.le_of_ble_eq_true rfl), (Nat.le_of_ble_eq_true rfl)⟩) hP hD hS hA [0, 1, 2, 3, 4, 5, 6, 7, 8, 9, 10, 11, 12, 13, 14, 15] [16, 17, 18, 19, 20, 21, 22, 23, 24, 25] rfl rfl (by decide) (by decide) (fun u H locs hu hP hD hS => ?_)
    obtain ⟨x22, x23, g24, g25⟩ := u
    have hr26 := hu
    have hP : va_P G vwCl ((uX10 cs adm qm Fm Am Bm Dm) ++ ((uX8 cs (qm 3) qms (upv 2 x5 Fms) (vB 1 g13 Ams) Bms Dms) ++ ((uX3 cs (qms 0) qmh (upv 6 x12 (upv 5 x11 (upv 4 x10 (upv 3 x9 (upv 2 x8 (upv 1 x7 (upv 0 x6 Fmh))))))) (vB 13 g20 (vB 12 g19 (vB 11 g18 (vB 10 g17 (vB 9 g16 (vB 8 g15 (vB 7 g14 Amh))))))) Bmh Dmh) ++ ((uX5 cs (qm 6) qmn (upv 3 x23 (upv 2 x22 Fmn)) (vB 1 g25 (vB 0 g24 Amn)) Bmn Dmn) ++ ((uX8 cs (qm 31) qi1 Fi1 Ai1 Bi1 Di1) ++ (uX3 cs (qi1 0) qj1 Fj1 Aj1 Bj1 Dj1)))))) H := hP.sub [10, 11, 12, 13, 14, 15, 16, 17, 18, 19, 20, 21, 22, 23, 24, 25, 0, 1, 2, 3, 4, 5, 6, 7, 8, 9] rfl
    have hD : va_D A0 ((uX10 cs adm qm Fm Am Bm Dm) ++ ((uX8 cs (qm 3) qms (upv 2 x5 Fms) (vB 1 g13 Ams) Bms Dms) ++ ((uX3 cs (qms 0) qmh (upv 6 x12 (upv 5 x11 (upv 4 x10 (upv 3 x9 (upv 2 x8 (upv 1 x7 (upv 0 x6 Fmh))))))) (vB 13 g20 (vB 12 g19 (vB 11 g18 (vB 10 g17 (vB 9 g16 (vB 8 g15 (vB 7 g14 Amh))))))) Bmh Dmh) ++ ((uX5 cs (qm 6) qmn (upv 3 x23 (upv 2 x22 Fmn)) (vB 1 g25 (vB 0 g24 Amn)) Bmn Dmn) ++ ((uX8 cs (qm 31) qi1 Fi1 Ai1 Bi1 Di1) ++ (uX3 cs (qi1 0) qj1 Fj1 Aj1 Bj1 Dj1)))))) := hD.sub [10, 11, 12, 13, 14, 15, 16, 17, 18, 19, 20, 21, 22, 23, 24, 25, 0, 1, 2, 3, 4, 5, 6, 7, 8, 9] (by decide) rfl
    refine lv_iconst (v := 0) hx hb dX10_back_44 (by decide) ?_
    exact retDi (x6, x7, x8, x9, x10, x11, x12, x22, x23, x5, g14, g15, g16, g17, g18, g19, g20, g24, g25, g13) hx hb hr hlk hP hD hS dX10_back_45 (⟨show (0 : Int) ≤ x11.toInt ∧ x11.toInt ≤ 7 by omega, show (0 : Int) ≤ x12.toInt ∧ x12.toInt ≤ 6 by omega, show (0 : Int) ≤ x5.toInt ∧ x5.toInt ≤ 60 by omega, hg17, hg19, show ((Fi1 3).toInt = 0 ∧ (0 : Int32).toInt = -6) ∨ (¬ (Fi1 3).toInt = 0 ∧ (0 : Int32).toInt = 0) by have kk : (0 : Int32).toInt = 0 := (by decide); omega⟩) (Nat.le_of_ble_eq_true rfl) (Nat.le_of_ble_eq_true rfl)
  · have zc4 := eqK rfl (show (0 : Int32).toInt = 0 by decide) c4
    refine lv_bipush (v := (-6)) hx hb dX10_back_24 (by decide) ?_
    exact retDi ((Fmh 0), (Fmh 1), (Fmh 2), (Fmh 3), (Fmh 4), (Fmh 5), (Fmh 6), (Fmn 2), (Fmn 3), (Fms 2), (Amh 7), (Amh 8), (Amh 9), (Amh 10), (Amh 11), (Amh 12), (Amh 13), (Amn 0), (Amn 1), (Ams 1)) hx hb hr hlk hP hD hS dX10_back_26 (⟨hImh.1 5, hImh.1 6, hIms.1 2, fun j => hImh.2 10 j, fun j => hImh.2 12 j, show ((Fi1 3).toInt = 0 ∧ (-6 : Int32).toInt = -6) ∨ (¬ (Fi1 3).toInt = 0 ∧ (-6 : Int32).toInt = 0) by have kk : (-6 : Int32).toInt = -6 := (by decide); omega⟩) (Nat.le_of_ble_eq_true rfl) (Nat.le_of_ble_eq_true rfl)

