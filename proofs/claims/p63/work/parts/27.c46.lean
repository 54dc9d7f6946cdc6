set_option maxRecDepth 100000 in
set_option maxHeartbeats 16000000 in
theorem sX10_tell_1 (l : Launch) (G : va_G) (cs : Nat → ClassId) (adm : Nat) (qm : Nat → Nat) (Fm : Nat → Int32) (Am : Nat → Nat → Int32) (Bm : Nat → Nat → Int64) (Dm : Int64) (hIm : IX10 Fm Am) (qms : Nat → Nat) (Fms : Nat → Int32) (Ams : Nat → Nat → Int32) (Bms : Nat → Nat → Int64) (Dms : Int64) (hIms : IX8 Fms Ams) (qmh : Nat → Nat) (Fmh : Nat → Int32) (Amh : Nat → Nat → Int32) (Bmh : Nat → Nat → Int64) (Dmh : Int64) (hImh : IX3 Fmh Amh) (qmn : Nat → Nat) (Fmn : Nat → Int32) (Amn : Nat → Nat → Int32) (Bmn : Nat → Nat → Int64) (Dmn : Int64) (hImn : IX5 Fmn Amn) (a1 : Int32) (a3 : Int32) : ∀ sz : Nat, Met l yX10_tell (wk yX10_tell cX10_tell 6 (some .int)) (rmk 5 0 0) (PreD G (TY cs) [.ref adm, .int a1, .int 1, .int a3] ((uX10 cs adm qm Fm Am Bm Dm) ++ ((uX8 cs (qm 3) qms Fms Ams Bms Dms) ++ ((uX3 cs (qms 0) qmh Fmh Amh Bmh Dmh) ++ (uX5 cs (qm 6) qmn Fmn Amn Bmn Dmn)))) sz) ((QDi G (fun (r : Int32) (u : Int32 × Int32 × (Nat → Int32) × (Nat → Int32) × (Nat → Int32)) => True) (fun u : Int32 × Int32 × (Nat → Int32) × (Nat → Int32) × (Nat → Int32) => ((uX10 cs adm qm Fm Am Bm Dm) ++ ((uX8 cs (qm 3) qms Fms Ams Bms Dms) ++ ((uX3 cs (qms 0) qmh Fmh (vA Amh 8 u.2.2.1) Bmh Dmh) ++ (uX5 cs (qm 6) qmn (upd (upd Fmn 2 u.1) 3 u.2.1) (vA (vA Amn 0 u.2.2.2.1) 1 u.2.2.2.2) Bmn Dmn)))))) (va_A ((uX10 cs adm qm Fm Am Bm Dm) ++ ((uX8 cs (qm 3) qms Fms Ams Bms Dms) ++ ((uX3 cs (qms 0) qmh Fmh Amh Bmh Dmh) ++ (uX5 cs (qm 6) qmn Fmn Amn Bmn Dmn)))) sz)) 0 0 (va_A ((uX10 cs adm qm Fm Am Bm Dm) ++ ((uX8 cs (qm 3) qms Fms Ams Bms Dms) ++ ((uX3 cs (qms 0) qmh Fmh Amh Bmh Dmh) ++ (uX5 cs (qm 6) qmn Fmn Amn Bmn Dmn)))) sz) := by
  refine mkD (Qc := (QDi G (fun (r : Int32) (u : Int32 × Int32 × (Nat → Int32) × (Nat → Int32) × (Nat → Int32)) => True) (fun u : Int32 × Int32 × (Nat → Int32) × (Nat → Int32) × (Nat → Int32) => ((uX10 cs adm qm Fm Am Bm Dm) ++ ((uX8 cs (qm 3) qms Fms Ams Bms Dms) ++ ((uX3 cs (qms 0) qmh Fmh (vA Amh 8 u.2.2.1) Bmh Dmh) ++ (uX5 cs (qm 6) qmn (upd (upd Fmn 2 u.1) 3 u.2.1) (vA (vA Amn 0 u.2.2.2.1) 1 u.2.2.2.2) Bmn Dmn))))))) (by decide) (by simp [lg_sl, Value.category]) ?_
  intro p e s m args below meth c ls A0 hx hb hml hr hlk hown hmn ht hK hP hD hS hA hl
  have hl : lv_has ls 6 [(0, .ref adm), (1, .int a1), (2, .int 1), (3, .int a3)] := hl
  refine lv_aload_n hx hb dX10_tell_0 rfl (lv_at hl 0 rfl) ?_
  refine lv_iload_n hx hb dX10_tell_1 rfl (lv_at hl 1 rfl) ?_
  refine behR (runVP (As := [.int a1]) (rest := []) ⟨hx, hb, hml, hown, ht⟩ (sX10_isRoom l G cs adm qm Fm Am Bm Dm hIm qms Fms Ams Bms Dms hIms qmh Fmh Amh Bmh Dmh hImh a1 ) okV_RX10_120 ⟨by decide, by decide⟩ hK hP [0, 1, 2, 3, 4, 5, 6, 7, 8, 9, 10, 11, 12] rfl 0 rfl rfl hl.1 rfl (Nat.le_of_ble_eq_true rfl) dX10_tell_2 ⟨by decide, by decide⟩) hP hS hA (fun r1 H locs hr1 hP hS => ?_)
  have hr1 : (r1.toInt = 1 ∧ 0 ≤ a1.toInt ∧ a1.toInt < (Fmh 5).toInt ∧ a1.toInt ≤ 6) ∨ r1.toInt = 0 := hr1
  refine lv_if_eq (tgt := 29) hx hb dX10_tell_5 (by decide) (fun c2 => ?_) (fun c2 => ?_)
  · have zc2 := eqK rfl (show (0 : Int32).toInt = 0 by decide) c2
    refine lv_bipush (v := (-2)) hx hb dX10_tell_29 (by decide) ?_
    exact retDi ((Fmn 2), (Fmn 3), (Amh 8), (Amn 0), (Amn 1)) hx hb hr hlk hP hD hS dX10_tell_31 (trivial) (Nat.le_of_ble_eq_true rfl) (Nat.le_of_ble_eq_true rfl)
  · have zc2 := neK rfl (show (0 : Int32).toInt = 0 by decide) c2
    refine lv_iload_n hx hb dX10_tell_8 rfl (lv_at hl 2 rfl) ?_
    refine lv_if_lt (tgt := 29) hx hb dX10_tell_9 (by decide) (fun c3 => False.elim (by revert c3; decide)) (fun c3 => ?_)
    refine lv_iload_n hx hb dX10_tell_12 rfl (lv_at hl 2 rfl) ?_
    refine lv_iconst (v := 2) hx hb dX10_tell_13 (by decide) ?_
    refine lv_icmp_gt (tgt := 29) hx hb dX10_tell_14 (by decide) (fun c4 => False.elim (by revert c4; decide)) (fun c4 => ?_)
    refine lv_iload_n hx hb dX10_tell_17 rfl (lv_at hl 3 rfl) ?_
    refine lv_if_lt (tgt := 29) hx hb dX10_tell_18 (by decide) (fun c5 => ?_) (fun c5 => ?_)
    · have zc5 := ltK rfl (show (0 : Int32).toInt = 0 by decide) c5
      refine lv_bipush (v := (-2)) hx hb dX10_tell_29 (by decide) ?_
      exact retDi ((Fmn 2), (Fmn 3), (Amh 8), (Amn 0), (Amn 1)) hx hb hr hlk hP hD hS dX10_tell_31 (trivial) (Nat.le_of_ble_eq_true rfl) (Nat.le_of_ble_eq_true rfl)
    · have zc5 := nltK rfl (show (0 : Int32).toInt = 0 by decide) c5
      refine lv_iload_n hx hb dX10_tell_21 rfl (lv_at hl 3 rfl) ?_
      refine lv_iload_n hx hb dX10_tell_22 rfl (lv_at hl 2 rfl) ?_
      refine behR (runTP (As := [.int 1]) (rest := [.int a3]) ⟨hx, hb, hml, hown, ht⟩ (sX3_limit l G cs 1 ) okT_RX10_321 ⟨by decide, by decide⟩ hK hP [] rfl hl.1 rfl (Nat.le_of_ble_eq_true rfl) dX10_tell_23 ⟨by decide, by decide⟩) hP hS hA (fun r6 H locs hr6 hP hS => ?_)
      refine lv_icmp_le (tgt := 32) hx hb dX10_tell_26 (by decide) (fun c7 => ?_) (fun c7 => ?_)
      · have zc7 := leK rfl rfl c7
        refine lv_aload_n hx hb dX10_tell_32 rfl (lv_at hl 0 rfl) ?_
        refine getF (v := .ref (qm 3)) hx hb ht hown hK hP iTX10 0 3 rfl rfl (by decide) fl_RX10_31 rfl dX10_tell_33 ?_
        refine getF (v := .int (Fms 2)) hx hb ht hown hK hP iTX8 3 2 rfl rfl (by decide) fl_RX10_105 rfl dX10_tell_36 ?_
        have zf8 : (0 : Int) ≤ (Fms 2).toInt ∧ (Fms 2).toInt ≤ 60 := hIms.1 2
        refine lv_if_le (tgt := 45) hx hb dX10_tell_39 (by decide) (fun c9 => ?_) (fun c9 => ?_)
        · have zc9 := leK rfl (show (0 : Int32).toInt = 0 by decide) c9
          refine lv_aload_n hx hb dX10_tell_45 rfl (lv_at hl 0 rfl) ?_
          refine getF (v := .ref (qm 3)) hx hb ht hown hK hP iTX10 0 3 rfl rfl (by decide) fl_RX10_31 rfl dX10_tell_46 ?_
          refine getF (v := .ref (qms 0)) hx hb ht hown hK hP iTX8 3 0 rfl rfl (by decide) fl_RX10_98 rfl dX10_tell_49 ?_
          refine lv_iload_n hx hb dX10_tell_52 rfl (lv_at hl 2 rfl) ?_
          refine behRr (runVP (As := [.int 1]) (rest := []) ⟨hx, hb, hml, hown, ht⟩ (sX3_column_1 l G cs (qms 0) qmh Fmh Amh Bmh Dmh hImh ) okV_RX10_124 ⟨by decide, by decide⟩ hK hP [5, 6, 7, 8, 9, 10, 11, 12] rfl 5 rfl rfl hl.1 rfl (Nat.le_of_ble_eq_true rfl) dX10_tell_53 ⟨by decide, by decide⟩) hP hS hA (fun H locs hP hS => ?_)
          refine lv_astore (lv' := [(4, .ref (qmh 8)), (0, .ref adm), (1, .int a1), (2, .int 1), (3, .int a3)]) hx hb dX10_tell_56 hl (by decide) rfl (fun ls hl => ?_)
          refine lv_aload hx hb dX10_tell_58 (lv_at hl 0 rfl) ?_
          refine lv_iload_n hx hb dX10_tell_60 rfl (lv_at hl 2 rfl) ?_
          refine va_iald hx hb hK.1 hP 7 0 rfl rfl (inK rfl (by omega) (by decide)) dX10_tell_61 ?_
          refine lv_topi (fun v10 ev10 => ?_)
          refine lv_istore (lv' := [(5, .int v10), (4, .ref (qmh 8)), (0, .ref adm), (1, .int a1), (2, .int 1), (3, .int a3)]) hx hb dX10_tell_62 hl (by decide) rfl (fun ls hl => ?_)
          refine lv_aload hx hb dX10_tell_64 (lv_at hl 1 rfl) ?_
          refine lv_iload_n hx hb dX10_tell_66 rfl (lv_at hl 3 rfl) ?_
          refine lv_iload_n hx hb dX10_tell_67 rfl (lv_at hl 5 rfl) ?_
          refine va_iast hx hb hK.1 hP hD hS 7 0 rfl rfl (inK rfl (by omega) (by decide)) dX10_tell_68 (fun H locs hP hD hS => ?_)
          obtain ⟨g11, hP, hD⟩ : ∃ g11 : Nat → Int32, va_P G vwCl ((uX10 cs adm qm Fm Am Bm Dm) ++ ((uX8 cs (qm 3) qms Fms Ams Bms Dms) ++ ((uX3 cs (qms 0) qmh Fmh (vA Amh 8 g11) Bmh Dmh) ++ (uX5 cs (qm 6) qmn Fmn Amn Bmn Dmn)))) H ∧ va_D A0 ((uX10 cs adm qm Fm Am Bm Dm) ++ ((uX8 cs (qm 3) qms Fms Ams Bms Dms) ++ ((uX3 cs (qms 0) qmh Fmh (vA Amh 8 g11) Bmh Dmh) ++ (uX5 cs (qm 6) qmn Fmn Amn Bmn Dmn)))) := ⟨upd (Amh 8) a1.toNatClampNeg a3, hP, hD⟩
          refine lv_aload_n hx hb dX10_tell_69 rfl (lv_at hl 2 rfl) ?_
          refine behDw (wr := ([] : va_W)) (runVD (As := []) (rest := []) ⟨hx, hb, hml, hown, ht⟩ (sX10_replay l G cs adm qm Fm Am Bm Dm hIm qms Fms Ams Bms Dms hIms qmh Fmh (vA Amh 8 g11) Bmh Dmh (IB_arr (k := 8) hImh (AJ_full _)) qmn Fmn Amn Bmn Dmn hImn ) okV_RX10_108 ⟨by decide, by decide⟩ hK hP hD [0, 1, 2, 3, 4, 5, 6, 7, 8, 9, 10, 11, 12, 13, 14, 15] rfl (by decide) rfl 0 rfl rfl hl.1 rfl (Nat.le_of_ble_eq_true rfl) dX10_tell_70 ⟨(Nat.le_of_ble_eq_true rfl), (Nat.le_of_ble_eq_true rfl)⟩) hP hD hS hA [0, 1, 2, 3, 4, 5, 6, 7, 8, 9, 10, 11, 12, 13, 14, 15] [] rfl rfl (by decide) (by decide) (fun u H locs hu hP hD hS => ?_)
          obtain ⟨x12, x13, g14, g15⟩ := u
          have hr16 := hu
          have hP : va_P G vwCl ((uX10 cs adm qm Fm Am Bm Dm) ++ ((uX8 cs (qm 3) qms Fms Ams Bms Dms) ++ ((uX3 cs (qms 0) qmh Fmh (vA Amh 8 g11) Bmh Dmh) ++ (uX5 cs (qm 6) qmn (upd (upd Fmn 2 x12) 3 x13) (vA (vA Amn 0 g14) 1 g15) Bmn Dmn)))) H := hP.sub [0, 1, 2, 3, 4, 5, 6, 7, 8, 9, 10, 11, 12, 13, 14, 15] rfl
          have hD : va_D A0 ((uX10 cs adm qm Fm Am Bm Dm) ++ ((uX8 cs (qm 3) qms Fms Ams Bms Dms) ++ ((uX3 cs (qms 0) qmh Fmh (vA Amh 8 g11) Bmh Dmh) ++ (uX5 cs (qm 6) qmn (upd (upd Fmn 2 x12) 3 x13) (vA (vA Amn 0 g14) 1 g15) Bmn Dmn)))) := hD.sub [0, 1, 2, 3, 4, 5, 6, 7, 8, 9, 10, 11, 12, 13, 14, 15] (by decide) rfl
          refine lv_iload hx hb dX10_tell_73 (lv_at hl 0 rfl) ?_
          exact retDi (x12, x13, g11, g14, g15) hx hb hr hlk hP hD hS dX10_tell_75 (trivial) (Nat.le_of_ble_eq_true rfl) (Nat.le_of_ble_eq_true rfl)
        · have zc9 := nleK rfl (show (0 : Int32).toInt = 0 by decide) c9
          refine lv_bipush (v := (-5)) hx hb dX10_tell_42 (by decide) ?_
          exact retDi ((Fmn 2), (Fmn 3), (Amh 8), (Amn 0), (Amn 1)) hx hb hr hlk hP hD hS dX10_tell_44 (trivial) (Nat.le_of_ble_eq_true rfl) (Nat.le_of_ble_eq_true rfl)
      · have zc7 := nleK rfl rfl c7
        refine lv_bipush (v := (-2)) hx hb dX10_tell_29 (by decide) ?_
        exact retDi ((Fmn 2), (Fmn 3), (Amh 8), (Amn 0), (Amn 1)) hx hb hr hlk hP hD hS dX10_tell_31 (trivial) (Nat.le_of_ble_eq_true rfl) (Nat.le_of_ble_eq_true rfl)

set_option maxRecDepth 100000 in
set_option maxHeartbeats 16000000 in
theorem sX10_tell_2 (l : Launch) (G : va_G) (cs : Nat → ClassId) (adm : Nat) (qm : Nat → Nat) (Fm : Nat → Int32) (Am : Nat → Nat → Int32) (Bm : Nat → Nat → Int64) (Dm : Int64) (hIm : IX10 Fm Am) (qms : Nat → Nat) (Fms : Nat → Int32) (Ams : Nat → Nat → Int32) (Bms : Nat → Nat → Int64) (Dms : Int64) (hIms : IX8 Fms Ams) (qmh : Nat → Nat) (Fmh : Nat → Int32) (Amh : Nat → Nat → Int32) (Bmh : Nat → Nat → Int64) (Dmh : Int64) (hImh : IX3 Fmh Amh) (qmn : Nat → Nat) (Fmn : Nat → Int32) (Amn : Nat → Nat → Int32) (Bmn : Nat → Nat → Int64) (Dmn : Int64) (hImn : IX5 Fmn Amn) (a1 : Int32) (a3 : Int32) : ∀ sz : Nat, Met l yX10_tell (wk yX10_tell cX10_tell 6 (some .int)) (rmk 5 0 0) (PreD G (TY cs) [.ref adm, .int a1, .int 2, .int a3] ((uX10 cs adm qm Fm Am Bm Dm) ++ ((uX8 cs (qm 3) qms Fms Ams Bms Dms) ++ ((uX3 cs (qms 0) qmh Fmh Amh Bmh Dmh) ++ (uX5 cs (qm 6) qmn Fmn Amn Bmn Dmn)))) sz) ((QDi G (fun (r : Int32) (u : Int32 × Int32 × (Nat → Int32) × (Nat → Int32) × (Nat → Int32)) => True) (fun u : Int32 × Int32 × (Nat → Int32) × (Nat → Int32) × (Nat → Int32) => ((uX10 cs adm qm Fm Am Bm Dm) ++ ((uX8 cs (qm 3) qms Fms Ams Bms Dms) ++ ((uX3 cs (qms 0) qmh Fmh (vA Amh 9 u.2.2.1) Bmh Dmh) ++ (uX5 cs (qm 6) qmn (upd (upd Fmn 2 u.1) 3 u.2.1) (vA (vA Amn 0 u.2.2.2.1) 1 u.2.2.2.2) Bmn Dmn)))))) (va_A ((uX10 cs adm qm Fm Am Bm Dm) ++ ((uX8 cs (qm 3) qms Fms Ams Bms Dms) ++ ((uX3 cs (qms 0) qmh Fmh Amh Bmh Dmh) ++ (uX5 cs (qm 6) qmn Fmn Amn Bmn Dmn)))) sz)) 0 0 (va_A ((uX10 cs adm qm Fm Am Bm Dm) ++ ((uX8 cs (qm 3) qms Fms Ams Bms Dms) ++ ((uX3 cs (qms 0) qmh Fmh Amh Bmh Dmh) ++ (uX5 cs (qm 6) qmn Fmn Amn Bmn Dmn)))) sz) := by
  refine mkD (Qc := (QDi G (fun (r : Int32) (u : Int32 × Int32 × (Nat → Int32) × (Nat → Int32) × (Nat → Int32)) => True) (fun u : Int32 × Int32 × (Nat → Int32) × (Nat → Int32) × (Nat → Int32) => ((uX10 cs adm qm Fm Am Bm Dm) ++ ((uX8 cs (qm 3) qms Fms Ams Bms Dms) ++ ((uX3 cs (qms 0) qmh Fmh (vA Amh 9 u.2.2.1) Bmh Dmh) ++ (uX5 cs (qm 6) qmn (upd (upd Fmn 2 u.1) 3 u.2.1) (vA (vA Amn 0 u.2.2.2.1) 1 u.2.2.2.2) Bmn Dmn))))))) (by decide) (by simp [lg_sl, Value.category]) ?_
  intro p e s m args below meth c ls A0 hx hb hml hr hlk hown hmn ht hK hP hD hS hA hl
  have hl : lv_has ls 6 [(0, .ref adm), (1, .int a1), (2, .int 2), (3, .int a3)] := hl
  refine lv_aload_n hx hb dX10_tell_0 rfl (lv_at hl 0 rfl) ?_
  refine lv_iload_n hx hb dX10_tell_1 rfl (lv_at hl 1 rfl) ?_
  refine behR (runVP (As := [.int a1]) (rest := []) ⟨hx, hb, hml, hown, ht⟩ (sX10_isRoom l G cs adm qm Fm Am Bm Dm hIm qms Fms Ams Bms Dms hIms qmh Fmh Amh Bmh Dmh hImh a1 ) okV_RX10_120 ⟨by decide, by decide⟩ hK hP [0, 1, 2, 3, 4, 5, 6, 7, 8, 9, 10, 11, 12] rfl 0 rfl rfl hl.1 rfl (Nat.le_of_ble_eq_true rfl) dX10_tell_2 ⟨by decide, by decide⟩) hP hS hA (fun r1 H locs hr1 hP hS => ?_)
  have hr1 : (r1.toInt = 1 ∧ 0 ≤ a1.toInt ∧ a1.toInt < (Fmh 5).toInt ∧ a1.toInt ≤ 6) ∨ r1.toInt = 0 := hr1
  refine lv_if_eq (tgt := 29) hx hb dX10_tell_5 (by decide) (fun c2 => ?_) (fun c2 => ?_)
  · have zc2 := eqK rfl (show (0 : Int32).toInt = 0 by decide) c2
    refine lv_bipush (v := (-2)) hx hb dX10_tell_29 (by decide) ?_
    exact retDi ((Fmn 2), (Fmn 3), (Amh 9), (Amn 0), (Amn 1)) hx hb hr hlk hP hD hS dX10_tell_31 (trivial) (Nat.le_of_ble_eq_true rfl) (Nat.le_of_ble_eq_true rfl)
  · have zc2 := neK rfl (show (0 : Int32).toInt = 0 by decide) c2
    refine lv_iload_n hx hb dX10_tell_8 rfl (lv_at hl 2 rfl) ?_
    refine lv_if_lt (tgt := 29) hx hb dX10_tell_9 (by decide) (fun c3 => False.elim (by revert c3; decide)) (fun c3 => ?_)
    refine lv_iload_n hx hb dX10_tell_12 rfl (lv_at hl 2 rfl) ?_
    refine lv_iconst (v := 2) hx hb dX10_tell_13 (by decide) ?_
    refine lv_icmp_gt (tgt := 29) hx hb dX10_tell_14 (by decide) (fun c4 => False.elim (by revert c4; decide)) (fun c4 => ?_)
    refine lv_iload_n hx hb dX10_tell_17 rfl (lv_at hl 3 rfl) ?_
    refine lv_if_lt (tgt := 29) hx hb dX10_tell_18 (by decide) (fun c5 => ?_) (fun c5 => ?_)
    · have zc5 := ltK rfl (show (0 : Int32).toInt = 0 by decide) c5
      refine lv_bipush (v := (-2)) hx hb dX10_tell_29 (by decide) ?_
      exact retDi ((Fmn 2), (Fmn 3), (Amh 9), (Amn 0), (Amn 1)) hx hb hr hlk hP hD hS dX10_tell_31 (trivial) (Nat.le_of_ble_eq_true rfl) (Nat.le_of_ble_eq_true rfl)
    · have zc5 := nltK rfl (show (0 : Int32).toInt = 0 by decide) c5
      refine lv_iload_n hx hb dX10_tell_21 rfl (lv_at hl 3 rfl) ?_
      refine lv_iload_n hx hb dX10_tell_22 rfl (lv_at hl 2 rfl) ?_
      refine behR (runTP (As := [.int 2]) (rest := [.int a3]) ⟨hx, hb, hml, hown, ht⟩ (sX3_limit l G cs 2 ) okT_RX10_321 ⟨by decide, by decide⟩ hK hP [] rfl hl.1 rfl (Nat.le_of_ble_eq_true rfl) dX10_tell_23 ⟨by decide, by decide⟩) hP hS hA (fun r6 H locs hr6 hP hS => ?_)
      refine lv_icmp_le (tgt := 32) hx hb dX10_tell_26 (by decide) (fun c7 => ?_) (fun c7 => ?_)
      · have zc7 := leK rfl rfl c7
        refine lv_aload_n hx hb dX10_tell_32 rfl (lv_at hl 0 rfl) ?_
        refine getF (v := .ref (qm 3)) hx hb ht hown hK hP iTX10 0 3 rfl rfl (by decide) fl_RX10_31 rfl dX10_tell_33 ?_
        refine getF (v := .int (Fms 2)) hx hb ht hown hK hP iTX8 3 2 rfl rfl (by decide) fl_RX10_105 rfl dX10_tell_36 ?_
        have zf8 : (0 : Int) ≤ (Fms 2).toInt ∧ (Fms 2).toInt ≤ 60 := hIms.1 2
        refine lv_if_le (tgt := 45) hx hb dX10_tell_39 (by decide) (fun c9 => ?_) (fun c9 => ?_)
        · have zc9 := leK rfl (show (0 : Int32).toInt = 0 by decide) c9
          refine lv_aload_n hx hb dX10_tell_45 rfl (lv_at hl 0 rfl) ?_
          refine getF (v := .ref (qm 3)) hx hb ht hown hK hP iTX10 0 3 rfl rfl (by decide) fl_RX10_31 rfl dX10_tell_46 ?_
          refine getF (v := .ref (qms 0)) hx hb ht hown hK hP iTX8 3 0 rfl rfl (by decide) fl_RX10_98 rfl dX10_tell_49 ?_
          refine lv_iload_n hx hb dX10_tell_52 rfl (lv_at hl 2 rfl) ?_
          refine behRr (runVP (As := [.int 2]) (rest := []) ⟨hx, hb, hml, hown, ht⟩ (sX3_column_2 l G cs (qms 0) qmh Fmh Amh Bmh Dmh hImh ) okV_RX10_124 ⟨by decide, by decide⟩ hK hP [5, 6, 7, 8, 9, 10, 11, 12] rfl 5 rfl rfl hl.1 rfl (Nat.le_of_ble_eq_true rfl) dX10_tell_53 ⟨by decide, by decide⟩) hP hS hA (fun H locs hP hS => ?_)
          refine lv_astore (lv' := [(4, .ref (qmh 9)), (0, .ref adm), (1, .int a1), (2, .int 2), (3, .int a3)]) hx hb dX10_tell_56 hl (by decide) rfl (fun ls hl => ?_)
          refine lv_aload hx hb dX10_tell_58 (lv_at hl 0 rfl) ?_
          refine lv_iload_n hx hb dX10_tell_60 rfl (lv_at hl 2 rfl) ?_
          refine va_iald hx hb hK.1 hP 8 0 rfl rfl (inK rfl (by omega) (by decide)) dX10_tell_61 ?_
          refine lv_topi (fun v10 ev10 => ?_)
          refine lv_istore (lv' := [(5, .int v10), (4, .ref (qmh 9)), (0, .ref adm), (1, .int a1), (2, .int 2), (3, .int a3)]) hx hb dX10_tell_62 hl (by decide) rfl (fun ls hl => ?_)
          refine lv_aload hx hb dX10_tell_64 (lv_at hl 1 rfl) ?_
          refine lv_iload_n hx hb dX10_tell_66 rfl (lv_at hl 3 rfl) ?_
          refine lv_iload_n hx hb dX10_tell_67 rfl (lv_at hl 5 rfl) ?_
          refine va_iast hx hb hK.1 hP hD hS 8 0 rfl rfl (inK rfl (by omega) (by decide)) dX10_tell_68 (fun H locs hP hD hS => ?_)
          obtain ⟨g11, hP, hD⟩ : ∃ g11 : Nat → Int32, va_P G vwCl ((uX10 cs adm qm Fm Am Bm Dm) ++ ((uX8 cs (qm 3) qms Fms Ams Bms Dms) ++ ((uX3 cs (qms 0) qmh Fmh (vA Amh 9 g11) Bmh Dmh) ++ (uX5 cs (qm 6) qmn Fmn Amn Bmn Dmn)))) H ∧ va_D A0 ((uX10 cs adm qm Fm Am Bm Dm) ++ ((uX8 cs (qm 3) qms Fms Ams Bms Dms) ++ ((uX3 cs (qms 0) qmh Fmh (vA Amh 9 g11) Bmh Dmh) ++ (uX5 cs (qm 6) qmn Fmn Amn Bmn Dmn)))) := ⟨upd (Amh 9) a1.toNatClampNeg a3, hP, hD⟩
          refine lv_aload_n hx hb dX10_tell_69 rfl (lv_at hl 2 rfl) ?_
          refine behDw (wr := ([] : va_W)) (runVD (As := []) (rest := []) ⟨hx, hb, hml, hown, ht⟩ (sX10_replay l G cs adm qm Fm Am Bm Dm hIm qms Fms Ams Bms Dms hIms qmh Fmh (vA Amh 9 g11) Bmh Dmh (IB_arr (k := 9) hImh (AJ_full _)) qmn Fmn Amn Bmn Dmn hImn ) okV_RX10_108 ⟨by decide, by decide⟩ hK hP hD [0, 1, 2, 3, 4, 5, 6, 7, 8, 9, 10, 11, 12, 13, 14, 15] rfl (by decide) rfl 0 rfl rfl hl.1 rfl (Nat.le_of_ble_eq_true rfl) dX10_tell_70 ⟨(Nat.le_of_ble_eq_true rfl), (Nat.le_of_ble_eq_true rfl)⟩) hP hD hS hA [0, 1, 2, 3, 4, 5, 6, 7, 8, 9, 10, 11, 12, 13, 14, 15] [] rfl rfl (by decide) (by decide) (fun u H locs hu hP hD hS => ?_)
          obtain ⟨x12, x13, g14, g15⟩ := u
          have hr16 := hu
          have hP : va_P G vwCl ((uX10 cs adm qm Fm Am Bm Dm) ++ ((uX8 cs (qm 3) qms Fms Ams Bms Dms) ++ ((uX3 cs (qms 0) qmh Fmh (vA Amh 9 g11) Bmh Dmh) ++ (uX5 cs (qm 6) qmn (upd (upd Fmn 2 x12) 3 x13) (vA (vA Amn 0 g14) 1 g15) Bmn Dmn)))) H := hP.sub [0, 1, 2, 3, 4, 5, 6, 7, 8, 9, 10, 11, 12, 13, 14, 15] rfl
          have hD : va_D A0 ((uX10 cs adm qm Fm Am Bm Dm) ++ ((uX8 cs (qm 3) qms Fms Ams Bms Dms) ++ ((uX3 cs (qms 0) qmh Fmh (vA Amh 9 g11) Bmh Dmh) ++ (uX5 cs (qm 6) qmn (upd (upd Fmn 2 x12) 3 x13) (vA (vA Amn 0 g14) 1 g15) Bmn Dmn)))) := hD.sub [0, 1, 2, 3, 4, 5, 6, 7, 8, 9, 10, 11, 12, 13, 14, 15] (by decide) rfl
          refine lv_iload hx hb dX10_tell_73 (lv_at hl 0 rfl) ?_
          exact retDi (x12, x13, g11, g14, g15) hx hb hr hlk hP hD hS dX10_tell_75 (trivial) (Nat.le_of_ble_eq_true rfl) (Nat.le_of_ble_eq_true rfl)
        · have zc9 := nleK rfl (show (0 : Int32).toInt = 0 by decide) c9
          refine lv_bipush (v := (-5)) hx hb dX10_tell_42 (by decide) ?_
          exact retDi ((Fmn 2), (Fmn 3), (Amh 9), (Amn 0), (Amn 1)) hx hb hr hlk hP hD hS dX10_tell_44 (trivial) (Nat.le_of_ble_eq_true rfl) (Nat.le_of_ble_eq_true rfl)
      · have zc7 := nleK rfl rfl c7
        refine lv_bipush (v := (-2)) hx hb dX10_tell_29 (by decide) ?_
        exact retDi ((Fmn 2), (Fmn 3), (Amh 9), (Amn 0), (Amn 1)) hx hb hr hlk hP hD hS dX10_tell_31 (trivial) (Nat.le_of_ble_eq_true rfl) (Nat.le_of_ble_eq_true rfl)

set_option maxRecDepth 100000 in
set_option maxHeartbeats 16000000 in
theorem sX10_tell_lo (l : Launch) (G : va_G) (cs : Nat → ClassId) (adm : Nat) (qm : Nat → Nat) (Fm : Nat → Int32) (Am : Nat → Nat → Int32) (Bm : Nat → Nat → Int64) (Dm : Int64) (hIm : IX10 Fm Am) (qms : Nat → Nat) (Fms : Nat → Int32) (Ams : Nat → Nat → Int32) (Bms : Nat → Nat → Int64) (Dms : Int64) (hIms : IX8 Fms Ams) (qmh : Nat → Nat) (Fmh : Nat → Int32) (Amh : Nat → Nat → Int32) (Bmh : Nat → Nat → Int64) (Dmh : Int64) (hImh : IX3 Fmh Amh) (qmn : Nat → Nat) (Fmn : Nat → Int32) (Amn : Nat → Nat → Int32) (Bmn : Nat → Nat → Int64) (Dmn : Int64) (hImn : IX5 Fmn Amn) (a1 : Int32) (a2 : Int32) (a3 : Int32) (ha2 : (-2147483648 : Int) ≤ a2.toInt ∧ a2.toInt ≤ -1) : ∀ sz : Nat, Met l yX10_tell (wk yX10_tell cX10_tell 6 (some .int)) (rmk 2 0 0) (PreP G (TY cs) [.ref adm, .int a1, .int a2, .int a3] ((uX10 cs adm qm Fm Am Bm Dm) ++ ((uX8 cs (qm 3) qms Fms Ams Bms Dms) ++ ((uX3 cs (qms 0) qmh Fmh Amh Bmh Dmh) ++ (uX5 cs (qm 6) qmn Fmn Amn Bmn Dmn)))) sz) (QRi (fun r : Int32 => True) sz) 0 0 (fun q => sz ≤ q) := by
  refine mkP (Qc := QRi (fun r : Int32 => True)) (by decide) (by simp [lg_sl, Value.category]) ?_
  intro p e s m args below meth c ls hx hb hml hr hlk hown ht hK hP hS hl
  have hl : lv_has ls 6 [(0, .ref adm), (1, .int a1), (2, .int a2), (3, .int a3)] := hl
  refine lv_aload_n hx hb dX10_tell_0 rfl (lv_at hl 0 rfl) ?_
  refine lv_iload_n hx hb dX10_tell_1 rfl (lv_at hl 1 rfl) ?_
  refine behR (runVP (As := [.int a1]) (rest := []) ⟨hx, hb, hml, hown, ht⟩ (sX10_isRoom l G cs adm qm Fm Am Bm Dm hIm qms Fms Ams Bms Dms hIms qmh Fmh Amh Bmh Dmh hImh a1 ) okV_RX10_120 ⟨by decide, by decide⟩ hK hP [0, 1, 2, 3, 4, 5, 6, 7, 8, 9, 10, 11, 12] rfl 0 rfl rfl hl.1 rfl (Nat.le_of_ble_eq_true rfl) dX10_tell_2 ⟨by decide, by decide⟩) hP hS (fun _ h => h) (fun r1 H locs hr1 hP hS => ?_)
  have hr1 : (r1.toInt = 1 ∧ 0 ≤ a1.toInt ∧ a1.toInt < (Fmh 5).toInt ∧ a1.toInt ≤ 6) ∨ r1.toInt = 0 := hr1
  refine lv_if_eq (tgt := 29) hx hb dX10_tell_5 (by decide) (fun c2 => ?_) (fun c2 => ?_)
  · have zc2 := eqK rfl (show (0 : Int32).toInt = 0 by decide) c2
    refine lv_bipush (v := (-2)) hx hb dX10_tell_29 (by decide) ?_
    exact retRi hx hb hr hlk hS dX10_tell_31 (trivial)
  · have zc2 := neK rfl (show (0 : Int32).toInt = 0 by decide) c2
    refine lv_iload_n hx hb dX10_tell_8 rfl (lv_at hl 2 rfl) ?_
    refine lv_if_lt (tgt := 29) hx hb dX10_tell_9 (by decide) (fun c3 => ?_) (fun c3 => False.elim (by have zz := nltK rfl (show (0 : Int32).toInt = 0 by decide) c3; omega))
    refine lv_bipush (v := (-2)) hx hb dX10_tell_29 (by decide) ?_
    exact retRi hx hb hr hlk hS dX10_tell_31 (trivial)

set_option maxRecDepth 100000 in
set_option maxHeartbeats 16000000 in
theorem sX10_tell_hi (l : Launch) (G : va_G) (cs : Nat → ClassId) (adm : Nat) (qm : Nat → Nat) (Fm : Nat → Int32) (Am : Nat → Nat → Int32) (Bm : Nat → Nat → Int64) (Dm : Int64) (hIm : IX10 Fm Am) (qms : Nat → Nat) (Fms : Nat → Int32) (Ams : Nat → Nat → Int32) (Bms : Nat → Nat → Int64) (Dms : Int64) (hIms : IX8 Fms Ams) (qmh : Nat → Nat) (Fmh : Nat → Int32) (Amh : Nat → Nat → Int32) (Bmh : Nat → Nat → Int64) (Dmh : Int64) (hImh : IX3 Fmh Amh) (qmn : Nat → Nat) (Fmn : Nat → Int32) (Amn : Nat → Nat → Int32) (Bmn : Nat → Nat → Int64) (Dmn : Int64) (hImn : IX5 Fmn Amn) (a1 : Int32) (a2 : Int32) (a3 : Int32) (ha2 : (3 : Int) ≤ a2.toInt ∧ a2.toInt ≤ 2147483647) : ∀ sz : Nat, Met l yX10_tell (wk yX10_tell cX10_tell 6 (some .int)) (rmk 2 0 0) (PreP G (TY cs) [.ref adm, .int a1, .int a2, .int a3] ((uX10 cs adm qm Fm Am Bm Dm) ++ ((uX8 cs (qm 3) qms Fms Ams Bms Dms) ++ ((uX3 cs (qms 0) qmh Fmh Amh Bmh Dmh) ++ (uX5 cs (qm 6) qmn Fmn Amn Bmn Dmn)))) sz) (QRi (fun r : Int32 => True) sz) 0 0 (fun q => sz ≤ q) := by
  refine mkP (Qc := QRi (fun r : Int32 => True)) (by decide) (by simp [lg_sl, Value.category]) ?_
  intro p e s m args below meth c ls hx hb hml hr hlk hown ht hK hP hS hl
  have hl : lv_has ls 6 [(0, .ref adm), (1, .int a1), (2, .int a2), (3, .int a3)] := hl
  refine lv_aload_n hx hb dX10_tell_0 rfl (lv_at hl 0 rfl) ?_
  refine lv_iload_n hx hb dX10_tell_1 rfl (lv_at hl 1 rfl) ?_
  refine behR (runVP (As := [.int a1]) (rest := []) ⟨hx, hb, hml, hown, ht⟩ (sX10_isRoom l G cs adm qm Fm Am Bm Dm hIm qms Fms Ams Bms Dms hIms qmh Fmh Amh Bmh Dmh hImh a1 ) okV_RX10_120 ⟨by decide, by decide⟩ hK hP [0, 1, 2, 3, 4, 5, 6, 7, 8, 9, 10, 11, 12] rfl 0 rfl rfl hl.1 rfl (Nat.le_of_ble_eq_true rfl) dX10_tell_2 ⟨by decide, by decide⟩) hP hS (fun _ h => h) (fun r1 H locs hr1 hP hS => ?_)
  have hr1 : (r1.toInt = 1 ∧ 0 ≤ a1.toInt ∧ a1.toInt < (Fmh 5).toInt ∧ a1.toInt ≤ 6) ∨ r1.toInt = 0 := hr1
  refine lv_if_eq (tgt := 29) hx hb dX10_tell_5 (by decide) (fun c2 => ?_) (fun c2 => ?_)
  · have zc2 := eqK rfl (show (0 : Int32).toInt = 0 by decide) c2
    refine lv_bipush (v := (-2)) hx hb dX10_tell_29 (by decide) ?_
    exact retRi hx hb hr hlk hS dX10_tell_31 (trivial)
  · have zc2 := neK rfl (show (0 : Int32).toInt = 0 by decide) c2
    refine lv_iload_n hx hb dX10_tell_8 rfl (lv_at hl 2 rfl) ?_
    refine lv_if_lt (tgt := 29) hx hb dX10_tell_9 (by decide) (fun c3 => False.elim (by have zz := ltK rfl (show (0 : Int32).toInt = 0 by decide) c3; omega)) (fun c3 => ?_)
    refine lv_iload_n hx hb dX10_tell_12 rfl (lv_at hl 2 rfl) ?_
    refine lv_iconst (v := 2) hx hb dX10_tell_13 (by decide) ?_
    refine lv_icmp_gt (tgt := 29) hx hb dX10_tell_14 (by decide) (fun c4 => ?_) (fun c4 => False.elim (by have zz := nltK (show (2 : Int32).toInt = 2 by decide) rfl c4; omega))
    refine lv_bipush (v := (-2)) hx hb dX10_tell_29 (by decide) ?_
    exact retRi hx hb hr hlk hS dX10_tell_31 (trivial)

set_option maxRecDepth 100000 in
set_option maxHeartbeats 16000000 in
theorem sX10_shut (l : Launch) (G : va_G) (cs : Nat → ClassId) (adm : Nat) (qm : Nat → Nat) (Fm : Nat → Int32) (Am : Nat → Nat → Int32) (Bm : Nat → Nat → Int64) (Dm : Int64) (hIm : IX10 Fm Am) (qms : Nat → Nat) (Fms : Nat → Int32) (Ams : Nat → Nat → Int32) (Bms : Nat → Nat → Int64) (Dms : Int64) (hIms : IX8 Fms Ams) (qmh : Nat → Nat) (Fmh : Nat → Int32) (Amh : Nat → Nat → Int32) (Bmh : Nat → Nat → Int64) (Dmh : Int64) (hImh : IX3 Fmh Amh) (a1 : Int32) (a2 : Int32) (a3 : Int32) : ∀ sz : Nat, Met l yX10_shut (wk yX10_shut cX10_shut 5 (some .int)) (rmk 2 0 0) (PreD G (TY cs) [.ref adm, .int a1, .int a2, .int a3] ((uX10 cs adm qm Fm Am Bm Dm) ++ ((uX8 cs (qm 3) qms Fms Ams Bms Dms) ++ (uX3 cs (qms 0) qmh Fmh Amh Bmh Dmh))) sz) ((QDi G (fun (r : Int32) (u : (Nat → Int32)) => AJ (0) 127 u ∧ (True)) (fun u : (Nat → Int32) => ((uX10 cs adm qm Fm Am Bm Dm) ++ ((uX8 cs (qm 3) qms Fms Ams Bms Dms) ++ (uX3 cs (qms 0) qmh Fmh (vA Amh 10 u) Bmh Dmh))))) (va_A ((uX10 cs adm qm Fm Am Bm Dm) ++ ((uX8 cs (qm 3) qms Fms Ams Bms Dms) ++ (uX3 cs (qms 0) qmh Fmh Amh Bmh Dmh))) sz)) 0 0 (va_A ((uX10 cs adm qm Fm Am Bm Dm) ++ ((uX8 cs (qm 3) qms Fms Ams Bms Dms) ++ (uX3 cs (qms 0) qmh Fmh Amh Bmh Dmh))) sz) := by
  refine mkD (Qc := (QDi G (fun (r : Int32) (u : (Nat → Int32)) => AJ (0) 127 u ∧ (True)) (fun u : (Nat → Int32) => ((uX10 cs adm qm Fm Am Bm Dm) ++ ((uX8 cs (qm 3) qms Fms Ams Bms Dms) ++ (uX3 cs (qms 0) qmh Fmh (vA Amh 10 u) Bmh Dmh)))))) (by decide) (by simp [lg_sl, Value.category]) ?_
  intro p e s m args below meth c ls A0 hx hb hml hr hlk hown hmn ht hK hP hD hS hA hl
  have hl : lv_has ls 5 [(0, .ref adm), (1, .int a1), (2, .int a2), (3, .int a3)] := hl
  refine lv_aload_n hx hb dX10_shut_0 rfl (lv_at hl 0 rfl) ?_
  refine lv_iload_n hx hb dX10_shut_1 rfl (lv_at hl 1 rfl) ?_
  refine behR (runVP (As := [.int a1]) (rest := []) ⟨hx, hb, hml, hown, ht⟩ (sX10_isRoom l G cs adm qm Fm Am Bm Dm hIm qms Fms Ams Bms Dms hIms qmh Fmh Amh Bmh Dmh hImh a1 ) okV_RX10_120 ⟨by decide, by decide⟩ hK hP [0, 1, 2, 3, 4, 5, 6, 7, 8, 9, 10, 11, 12] rfl 0 rfl rfl hl.1 rfl (Nat.le_of_ble_eq_true rfl) dX10_shut_2 ⟨by decide, by decide⟩) hP hS hA (fun r1 H locs hr1 hP hS => ?_)
  have hr1 : (r1.toInt = 1 ∧ 0 ≤ a1.toInt ∧ a1.toInt < (Fmh 5).toInt ∧ a1.toInt ≤ 6) ∨ r1.toInt = 0 := hr1
  refine lv_if_eq (tgt := 30) hx hb dX10_shut_5 (by decide) (fun c2 => ?_) (fun c2 => ?_)
  · have zc2 := eqK rfl (show (0 : Int32).toInt = 0 by decide) c2
    refine lv_bipush (v := (-2)) hx hb dX10_shut_30 (by decide) ?_
    exact retDi (Amh 10) hx hb hr hlk hP hD hS dX10_shut_32 (⟨fun j => hImh.2 10 j, trivial⟩) (Nat.le_of_ble_eq_true rfl) (Nat.le_of_ble_eq_true rfl)
  · have zc2 := neK rfl (show (0 : Int32).toInt = 0 by decide) c2
    refine lv_aload_n hx hb dX10_shut_8 rfl (lv_at hl 0 rfl) ?_
    refine lv_iload_n hx hb dX10_shut_9 rfl (lv_at hl 2 rfl) ?_
    refine behR (runVP (As := [.int a2]) (rest := []) ⟨hx, hb, hml, hown, ht⟩ (sX10_isRoom l G cs adm qm Fm Am Bm Dm hIm qms Fms Ams Bms Dms hIms qmh Fmh Amh Bmh Dmh hImh a2 ) okV_RX10_120 ⟨by decide, by decide⟩ hK hP [0, 1, 2, 3, 4, 5, 6, 7, 8, 9, 10, 11, 12] rfl 0 rfl rfl hl.1 rfl (Nat.le_of_ble_eq_true rfl) dX10_shut_10 ⟨by decide, by decide⟩) hP hS hA (fun r3 H locs hr3 hP hS => ?_)
    have hr3 : (r3.toInt = 1 ∧ 0 ≤ a2.toInt ∧ a2.toInt < (Fmh 5).toInt ∧ a2.toInt ≤ 6) ∨ r3.toInt = 0 := hr3
    refine lv_if_eq (tgt := 30) hx hb dX10_shut_13 (by decide) (fun c4 => ?_) (fun c4 => ?_)
    · have zc4 := eqK rfl (show (0 : Int32).toInt = 0 by decide) c4
      refine lv_bipush (v := (-2)) hx hb dX10_shut_30 (by decide) ?_
      exact retDi (Amh 10) hx hb hr hlk hP hD hS dX10_shut_32 (⟨fun j => hImh.2 10 j, trivial⟩) (Nat.le_of_ble_eq_true rfl) (Nat.le_of_ble_eq_true rfl)
    · have zc4 := neK rfl (show (0 : Int32).toInt = 0 by decide) c4
      refine lv_iload_n hx hb dX10_shut_16 rfl (lv_at hl 1 rfl) ?_
      refine lv_iload_n hx hb dX10_shut_17 rfl (lv_at hl 2 rfl) ?_
      refine lv_icmp_eq (tgt := 30) hx hb dX10_shut_18 (by decide) (fun c5 => ?_) (fun c5 => ?_)
      · have zc5 := eqK rfl rfl c5
        refine lv_bipush (v := (-2)) hx hb dX10_shut_30 (by decide) ?_
        exact retDi (Amh 10) hx hb hr hlk hP hD hS dX10_shut_32 (⟨fun j => hImh.2 10 j, trivial⟩) (Nat.le_of_ble_eq_true rfl) (Nat.le_of_ble_eq_true rfl)
      · have zc5 := neK rfl rfl c5
        refine lv_iload_n hx hb dX10_shut_21 rfl (lv_at hl 3 rfl) ?_
        refine lv_if_lt (tgt := 30) hx hb dX10_shut_22 (by decide) (fun c6 => ?_) (fun c6 => ?_)
        · have zc6 := ltK rfl (show (0 : Int32).toInt = 0 by decide) c6
          refine lv_bipush (v := (-2)) hx hb dX10_shut_30 (by decide) ?_
          exact retDi (Amh 10) hx hb hr hlk hP hD hS dX10_shut_32 (⟨fun j => hImh.2 10 j, trivial⟩) (Nat.le_of_ble_eq_true rfl) (Nat.le_of_ble_eq_true rfl)
        · have zc6 := nltK rfl (show (0 : Int32).toInt = 0 by decide) c6
          refine lv_iload_n hx hb dX10_shut_25 rfl (lv_at hl 3 rfl) ?_
          refine lv_iconst (v := 1) hx hb dX10_shut_26 (by decide) ?_
          refine lv_icmp_le (tgt := 33) hx hb dX10_shut_27 (by decide) (fun c7 => ?_) (fun c7 => ?_)
          · have zc7 := leK rfl (show (1 : Int32).toInt = 1 by decide) c7
            refine lv_aload_n hx hb dX10_shut_33 rfl (lv_at hl 0 rfl) ?_
            refine getF (v := .ref (qm 3)) hx hb ht hown hK hP iTX10 0 3 rfl rfl (by decide) fl_RX10_31 rfl dX10_shut_34 ?_
            refine getF (v := .int (Fms 2)) hx hb ht hown hK hP iTX8 3 2 rfl rfl (by decide) fl_RX10_105 rfl dX10_shut_37 ?_
            have zf8 : (0 : Int) ≤ (Fms 2).toInt ∧ (Fms 2).toInt ≤ 60 := hIms.1 2
            refine lv_if_le (tgt := 46) hx hb dX10_shut_40 (by decide) (fun c9 => ?_) (fun c9 => ?_)
            · have zc9 := leK rfl (show (0 : Int32).toInt = 0 by decide) c9
              refine lv_aload_n hx hb dX10_shut_46 rfl (lv_at hl 0 rfl) ?_
              refine getF (v := .ref (qm 3)) hx hb ht hown hK hP iTX10 0 3 rfl rfl (by decide) fl_RX10_31 rfl dX10_shut_47 ?_
              refine getF (v := .ref (qms 0)) hx hb ht hown hK hP iTX8 3 0 rfl rfl (by decide) fl_RX10_98 rfl dX10_shut_50 ?_
              refine lv_iload_n hx hb dX10_shut_53 rfl (lv_at hl 1 rfl) ?_
              refine lv_iload_n hx hb dX10_shut_54 rfl (lv_at hl 2 rfl) ?_
              refine behR (runVP (As := [.int a1, .int a2]) (rest := []) ⟨hx, hb, hml, hown, ht⟩ (sX3_isDoor l G cs (qms 0) qmh Fmh Amh Bmh Dmh hImh a1 a2 ) okV_RX10_324 ⟨by decide, by decide⟩ hK hP [5, 6, 7, 8, 9, 10, 11, 12] rfl 5 rfl rfl hl.1 rfl (Nat.le_of_ble_eq_true rfl) dX10_shut_55 ⟨by decide, by decide⟩) hP hS hA (fun r10 H locs hr10 hP hS => ?_)
              have hr10 : (0 : Int) ≤ r10.toInt ∧ r10.toInt ≤ 1 := hr10
              refine lv_istore (lv' := [(4, .int r10), (0, .ref adm), (1, .int a1), (2, .int a2), (3, .int a3)]) hx hb dX10_shut_58 hl (by decide) rfl (fun ls hl => ?_)
              refine lv_iload_n hx hb dX10_shut_60 rfl (lv_at hl 4 rfl) ?_
              refine lv_iconst (v := 1) hx hb dX10_shut_61 (by decide) ?_
              have B92 : ∀ (amh10_92 : (Nat → Int32)) (H : Heap) (locs : List Loc) (ls : Array Slot), AJ (0) 127 amh10_92 → va_P G vwCl ((uX10 cs adm qm Fm Am Bm Dm) ++ ((uX8 cs (qm 3) qms Fms Ams Bms Dms) ++ (uX3 cs (qms 0) qmh Fmh (vA Amh 10 amh10_92) Bmh Dmh))) H → va_D A0 ((uX10 cs adm qm Fm Am Bm Dm) ++ ((uX8 cs (qm 3) qms Fms Ams Bms Dms) ++ (uX3 cs (qms 0) qmh Fmh (vA Amh 10 amh10_92) Bmh Dmh))) → va_S A0 s.heap H locs → lv_has ls 5 [(4, .int r10)] → W p l e (rmk 2 0 0) s m args below meth c H locs 0 0 (MQ below ((QDi G (fun (r : Int32) (u : (Nat → Int32)) => AJ (0) 127 u ∧ (True)) (fun u : (Nat → Int32) => ((uX10 cs adm qm Fm Am Bm Dm) ++ ((uX8 cs (qm 3) qms Fms Ams Bms Dms) ++ (uX3 cs (qms 0) qmh Fmh (vA Amh 10 u) Bmh Dmh))))) A0) args s 0 0 A0) (F0 m 92 ls []) := by
                intro amh10_92 H locs ls hamh10_92 hP hD hS hl
                refine lv_iload hx hb dX10_shut_92 (lv_at hl 0 rfl) ?_
                refine lv_if_eq (tgt := 101) hx hb dX10_shut_94 (by decide) (fun c46001 => ?_) (fun c46001 => ?_)
                · have zc46001 := eqK rfl (show (0 : Int32).toInt = 0 by decide) c46001
                  refine lv_iconst (v := 0) hx hb dX10_shut_101 (by decide) ?_
                  exact retDi amh10_92 hx hb hr hlk hP hD hS dX10_shut_102 (⟨hamh10_92, trivial⟩) (Nat.le_of_ble_eq_true rfl) (Nat.le_of_ble_eq_true rfl)
                · have zc46001 := neK rfl (show (0 : Int32).toInt = 0 by decide) c46001
                  refine lv_iconst (v := 1) hx hb dX10_shut_97 (by decide) ?_
                  refine lv_goto (tgt := 102) hx hb dX10_shut_98 (by decide) ?_
                  exact retDi amh10_92 hx hb hr hlk hP hD hS dX10_shut_102 (⟨hamh10_92, trivial⟩) (Nat.le_of_ble_eq_true rfl) (Nat.le_of_ble_eq_true rfl)
              refine lv_icmp_ne (tgt := 80) hx hb dX10_shut_62 (by decide) (fun c11 => ?_) (fun c11 => ?_)
              · have zc11 := neK rfl (show (1 : Int32).toInt = 1 by decide) c11
                refine lv_aload_n hx hb dX10_shut_80 rfl (lv_at hl 1 rfl) ?_
                refine getF (v := .ref (qm 3)) hx hb ht hown hK hP iTX10 0 3 rfl rfl (by decide) fl_RX10_31 rfl dX10_shut_81 ?_
                refine getF (v := .ref (qms 0)) hx hb ht hown hK hP iTX8 3 0 rfl rfl (by decide) fl_RX10_98 rfl dX10_shut_84 ?_
                refine lv_iload_n hx hb dX10_shut_87 rfl (lv_at hl 2 rfl) ?_
                refine lv_iload_n hx hb dX10_shut_88 rfl (lv_at hl 3 rfl) ?_
                refine behDw (wr := ((uX10 cs adm qm Fm Am Bm Dm) ++ (uX8 cs (qm 3) qms Fms Ams Bms Dms))) (runVD (As := [.int a1, .int a2]) (rest := []) ⟨hx, hb, hml, hown, ht⟩ (sX3_closeDoor l G cs (qms 0) qmh Fmh Amh Bmh Dmh hImh a1 a2 ) okV_RX10_332 ⟨by decide, by decide⟩ hK hP hD [5, 6, 7, 8, 9, 10, 11, 12] rfl (by decide) rfl 5 rfl rfl hl.1 rfl (Nat.le_of_ble_eq_true rfl) dX10_shut_89 ⟨(Nat.le_of_ble_eq_true rfl), (Nat.le_of_ble_eq_true rfl)⟩) hP hD hS hA [5, 6, 7, 8, 9, 10, 11, 12] [0, 1, 2, 3, 4] rfl rfl (by decide) (by decide) (fun u H locs hu hP hD hS => ?_)
                obtain ⟨g12, rfl⟩ : ∃ z, z = u := ⟨_, rfl⟩
                obtain ⟨hg12, hr13⟩ := hu
                have hg12 : AJ (0) 127 g12 := hg12
                have hP : va_P G vwCl ((uX10 cs adm qm Fm Am Bm Dm) ++ ((uX8 cs (qm 3) qms Fms Ams Bms Dms) ++ (uX3 cs (qms 0) qmh Fmh (vA Amh 10 g12) Bmh Dmh))) H := hP.sub [0, 1, 2, 3, 4, 5, 6, 7, 8, 9, 10, 11, 12] rfl
                have hD : va_D A0 ((uX10 cs adm qm Fm Am Bm Dm) ++ ((uX8 cs (qm 3) qms Fms Ams Bms Dms) ++ (uX3 cs (qms 0) qmh Fmh (vA Amh 10 g12) Bmh Dmh))) := hD.sub [0, 1, 2, 3, 4, 5, 6, 7, 8, 9, 10, 11, 12] (by decide) rfl
                exact B92 g12 H locs ls hg12 hP hD hS (lv_sub hl [0] rfl)
              · have zc11 := eqK rfl (show (1 : Int32).toInt = 1 by decide) c11
                refine lv_aload_n hx hb dX10_shut_65 rfl (lv_at hl 1 rfl) ?_
                refine getF (v := .ref (qm 3)) hx hb ht hown hK hP iTX10 0 3 rfl rfl (by decide) fl_RX10_31 rfl dX10_shut_66 ?_
                refine getF (v := .ref (qms 0)) hx hb ht hown hK hP iTX8 3 0 rfl rfl (by decide) fl_RX10_98 rfl dX10_shut_69 ?_
                refine lv_iload_n hx hb dX10_shut_72 rfl (lv_at hl 2 rfl) ?_
                refine lv_iload_n hx hb dX10_shut_73 rfl (lv_at hl 3 rfl) ?_
                refine behDw (wr := ((uX10 cs adm qm Fm Am Bm Dm) ++ (uX8 cs (qm 3) qms Fms Ams Bms Dms))) (runVD (As := [.int a1, .int a2]) (rest := []) ⟨hx, hb, hml, hown, ht⟩ (sX3_openDoor l G cs (qms 0) qmh Fmh Amh Bmh Dmh hImh a1 a2 ) okV_RX10_328 ⟨by decide, by decide⟩ hK hP hD [5, 6, 7, 8, 9, 10, 11, 12] rfl (by decide) rfl 5 rfl rfl hl.1 rfl (Nat.le_of_ble_eq_true rfl) dX10_shut_74 ⟨(Nat.le_of_ble_eq_true rfl), (Nat.le_of_ble_eq_true rfl)⟩) hP hD hS hA [5, 6, 7, 8, 9, 10, 11, 12] [0, 1, 2, 3, 4] rfl rfl (by decide) (by decide) (fun u H locs hu hP hD hS => ?_)
                obtain ⟨g14, rfl⟩ : ∃ z, z = u := ⟨_, rfl⟩
                obtain ⟨hg14, hr15⟩ := hu
                have hg14 : AJ (0) 127 g14 := hg14
                have hP : va_P G vwCl ((uX10 cs adm qm Fm Am Bm Dm) ++ ((uX8 cs (qm 3) qms Fms Ams Bms Dms) ++ (uX3 cs (qms 0) qmh Fmh (vA Amh 10 g14) Bmh Dmh))) H := hP.sub [0, 1, 2, 3, 4, 5, 6, 7, 8, 9, 10, 11, 12] rfl
                have hD : va_D A0 ((uX10 cs adm qm Fm Am Bm Dm) ++ ((uX8 cs (qm 3) qms Fms Ams Bms Dms) ++ (uX3 cs (qms 0) qmh Fmh (vA Amh 10 g14) Bmh Dmh))) := hD.sub [0, 1, 2, 3, 4, 5, 6, 7, 8, 9, 10, 11, 12] (by decide) rfl
                refine lv_goto (tgt := 92) hx hb dX10_shut_77 (by decide) ?_
                exact B92 g14 H locs ls hg14 hP hD hS (lv_sub hl [0] rfl)
            · have zc9 := nleK rfl (show (0 : Int32).toInt = 0 by decide) c9
              refine lv_bipush (v := (-5)) hx hb dX10_shut_43 (by decide) ?_
              exact retDi (Amh 10) hx hb hr hlk hP hD hS dX10_shut_45 (⟨fun j => hImh.2 10 j, trivial⟩) (Nat.le_of_ble_eq_true rfl) (Nat.le_of_ble_eq_true rfl)
          · have zc7 := nleK rfl (show (1 : Int32).toInt = 1 by decide) c7
            refine lv_bipush (v := (-2)) hx hb dX10_shut_30 (by decide) ?_
            exact retDi (Amh 10) hx hb hr hlk hP hD hS dX10_shut_32 (⟨fun j => hImh.2 10 j, trivial⟩) (Nat.le_of_ble_eq_true rfl) (Nat.le_of_ble_eq_true rfl)

set_option maxRecDepth 100000 in
set_option maxHeartbeats 16000000 in
theorem sX10_count (l : Launch) (G : va_G) (cs : Nat → ClassId) (adm : Nat) (qm : Nat → Nat) (Fm : Nat → Int32) (Am : Nat → Nat → Int32) (Bm : Nat → Nat → Int64) (Dm : Int64) (hIm : IX10 Fm Am) (qms : Nat → Nat) (Fms : Nat → Int32) (Ams : Nat → Nat → Int32) (Bms : Nat → Nat → Int64) (Dms : Int64) (hIms : IX8 Fms Ams) (qmh : Nat → Nat) (Fmh : Nat → Int32) (Amh : Nat → Nat → Int32) (Bmh : Nat → Nat → Int64) (Dmh : Int64) (hImh : IX3 Fmh Amh) (qmt : Nat → Nat) (Fmt : Nat → Int32) (Amt : Nat → Nat → Int32) (Bmt : Nat → Nat → Int64) (Dmt : Int64) (hImt : IX9 Fmt Amt) (qr0 : Nat → Nat) (Fr0 : Nat → Int32) (Ar0 : Nat → Nat → Int32) (Br0 : Nat → Nat → Int64) (Dr0 : Int64) (hIr0 : IX7 Fr0 Ar0) (qr1 : Nat → Nat) (Fr1 : Nat → Int32) (Ar1 : Nat → Nat → Int32) (Br1 : Nat → Nat → Int64) (Dr1 : Int64) (hIr1 : IX7 Fr1 Ar1) (qr2 : Nat → Nat) (Fr2 : Nat → Int32) (Ar2 : Nat → Nat → Int32) (Br2 : Nat → Nat → Int64) (Dr2 : Int64) (hIr2 : IX7 Fr2 Ar2) (qr3 : Nat → Nat) (Fr3 : Nat → Int32) (Ar3 : Nat → Nat → Int32) (Br3 : Nat → Nat → Int64) (Dr3 : Int64) (hIr3 : IX7 Fr3 Ar3) (a1 : Int32) : ∀ sz : Nat, Met l yX10_count (wk yX10_count cX10_count 2 (some .int)) (rmk 2 0 0) (PreP G (TY cs) [.ref adm, .int a1] ((uX10 cs adm qm Fm Am Bm Dm) ++ ((uX8 cs (qm 3) qms Fms Ams Bms Dms) ++ ((uX3 cs (qms 0) qmh Fmh Amh Bmh Dmh) ++ ((uX9 cs (qm 1) qmt Fmt Amt Bmt Dmt) ++ ((uX7 cs (qm 20) qr0 Fr0 Ar0 Br0 Dr0) ++ ((uX7 cs (qm 21) qr1 Fr1 Ar1 Br1 Dr1) ++ ((uX7 cs (qm 22) qr2 Fr2 Ar2 Br2 Dr2) ++ (uX7 cs (qm 23) qr3 Fr3 Ar3 Br3 Dr3)))))))) sz) (QRi (fun r : Int32 => True) sz) 0 0 (fun q => sz ≤ q) := by
  refine mkP (Qc := QRi (fun r : Int32 => True)) (by decide) (by simp [lg_sl, Value.category]) ?_
  intro p e s m args below meth c ls hx hb hml hr hlk hown ht hK hP hS hl
  have hl : lv_has ls 2 [(0, .ref adm), (1, .int a1)] := hl
  refine lv_iload_n hx hb dX10_count_0 rfl (lv_at hl 1 rfl) ?_
  rcases csN8 a1 with hN | hN | rfl | rfl | rfl | rfl | rfl | rfl | rfl | rfl
  · refine lv_tableOut (tgt := 128) hx hb dX10_count_1 (by left; omega) (by decide) ?_
    refine lv_iconst (v := (-1)) hx hb dX10_count_128 (by decide) ?_
    exact retRi hx hb hr hlk hS dX10_count_129 (trivial)
  · refine lv_tableOut (tgt := 128) hx hb dX10_count_1 (by right; omega) (by decide) ?_
    refine lv_iconst (v := (-1)) hx hb dX10_count_128 (by decide) ?_
    exact retRi hx hb hr hlk hS dX10_count_129 (trivial)
  · refine lv_tableIn (off := 47) (tgt := 48) hx hb dX10_count_1 (by decide) (by decide) (by decide) (by decide) ?_
    refine lv_aload_n hx hb dX10_count_48 rfl (lv_at hl 0 rfl) ?_
    refine getF (v := .ref (qm 3)) hx hb ht hown hK hP iTX10 0 3 rfl rfl (by decide) fl_RX10_31 rfl dX10_count_49 ?_
    refine getF (v := .ref (qms 0)) hx hb ht hown hK hP iTX8 3 0 rfl rfl (by decide) fl_RX10_98 rfl dX10_count_52 ?_
    refine getF (v := .int (Fmh 5)) hx hb ht hown hK hP iTX3 5 5 rfl rfl (by decide) fl_RX10_159 rfl dX10_count_55 ?_
    have zf1 : (0 : Int) ≤ (Fmh 5).toInt ∧ (Fmh 5).toInt ≤ 7 := hImh.1 5
    exact retRi hx hb hr hlk hS dX10_count_58 (trivial)
  · refine lv_tableIn (off := 58) (tgt := 59) hx hb dX10_count_1 (by decide) (by decide) (by decide) (by decide) ?_
    refine lv_aload_n hx hb dX10_count_59 rfl (lv_at hl 0 rfl) ?_
    refine getF (v := .ref (qm 3)) hx hb ht hown hK hP iTX10 0 3 rfl rfl (by decide) fl_RX10_31 rfl dX10_count_60 ?_
    refine getF (v := .ref (qms 0)) hx hb ht hown hK hP iTX8 3 0 rfl rfl (by decide) fl_RX10_98 rfl dX10_count_63 ?_
    refine behR (runVP (As := []) (rest := []) ⟨hx, hb, hml, hown, ht⟩ (sX3_countDoors l G cs (qms 0) qmh Fmh Amh Bmh Dmh hImh ) okV_RX10_335 ⟨by decide, by decide⟩ hK hP [5, 6, 7, 8, 9, 10, 11, 12] rfl 5 rfl rfl hl.1 rfl (Nat.le_of_ble_eq_true rfl) dX10_count_66 ⟨by decide, by decide⟩) hP hS (fun _ h => h) (fun r2 H locs hr2 hP hS => ?_)
    exact retRi hx hb hr hlk hS dX10_count_69 (trivial)
  · refine lv_tableIn (off := 69) (tgt := 70) hx hb dX10_count_1 (by decide) (by decide) (by decide) (by decide) ?_
    refine lv_aload_n hx hb dX10_count_70 rfl (lv_at hl 0 rfl) ?_
    refine getF (v := .ref (qm 3)) hx hb ht hown hK hP iTX10 0 3 rfl rfl (by decide) fl_RX10_31 rfl dX10_count_71 ?_
    refine getF (v := .ref (qms 0)) hx hb ht hown hK hP iTX8 3 0 rfl rfl (by decide) fl_RX10_98 rfl dX10_count_74 ?_
    refine getF (v := .int (Fmh 6)) hx hb ht hown hK hP iTX3 5 6 rfl rfl (by decide) fl_RX10_283 rfl dX10_count_77 ?_
    have zf3 : (0 : Int) ≤ (Fmh 6).toInt ∧ (Fmh 6).toInt ≤ 6 := hImh.1 6
    exact retRi hx hb hr hlk hS dX10_count_80 (trivial)
  · refine lv_tableIn (off := 80) (tgt := 81) hx hb dX10_count_1 (by decide) (by decide) (by decide) (by decide) ?_
    refine lv_aload_n hx hb dX10_count_81 rfl (lv_at hl 0 rfl) ?_
    refine lv_aload_n hx hb dX10_count_82 rfl (lv_at hl 0 rfl) ?_
    refine getF (v := .ref (qm 3)) hx hb ht hown hK hP iTX10 0 3 rfl rfl (by decide) fl_RX10_31 rfl dX10_count_83 ?_
    refine getF (v := .ref (qms 0)) hx hb ht hown hK hP iTX8 3 0 rfl rfl (by decide) fl_RX10_98 rfl dX10_count_86 ?_
    refine behR (runVP (As := []) (rest := [.ref adm]) ⟨hx, hb, hml, hown, ht⟩ (sX3_allRooms l G cs (qms 0) qmh Fmh Amh Bmh Dmh hImh ) okV_RX10_238 ⟨by decide, by decide⟩ hK hP [5, 6, 7, 8, 9, 10, 11, 12] rfl 5 rfl rfl hl.1 rfl (Nat.le_of_ble_eq_true rfl) dX10_count_89 ⟨by decide, by decide⟩) hP hS (fun _ h => h) (fun r4 H locs hr4 hP hS => ?_)
    have hr4 : (0 : Int) ≤ r4.toInt ∧ r4.toInt ≤ 127 := hr4
    refine behR (runVP (As := [.int r4]) (rest := []) ⟨hx, hb, hml, hown, ht⟩ (sX10_peopleOf l G cs adm qm Fm Am Bm Dm hIm qms Fms Ams Bms Dms hIms qmh Fmh Amh Bmh Dmh hImh r4 ) okV_RX10_247 ⟨by decide, by decide⟩ hK hP [0, 1, 2, 3, 4, 5, 6, 7, 8, 9, 10, 11, 12] rfl 0 rfl rfl hl.1 rfl (Nat.le_of_ble_eq_true rfl) dX10_count_92 ⟨by decide, by decide⟩) hP hS (fun _ h => h) (fun r5 H locs hr5 hP hS => ?_)
    exact retRi hx hb hr hlk hS dX10_count_95 (trivial)
  · refine lv_tableIn (off := 95) (tgt := 96) hx hb dX10_count_1 (by decide) (by decide) (by decide) (by decide) ?_
    refine lv_aload_n hx hb dX10_count_96 rfl (lv_at hl 0 rfl) ?_
    refine getF (v := .ref (qm 3)) hx hb ht hown hK hP iTX10 0 3 rfl rfl (by decide) fl_RX10_31 rfl dX10_count_97 ?_
    refine getF (v := .ref (qms 0)) hx hb ht hown hK hP iTX8 3 0 rfl rfl (by decide) fl_RX10_98 rfl dX10_count_100 ?_
    refine getF (v := .int (Fmh 0)) hx hb ht hown hK hP iTX3 5 0 rfl rfl (by decide) fl_RX10_111 rfl dX10_count_103 ?_
    exact retRi hx hb hr hlk hS dX10_count_106 (trivial)
  · refine lv_tableIn (off := 106) (tgt := 107) hx hb dX10_count_1 (by decide) (by decide) (by decide) (by decide) ?_
    refine lv_aload_n hx hb dX10_count_107 rfl (lv_at hl 0 rfl) ?_
    refine getF (v := .ref (qm 1)) hx hb ht hown hK hP iTX10 0 1 rfl rfl (by decide) fl_RX10_20 rfl dX10_count_108 ?_
    refine getF (v := .int (Fmt 1)) hx hb ht hown hK hP iTX9 13 1 rfl rfl (by decide) fl_RX10_84 rfl dX10_count_111 ?_
    have zf6 : (0 : Int) ≤ (Fmt 1).toInt ∧ (Fmt 1).toInt ≤ 900 := hImt.1 1
    exact retRi hx hb hr hlk hS dX10_count_114 (trivial)
  · refine lv_tableIn (off := 114) (tgt := 115) hx hb dX10_count_1 (by decide) (by decide) (by decide) (by decide) ?_
    refine lv_aload_n hx hb dX10_count_115 rfl (lv_at hl 0 rfl) ?_
    refine getF (v := .ref (qm 3)) hx hb ht hown hK hP iTX10 0 3 rfl rfl (by decide) fl_RX10_31 rfl dX10_count_116 ?_
    refine getF (v := .int (Fms 2)) hx hb ht hown hK hP iTX8 3 2 rfl rfl (by decide) fl_RX10_105 rfl dX10_count_119 ?_
    have zf7 : (0 : Int) ≤ (Fms 2).toInt ∧ (Fms 2).toInt ≤ 60 := hIms.1 2
    exact retRi hx hb hr hlk hS dX10_count_122 (trivial)
  · refine lv_tableIn (off := 122) (tgt := 123) hx hb dX10_count_1 (by decide) (by decide) (by decide) (by decide) ?_
    refine lv_aload_n hx hb dX10_count_123 rfl (lv_at hl 0 rfl) ?_
    refine behR (runVP (As := []) (rest := []) ⟨hx, hb, hml, hown, ht⟩ (sX10_countRows l G cs adm qm Fm Am Bm Dm hIm qr0 Fr0 Ar0 Br0 Dr0 hIr0 qr1 Fr1 Ar1 Br1 Dr1 hIr1 qr2 Fr2 Ar2 Br2 Dr2 hIr2 qr3 Fr3 Ar3 Br3 Dr3 hIr3 ) okV_RX10_338 ⟨by decide, by decide⟩ hK hP [0, 1, 2, 15, 16, 17, 18, 19, 20, 21, 22] rfl 0 rfl rfl hl.1 rfl (Nat.le_of_ble_eq_true rfl) dX10_count_124 ⟨by decide, by decide⟩) hP hS (fun _ h => h) (fun r8 H locs hr8 hP hS => ?_)
    exact retRi hx hb hr hlk hS dX10_count_127 (trivial)

