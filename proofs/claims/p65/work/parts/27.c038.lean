set_option maxRecDepth 100000 in
set_option maxHeartbeats 16000000 in
theorem sX10_stop_hi (l : Launch) (G : va_G) (cs : Nat → ClassId) (adm : Nat) (qm : Nat → Nat) (Fm : Nat → Int32) (Am : Nat → Nat → Int32) (Bm : Nat → Nat → Int64) (Dm : Int64) (hIm : IX10 Fm Am) (qms : Nat → Nat) (Fms : Nat → Int32) (Ams : Nat → Nat → Int32) (Bms : Nat → Nat → Int64) (Dms : Int64) (hIms : IX8 Fms Ams) (qmh : Nat → Nat) (Fmh : Nat → Int32) (Amh : Nat → Nat → Int32) (Bmh : Nat → Nat → Int64) (Dmh : Int64) (hImh : IX3 Fmh Amh) (qmn : Nat → Nat) (Fmn : Nat → Int32) (Amn : Nat → Nat → Int32) (Bmn : Nat → Nat → Int64) (Dmn : Int64) (hImn : IX5 Fmn Amn) (qmw : Nat → Nat) (Fmw : Nat → Int32) (Amw : Nat → Nat → Int32) (Bmw : Nat → Nat → Int64) (Dmw : Int64) (hImw : IX5 Fmw Amw) (a1 : Int32) (ha1 : (4 : Int) ≤ a1.toInt ∧ a1.toInt ≤ 2147483647) : ∀ sz : Nat, Met l yX10_stop (wk yX10_stop cX10_stop 8 (some .int)) (rmk 3 0 0) (PreD G (TY cs) [.ref adm, .int a1] ((uX10 cs adm qm Fm Am Bm Dm) ++ ((uX8 cs (qm 3) qms Fms Ams Bms Dms) ++ ((uX3 cs (qms 0) qmh Fmh Amh Bmh Dmh) ++ ((uX5 cs (qm 6) qmn Fmn Amn Bmn Dmn) ++ (uX5 cs (qm 7) qmw Fmw Amw Bmw Dmw))))) sz) ((QDi G (fun (r : Int32) (u : Unit) => True) (fun u : Unit => ((uX10 cs adm qm Fm Am Bm Dm) ++ ((uX8 cs (qm 3) qms Fms Ams Bms Dms) ++ ((uX3 cs (qms 0) qmh Fmh Amh Bmh Dmh) ++ ((uX5 cs (qm 6) qmn Fmn Amn Bmn Dmn) ++ (uX5 cs (qm 7) qmw Fmw Amw Bmw Dmw))))))) (va_A ((uX10 cs adm qm Fm Am Bm Dm) ++ ((uX8 cs (qm 3) qms Fms Ams Bms Dms) ++ ((uX3 cs (qms 0) qmh Fmh Amh Bmh Dmh) ++ ((uX5 cs (qm 6) qmn Fmn Amn Bmn Dmn) ++ (uX5 cs (qm 7) qmw Fmw Amw Bmw Dmw))))) sz)) 0 0 (va_A ((uX10 cs adm qm Fm Am Bm Dm) ++ ((uX8 cs (qm 3) qms Fms Ams Bms Dms) ++ ((uX3 cs (qms 0) qmh Fmh Amh Bmh Dmh) ++ ((uX5 cs (qm 6) qmn Fmn Amn Bmn Dmn) ++ (uX5 cs (qm 7) qmw Fmw Amw Bmw Dmw))))) sz) := by
  refine mkD (Qc := (QDi G (fun (r : Int32) (u : Unit) => True) (fun u : Unit => ((uX10 cs adm qm Fm Am Bm Dm) ++ ((uX8 cs (qm 3) qms Fms Ams Bms Dms) ++ ((uX3 cs (qms 0) qmh Fmh Amh Bmh Dmh) ++ ((uX5 cs (qm 6) qmn Fmn Amn Bmn Dmn) ++ (uX5 cs (qm 7) qmw Fmw Amw Bmw Dmw)))))))) (by decide) (by simp [lg_sl, Value.category]) ?_
  intro p e s m args below meth c ls A0 hx hb hml hr hlk hown hmn ht hK hP hD hS hA hl
  have hl : lv_has ls 8 [(0, .ref adm), (1, .int a1)] := hl
  refine lv_aload_n hx hb dX10_stop_0 rfl (lv_at hl 0 rfl) ?_
  refine lv_iload_n hx hb dX10_stop_1 rfl (lv_at hl 1 rfl) ?_
  refine lv_iconst (v := 1) hx hb dX10_stop_2 (by decide) ?_
  have bb1 := i32b a1
  refine behR (runVP (As := [.int a1, .int 1]) (rest := []) ⟨hx, hb, hml, hown, ht⟩ (sX10_askRound_hi l G cs adm qm Fm Am Bm Dm hIm qms Fms Ams Bms Dms hIms qmh Fmh Amh Bmh Dmh hImh a1 1 (by omega) (by decide)) okV_RX10_186 ⟨by decide, by decide⟩ hK hP [0, 1, 2, 3, 4, 5, 6, 7, 8, 9, 10, 11, 12] rfl 0 rfl rfl hl.1 rfl (Nat.le_of_ble_eq_true rfl) dX10_stop_3 ⟨by decide, by decide⟩) hP hS hA (fun r2 H locs hr2 hP hS => ?_)
  have kk3 : (1 : Int32).toInt = 1 := by decide
  have hr2 : r2.toInt = -2 := hr2
  refine lv_istore_n (lv' := [(2, .int r2), (0, .ref adm), (1, .int a1)]) hx hb dX10_stop_6 rfl hl (by decide) rfl (fun ls hl => ?_)
  refine lv_iload_n hx hb dX10_stop_7 rfl (lv_at hl 0 rfl) ?_
  refine lv_if_eq (tgt := 13) hx hb dX10_stop_8 (by decide) (fun c4 => False.elim (by have zz := eqK rfl (show (0 : Int32).toInt = 0 by decide) c4; omega)) (fun c4 => ?_)
  refine lv_iload_n hx hb dX10_stop_11 rfl (lv_at hl 0 rfl) ?_
  exact retDi () hx hb hr hlk hP hD hS dX10_stop_12 (trivial) (Nat.le_of_ble_eq_true rfl) (Nat.le_of_ble_eq_true rfl)

set_option maxRecDepth 100000 in
set_option maxHeartbeats 16000000 in
theorem sX10_penny_0 (l : Launch) (G : va_G) (cs : Nat → ClassId) (adm : Nat) (qm : Nat → Nat) (Fm : Nat → Int32) (Am : Nat → Nat → Int32) (Bm : Nat → Nat → Int64) (Dm : Int64) (hIm : IX10 Fm Am) (qms : Nat → Nat) (Fms : Nat → Int32) (Ams : Nat → Nat → Int32) (Bms : Nat → Nat → Int64) (Dms : Int64) (hIms : IX8 Fms Ams) (qmh : Nat → Nat) (Fmh : Nat → Int32) (Amh : Nat → Nat → Int32) (Bmh : Nat → Nat → Int64) (Dmh : Int64) (hImh : IX3 Fmh Amh) (qmn : Nat → Nat) (Fmn : Nat → Int32) (Amn : Nat → Nat → Int32) (Bmn : Nat → Nat → Int64) (Dmn : Int64) (hImn : IX5 Fmn Amn) (qmw : Nat → Nat) (Fmw : Nat → Int32) (Amw : Nat → Nat → Int32) (Bmw : Nat → Nat → Int64) (Dmw : Int64) (hImw : IX5 Fmw Amw) (qr0 : Nat → Nat) (Fr0 : Nat → Int32) (Ar0 : Nat → Nat → Int32) (Br0 : Nat → Nat → Int64) (Dr0 : Int64) (hIr0 : IX7 Fr0 Ar0) : ∀ sz : Nat, Met l yX10_penny (wk yX10_penny cX10_penny 9 (some .int)) (rmk 5 0 0) (PreD G (TY cs) [.ref adm, .int 0] ((uX10 cs adm qm Fm Am Bm Dm) ++ ((uX8 cs (qm 3) qms Fms Ams Bms Dms) ++ ((uX3 cs (qms 0) qmh Fmh Amh Bmh Dmh) ++ ((uX5 cs (qm 6) qmn Fmn Amn Bmn Dmn) ++ ((uX5 cs (qm 7) qmw Fmw Amw Bmw Dmw) ++ (uX7 cs (qm 20) qr0 Fr0 Ar0 Br0 Dr0)))))) sz) ((QDi G (fun (r : Int32) (u : Int32 × Int32 × (Nat → Int32) × (Nat → Int32)) => True) (fun u : Int32 × Int32 × (Nat → Int32) × (Nat → Int32) => ((uX10 cs adm qm Fm Am Bm Dm) ++ ((uX8 cs (qm 3) qms Fms Ams Bms Dms) ++ ((uX3 cs (qms 0) qmh Fmh Amh Bmh Dmh) ++ ((uX5 cs (qm 6) qmn Fmn Amn Bmn Dmn) ++ ((wX5 cs (qm 7) qmw (upd (upd Fmw 2 u.1) 3 u.2.1) (vA (vA Amw 0 u.2.2.1) 1 u.2.2.2) Bmw Dmw) ++ (uX7 cs (qm 20) qr0 Fr0 Ar0 Br0 Dr0)))))))) (va_A ((uX10 cs adm qm Fm Am Bm Dm) ++ ((uX8 cs (qm 3) qms Fms Ams Bms Dms) ++ ((uX3 cs (qms 0) qmh Fmh Amh Bmh Dmh) ++ ((uX5 cs (qm 6) qmn Fmn Amn Bmn Dmn) ++ ((uX5 cs (qm 7) qmw Fmw Amw Bmw Dmw) ++ (uX7 cs (qm 20) qr0 Fr0 Ar0 Br0 Dr0)))))) sz)) 0 0 (va_A ((uX10 cs adm qm Fm Am Bm Dm) ++ ((uX8 cs (qm 3) qms Fms Ams Bms Dms) ++ ((uX3 cs (qms 0) qmh Fmh Amh Bmh Dmh) ++ ((uX5 cs (qm 6) qmn Fmn Amn Bmn Dmn) ++ ((uX5 cs (qm 7) qmw Fmw Amw Bmw Dmw) ++ (uX7 cs (qm 20) qr0 Fr0 Ar0 Br0 Dr0)))))) sz) := by
  refine mkD (Qc := (QDi G (fun (r : Int32) (u : Int32 × Int32 × (Nat → Int32) × (Nat → Int32)) => True) (fun u : Int32 × Int32 × (Nat → Int32) × (Nat → Int32) => ((uX10 cs adm qm Fm Am Bm Dm) ++ ((uX8 cs (qm 3) qms Fms Ams Bms Dms) ++ ((uX3 cs (qms 0) qmh Fmh Amh Bmh Dmh) ++ ((uX5 cs (qm 6) qmn Fmn Amn Bmn Dmn) ++ ((wX5 cs (qm 7) qmw (upd (upd Fmw 2 u.1) 3 u.2.1) (vA (vA Amw 0 u.2.2.1) 1 u.2.2.2) Bmw Dmw) ++ (uX7 cs (qm 20) qr0 Fr0 Ar0 Br0 Dr0))))))))) (by decide) (by simp [lg_sl, Value.category]) ?_
  intro p e s m args below meth c ls A0 hx hb hml hr hlk hown hmn ht hK hP hD hS hA hl
  have hl : lv_has ls 9 [(0, .ref adm), (1, .int 0)] := hl
  refine lv_aload_n hx hb dX10_penny_0 rfl (lv_at hl 0 rfl) ?_
  refine lv_iload_n hx hb dX10_penny_1 rfl (lv_at hl 1 rfl) ?_
  refine lv_iconst (v := 1) hx hb dX10_penny_2 (by decide) ?_
  refine behR (runVP (As := [.int 0, .int 1]) (rest := []) ⟨hx, hb, hml, hown, ht⟩ (sX10_askRound_0 l G cs adm qm Fm Am Bm Dm hIm qms Fms Ams Bms Dms hIms qmh Fmh Amh Bmh Dmh hImh qr0 Fr0 Ar0 Br0 Dr0 hIr0 1 (by decide)) okV_RX10_186 ⟨by decide, by decide⟩ hK hP [0, 1, 2, 3, 4, 5, 6, 7, 8, 9, 10, 11, 12, 19, 20] rfl 0 rfl rfl hl.1 rfl (Nat.le_of_ble_eq_true rfl) dX10_penny_3 ⟨by decide, by decide⟩) hP hS hA (fun r1 H locs hr1 hP hS => ?_)
  have kk2 : (0 : Int32).toInt = 0 := by decide
  have kk3 : (1 : Int32).toInt = 1 := by decide
  have hr1 : ((r1.toInt = 0 ∧ (1 : Int32).toInt = 1) ∨ r1.toInt = -2 ∨ r1.toInt = -6) ∧ RWk r1 0 (Br0 0) (-1) ((Fmh 5).toInt - 1) (Fr0 3).toInt := hr1
  refine lv_istore_n (lv' := [(2, .int r1), (0, .ref adm), (1, .int 0)]) hx hb dX10_penny_6 rfl hl (by decide) rfl (fun ls hl => ?_)
  refine lv_iload_n hx hb dX10_penny_7 rfl (lv_at hl 0 rfl) ?_
  refine lv_if_eq (tgt := 13) hx hb dX10_penny_8 (by decide) (fun c4 => ?_) (fun c4 => ?_)
  · have zc4 := eqK rfl (show (0 : Int32).toInt = 0 by decide) c4
    refine lv_aload_n hx hb dX10_penny_13 rfl (lv_at hl 1 rfl) ?_
    refine getF (v := .ref (qm 5)) hx hb ht hown hK hP iTX10 0 5 rfl rfl (by decide) fl_RX10_41 rfl dX10_penny_14 ?_
    refine lv_iload_n hx hb dX10_penny_17 rfl (lv_at hl 2 rfl) ?_
    refine va_aldq hx hb hK.1 hP 2 5 rfl rfl (show ¬ (_ ∨ _) by decide) dX10_penny_18 ?_
    refine W.eq (g2 := F0 m 19 ls [.ref (qm 20)]) rfl ?_
    refine lv_astore_n (lv' := [(3, .ref (qm 20)), (2, .int r1), (0, .ref adm), (1, .int 0)]) hx hb dX10_penny_19 rfl hl (by decide) rfl (fun ls hl => ?_)
    refine lv_aload_n hx hb dX10_penny_20 rfl (lv_at hl 0 rfl) ?_
    refine behR (runVP (As := []) (rest := []) ⟨hx, hb, hml, hown, ht⟩ (sX7_callCount l G cs (qm 20) qr0 Fr0 Ar0 Br0 Dr0 hIr0 ) okV_RX10_212 ⟨by decide, by decide⟩ hK hP [19, 20] rfl 19 rfl rfl hl.1 rfl (Nat.le_of_ble_eq_true rfl) dX10_penny_21 ⟨by decide, by decide⟩) hP hS hA (fun r5 H locs hr5 hP hS => ?_)
    refine lv_istore (lv' := [(4, .int r5), (3, .ref (qm 20)), (2, .int r1), (0, .ref adm), (1, .int 0)]) hx hb dX10_penny_24 hl (by decide) rfl (fun ls hl => ?_)
    refine lv_iconst (v := 0) hx hb dX10_penny_26 (by decide) ?_
    refine lv_istore (lv' := [(5, .int 0), (4, .int r5), (3, .ref (qm 20)), (2, .int r1), (0, .ref adm), (1, .int 0)]) hx hb dX10_penny_27 hl (by decide) rfl (fun ls hl => ?_)
    refine lv_iconst (v := 0) hx hb dX10_penny_29 (by decide) ?_
    refine lv_istore (lv' := [(6, .int 0), (5, .int 0), (4, .int r5), (3, .ref (qm 20)), (2, .int r1), (0, .ref adm), (1, .int 0)]) hx hb dX10_penny_30 hl (by decide) rfl (fun ls hl => ?_)
    refine lv_iconst (v := 0) hx hb dX10_penny_32 (by decide) ?_
    refine lv_istore (lv' := [(7, .int 0), (6, .int 0), (5, .int 0), (4, .int r5), (3, .ref (qm 20)), (2, .int r1), (0, .ref adm), (1, .int 0)]) hx hb dX10_penny_33 hl (by decide) rfl (fun ls hl => ?_)
    have B35 : ∀ (n : Nat) (x35_5 : Int32) (x35_6 : Int32) (x35_7 : Int32) (fmw2_35 : Int32) (fmw3_35 : Int32) (amw0_35 : (Nat → Int32)) (amw1_35 : (Nat → Int32)) (H : Heap) (locs : List Loc) (ls : Array Slot), (10 - x35_7.toInt).toNat < n → (0 : Int) ≤ x35_5.toInt ∧ x35_5.toInt ≤ 9 → (0 : Int) ≤ x35_7.toInt ∧ x35_7.toInt ≤ 10 → va_P G vwCl ((uX10 cs adm qm Fm Am Bm Dm) ++ ((uX8 cs (qm 3) qms Fms Ams Bms Dms) ++ ((uX3 cs (qms 0) qmh Fmh Amh Bmh Dmh) ++ ((uX5 cs (qm 6) qmn Fmn Amn Bmn Dmn) ++ ((uX5 cs (qm 7) qmw (upv 3 fmw3_35 (upv 2 fmw2_35 Fmw)) (vB 1 amw1_35 (vB 0 amw0_35 Amw)) Bmw Dmw) ++ (uX7 cs (qm 20) qr0 Fr0 Ar0 Br0 Dr0)))))) H → va_D A0 ((uX10 cs adm qm Fm Am Bm Dm) ++ ((uX8 cs (qm 3) qms Fms Ams Bms Dms) ++ ((uX3 cs (qms 0) qmh Fmh Amh Bmh Dmh) ++ ((uX5 cs (qm 6) qmn Fmn Amn Bmn Dmn) ++ ((uX5 cs (qm 7) qmw (upv 3 fmw3_35 (upv 2 fmw2_35 Fmw)) (vB 1 amw1_35 (vB 0 amw0_35 Amw)) Bmw Dmw) ++ (uX7 cs (qm 20) qr0 Fr0 Ar0 Br0 Dr0)))))) → va_S A0 s.heap H locs → lv_has ls 9 [(0, .ref adm), (3, .ref (qm 20)), (4, .int r5), (5, .int x35_5), (6, .int x35_6), (7, .int x35_7)] → W p l e (rmk 5 0 0) s m args below meth c H locs 0 0 (MQ below ((QDi G (fun (r : Int32) (u : Int32 × Int32 × (Nat → Int32) × (Nat → Int32)) => True) (fun u : Int32 × Int32 × (Nat → Int32) × (Nat → Int32) => ((uX10 cs adm qm Fm Am Bm Dm) ++ ((uX8 cs (qm 3) qms Fms Ams Bms Dms) ++ ((uX3 cs (qms 0) qmh Fmh Amh Bmh Dmh) ++ ((uX5 cs (qm 6) qmn Fmn Amn Bmn Dmn) ++ ((wX5 cs (qm 7) qmw (upd (upd Fmw 2 u.1) 3 u.2.1) (vA (vA Amw 0 u.2.2.1) 1 u.2.2.2) Bmw Dmw) ++ (uX7 cs (qm 20) qr0 Fr0 Ar0 Br0 Dr0)))))))) A0) args s 0 0 A0) (F0 m 35 ls []) := by
      intro n
      induction n with
      | zero => intro x35_5 x35_6 x35_7 fmw2_35 fmw3_35 amw0_35 amw1_35 H locs ls hmeas hx35_5 hx35_7 hP hD hS hl; exact absurd hmeas (Nat.not_lt_zero _)
      | succ n ih35 =>
        intro x35_5 x35_6 x35_7 fmw2_35 fmw3_35 amw0_35 amw1_35 H locs ls hmeas hx35_5 hx35_7 hP hD hS hl
        refine lv_iload hx hb dX10_penny_35 (lv_at hl 5 rfl) ?_
        refine lv_bipush (v := 9) hx hb dX10_penny_37 (by decide) ?_
        refine lv_icmp_gt (tgt := 91) hx hb dX10_penny_39 (by decide) (fun c24001 => ?_) (fun c24001 => ?_)
        · have zc24001 := ltK (show (9 : Int32).toInt = 9 by decide) rfl c24001
          refine lv_iload hx hb dX10_penny_91 (lv_at hl 3 rfl) ?_
          exact retDi (fmw2_35, fmw3_35, amw0_35, amw1_35) hx hb hr hlk hP hD hS dX10_penny_93 (trivial) (Nat.le_of_ble_eq_true rfl) (Nat.le_of_ble_eq_true rfl)
        · have zc24001 := nltK (show (9 : Int32).toInt = 9 by decide) rfl c24001
          refine lv_aload_n hx hb dX10_penny_42 rfl (lv_at hl 0 rfl) ?_
          refine lv_aload_n hx hb dX10_penny_43 rfl (lv_at hl 0 rfl) ?_
          refine lv_aload_n hx hb dX10_penny_44 rfl (lv_at hl 1 rfl) ?_
          refine lv_iload hx hb dX10_penny_45 (lv_at hl 5 rfl) ?_
          refine behDi (wr := ([] : va_W)) (runVD (As := [.ref (qm 20), .int x35_7]) (rest := [.ref adm]) ⟨hx, hb, hml, hown, ht⟩ (sX10_foundIn l G cs adm qm Fm Am Bm Dm hIm qms Fms Ams Bms Dms hIms qmh Fmh Amh Bmh Dmh hImh qmn Fmn Amn Bmn Dmn hImn qmw (upv 3 fmw3_35 (upv 2 fmw2_35 Fmw)) (vB 1 amw1_35 (vB 0 amw0_35 Amw)) Bmw Dmw (IB_av (k := 1) (IB_av (k := 0) (IB_pv (k := 3) (IB_pv (k := 2) hImw (i32b _)) (i32b _)) (AJ_full _)) (AJ_full _)) (qm 20) qr0 Fr0 Ar0 Br0 Dr0 hIr0 x35_7 (by omega)) okV_RX10_190 ⟨by decide, by decide⟩ hK hP hD [0, 1, 2, 3, 4, 5, 6, 7, 8, 9, 10, 11, 12, 13, 14, 15, 16, 17, 18, 19, 20] rfl (by decide) rfl 0 rfl rfl hl.1 rfl (Nat.le_of_ble_eq_true rfl) dX10_penny_47 ⟨(Nat.le_of_ble_eq_true rfl), (Nat.le_of_ble_eq_true rfl)⟩) hP hD hS hA [0, 1, 2, 3, 4, 5, 6, 7, 8, 9, 10, 11, 12, 13, 14, 15, 16, 17, 18, 19, 20] [] rfl rfl (by decide) (by decide) (fun r9 u H locs hu hP hD hS => ?_)
          obtain ⟨x24002, x24003, g24004, g24005⟩ := u
          obtain ⟨r24006, rfl⟩ : ∃ z, z = r9 := ⟨_, rfl⟩
          have hr24006 := hu
          have hP : va_P G vwCl ((uX10 cs adm qm Fm Am Bm Dm) ++ ((uX8 cs (qm 3) qms Fms Ams Bms Dms) ++ ((uX3 cs (qms 0) qmh Fmh Amh Bmh Dmh) ++ ((uX5 cs (qm 6) qmn Fmn Amn Bmn Dmn) ++ ((uX5 cs (qm 7) qmw (upv 3 x24003 (upv 2 x24002 Fmw)) (vB 1 g24005 (vB 0 g24004 Amw)) Bmw Dmw) ++ (uX7 cs (qm 20) qr0 Fr0 Ar0 Br0 Dr0)))))) H := hP.sub [0, 1, 2, 3, 4, 5, 6, 7, 8, 9, 10, 11, 12, 13, 14, 15, 16, 17, 18, 19, 20] rfl
          have hD : va_D A0 ((uX10 cs adm qm Fm Am Bm Dm) ++ ((uX8 cs (qm 3) qms Fms Ams Bms Dms) ++ ((uX3 cs (qms 0) qmh Fmh Amh Bmh Dmh) ++ ((uX5 cs (qm 6) qmn Fmn Amn Bmn Dmn) ++ ((uX5 cs (qm 7) qmw (upv 3 x24003 (upv 2 x24002 Fmw)) (vB 1 g24005 (vB 0 g24004 Amw)) Bmw Dmw) ++ (uX7 cs (qm 20) qr0 Fr0 Ar0 Br0 Dr0)))))) := hD.sub [0, 1, 2, 3, 4, 5, 6, 7, 8, 9, 10, 11, 12, 13, 14, 15, 16, 17, 18, 19, 20] (by decide) rfl
          refine lv_aload_n hx hb dX10_penny_50 rfl (lv_at hl 1 rfl) ?_
          refine getF (v := .int (Fr0 3)) hx hb ht hown hK hP iTX7 19 3 rfl rfl (by decide) fl_RX10_194 rfl dX10_penny_51 ?_
          have zf24007 : (0 : Int) ≤ (Fr0 3).toInt ∧ (Fr0 3).toInt ≤ 60 := hIr0.1 3
          refine behR (runVP (As := [.int r24006, .int (Fr0 3)]) (rest := []) ⟨hx, hb, hml, hown, ht⟩ (sX10_gainOf l G cs adm qm Fm Am Bm Dm hIm qms Fms Ams Bms Dms hIms qmh Fmh Amh Bmh Dmh hImh r24006 (Fr0 3) ) okV_RX10_202 ⟨by decide, by decide⟩ hK hP [0, 1, 2, 3, 4, 5, 6, 7, 8, 9, 10, 11, 12] rfl 0 rfl rfl hl.1 rfl (Nat.le_of_ble_eq_true rfl) dX10_penny_54 ⟨by decide, by decide⟩) hP hS hA (fun r24008 H locs hr24008 hP hS => ?_)
          refine lv_iload hx hb dX10_penny_57 (lv_at hl 5 rfl) ?_
          refine lv_iload hx hb dX10_penny_59 (lv_at hl 2 rfl) ?_
          refine lv_imul hx hb dX10_penny_61 ?_
          refine lv_topi (fun v24009 ev24009 => ?_)
          refine lv_isub hx hb dX10_penny_62 ?_
          refine lv_topi (fun v24010 ev24010 => ?_)
          refine lv_istore (lv' := [(8, .int v24010), (0, .ref adm), (3, .ref (qm 20)), (4, .int r5), (5, .int x35_5), (6, .int x35_6), (7, .int x35_7)]) hx hb dX10_penny_63 hl (by decide) rfl (fun ls hl => ?_)
          refine lv_iload hx hb dX10_penny_65 (lv_at hl 6 rfl) ?_
          have B85 : ∀ (x85_5 : Int32) (x85_6 : Int32) (H : Heap) (locs : List Loc) (ls : Array Slot), (0 : Int) ≤ x85_5.toInt ∧ x85_5.toInt ≤ 9 → va_P G vwCl ((uX10 cs adm qm Fm Am Bm Dm) ++ ((uX8 cs (qm 3) qms Fms Ams Bms Dms) ++ ((uX3 cs (qms 0) qmh Fmh Amh Bmh Dmh) ++ ((uX5 cs (qm 6) qmn Fmn Amn Bmn Dmn) ++ ((uX5 cs (qm 7) qmw (upv 3 x24003 (upv 2 x24002 Fmw)) (vB 1 g24005 (vB 0 g24004 Amw)) Bmw Dmw) ++ (uX7 cs (qm 20) qr0 Fr0 Ar0 Br0 Dr0)))))) H → va_D A0 ((uX10 cs adm qm Fm Am Bm Dm) ++ ((uX8 cs (qm 3) qms Fms Ams Bms Dms) ++ ((uX3 cs (qms 0) qmh Fmh Amh Bmh Dmh) ++ ((uX5 cs (qm 6) qmn Fmn Amn Bmn Dmn) ++ ((uX5 cs (qm 7) qmw (upv 3 x24003 (upv 2 x24002 Fmw)) (vB 1 g24005 (vB 0 g24004 Amw)) Bmw Dmw) ++ (uX7 cs (qm 20) qr0 Fr0 Ar0 Br0 Dr0)))))) → va_S A0 s.heap H locs → lv_has ls 9 [(0, .ref adm), (3, .ref (qm 20)), (4, .int r5), (5, .int x85_5), (6, .int x85_6), (7, .int x35_7)] → W p l e (rmk 5 0 0) s m args below meth c H locs 0 0 (MQ below ((QDi G (fun (r : Int32) (u : Int32 × Int32 × (Nat → Int32) × (Nat → Int32)) => True) (fun u : Int32 × Int32 × (Nat → Int32) × (Nat → Int32) => ((uX10 cs adm qm Fm Am Bm Dm) ++ ((uX8 cs (qm 3) qms Fms Ams Bms Dms) ++ ((uX3 cs (qms 0) qmh Fmh Amh Bmh Dmh) ++ ((uX5 cs (qm 6) qmn Fmn Amn Bmn Dmn) ++ ((wX5 cs (qm 7) qmw (upd (upd Fmw 2 u.1) 3 u.2.1) (vA (vA Amw 0 u.2.2.1) 1 u.2.2.2) Bmw Dmw) ++ (uX7 cs (qm 20) qr0 Fr0 Ar0 Br0 Dr0)))))))) A0) args s 0 0 A0) (F0 m 85 ls []) := by
            intro x85_5 x85_6 H locs ls hx85_5 hP hD hS hl
            obtain ⟨v49001, ev49001⟩ : ∃ z : Int32, z = x35_7 + 1 := ⟨_, rfl⟩
            have tv49001 : v49001.toInt = x35_7.toInt + 1 := by rw [ev49001]; exact addT rfl (by decide) (by omega)
            refine lv_iinc (v := v49001) (lv' := [(7, .int v49001), (0, .ref adm), (3, .ref (qm 20)), (4, .int r5), (5, .int x85_5), (6, .int x85_6)]) hx hb dX10_penny_85 hl (k := 5) rfl (by rw [ev49001]; rfl) (by decide) rfl (fun ls hl => ?_)
            refine lv_goto (tgt := 35) hx hb dX10_penny_88 (by decide) ?_
            exact ih35 x85_5 x85_6 v49001 x24002 x24003 g24004 g24005 H locs ls (by omega) (by omega) (by omega) hP hD hS (lv_sub hl [1, 2, 3, 4, 5, 0] rfl)
          have B77 : ∀ (H : Heap) (locs : List Loc) (ls : Array Slot), va_P G vwCl ((uX10 cs adm qm Fm Am Bm Dm) ++ ((uX8 cs (qm 3) qms Fms Ams Bms Dms) ++ ((uX3 cs (qms 0) qmh Fmh Amh Bmh Dmh) ++ ((uX5 cs (qm 6) qmn Fmn Amn Bmn Dmn) ++ ((uX5 cs (qm 7) qmw (upv 3 x24003 (upv 2 x24002 Fmw)) (vB 1 g24005 (vB 0 g24004 Amw)) Bmw Dmw) ++ (uX7 cs (qm 20) qr0 Fr0 Ar0 Br0 Dr0)))))) H → va_D A0 ((uX10 cs adm qm Fm Am Bm Dm) ++ ((uX8 cs (qm 3) qms Fms Ams Bms Dms) ++ ((uX3 cs (qms 0) qmh Fmh Amh Bmh Dmh) ++ ((uX5 cs (qm 6) qmn Fmn Amn Bmn Dmn) ++ ((uX5 cs (qm 7) qmw (upv 3 x24003 (upv 2 x24002 Fmw)) (vB 1 g24005 (vB 0 g24004 Amw)) Bmw Dmw) ++ (uX7 cs (qm 20) qr0 Fr0 Ar0 Br0 Dr0)))))) → va_S A0 s.heap H locs → lv_has ls 9 [(0, .ref adm), (3, .ref (qm 20)), (4, .int r5), (7, .int x35_7), (8, .int v24010)] → W p l e (rmk 5 0 0) s m args below meth c H locs 0 0 (MQ below ((QDi G (fun (r : Int32) (u : Int32 × Int32 × (Nat → Int32) × (Nat → Int32)) => True) (fun u : Int32 × Int32 × (Nat → Int32) × (Nat → Int32) => ((uX10 cs adm qm Fm Am Bm Dm) ++ ((uX8 cs (qm 3) qms Fms Ams Bms Dms) ++ ((uX3 cs (qms 0) qmh Fmh Amh Bmh Dmh) ++ ((uX5 cs (qm 6) qmn Fmn Amn Bmn Dmn) ++ ((wX5 cs (qm 7) qmw (upd (upd Fmw 2 u.1) 3 u.2.1) (vA (vA Amw 0 u.2.2.1) 1 u.2.2.2) Bmw Dmw) ++ (uX7 cs (qm 20) qr0 Fr0 Ar0 Br0 Dr0)))))))) A0) args s 0 0 A0) (F0 m 77 ls []) := by
            intro H locs ls hP hD hS hl
            refine lv_iload hx hb dX10_penny_77 (lv_at hl 4 rfl) ?_
            refine lv_istore (lv' := [(6, .int v24010), (0, .ref adm), (3, .ref (qm 20)), (4, .int r5), (7, .int x35_7), (8, .int v24010)]) hx hb dX10_penny_79 hl (by decide) rfl (fun ls hl => ?_)
            refine lv_iload hx hb dX10_penny_81 (lv_at hl 4 rfl) ?_
            refine lv_istore (lv' := [(5, .int x35_7), (6, .int v24010), (0, .ref adm), (3, .ref (qm 20)), (4, .int r5), (7, .int x35_7), (8, .int v24010)]) hx hb dX10_penny_83 hl (by decide) rfl (fun ls hl => ?_)
            exact B85 x35_7 v24010 H locs ls (by omega) hP hD hS (lv_sub hl [2, 3, 4, 0, 1, 5] rfl)
          refine lv_if_eq (tgt := 77) hx hb dX10_penny_67 (by decide) (fun c24011 => ?_) (fun c24011 => ?_)
          · have zc24011 := eqK rfl (show (0 : Int32).toInt = 0 by decide) c24011
            exact B77 H locs ls hP hD hS (lv_sub hl [1, 2, 3, 6, 0] rfl)
          · have zc24011 := neK rfl (show (0 : Int32).toInt = 0 by decide) c24011
            refine lv_iload hx hb dX10_penny_70 (lv_at hl 0 rfl) ?_
            refine lv_iload hx hb dX10_penny_72 (lv_at hl 5 rfl) ?_
            refine lv_icmp_le (tgt := 85) hx hb dX10_penny_74 (by decide) (fun c24012 => ?_) (fun c24012 => ?_)
            · have zc24012 := leK rfl rfl c24012
              exact B85 x35_5 x35_6 H locs ls (by omega) hP hD hS (lv_sub hl [1, 2, 3, 4, 5, 6] rfl)
            · have zc24012 := nleK rfl rfl c24012
              exact B77 H locs ls hP hD hS (lv_sub hl [1, 2, 3, 6, 0] rfl)
    exact B35 _ 0 0 0 (Fmw 2) (Fmw 3) (Amw 0) (Amw 1) H locs ls (Nat.lt_succ_self _) (by decide) (by decide) hP hD hS (lv_sub hl [6, 4, 3, 2, 1, 0] rfl)
  · have zc4 := neK rfl (show (0 : Int32).toInt = 0 by decide) c4
    refine lv_iload_n hx hb dX10_penny_11 rfl (lv_at hl 0 rfl) ?_
    exact retDi ((Fmw 2), (Fmw 3), (Amw 0), (Amw 1)) hx hb hr hlk hP hD hS dX10_penny_12 (trivial) (Nat.le_of_ble_eq_true rfl) (Nat.le_of_ble_eq_true rfl)

set_option maxRecDepth 100000 in
set_option maxHeartbeats 16000000 in
theorem sX10_penny_1 (l : Launch) (G : va_G) (cs : Nat → ClassId) (adm : Nat) (qm : Nat → Nat) (Fm : Nat → Int32) (Am : Nat → Nat → Int32) (Bm : Nat → Nat → Int64) (Dm : Int64) (hIm : IX10 Fm Am) (qms : Nat → Nat) (Fms : Nat → Int32) (Ams : Nat → Nat → Int32) (Bms : Nat → Nat → Int64) (Dms : Int64) (hIms : IX8 Fms Ams) (qmh : Nat → Nat) (Fmh : Nat → Int32) (Amh : Nat → Nat → Int32) (Bmh : Nat → Nat → Int64) (Dmh : Int64) (hImh : IX3 Fmh Amh) (qmn : Nat → Nat) (Fmn : Nat → Int32) (Amn : Nat → Nat → Int32) (Bmn : Nat → Nat → Int64) (Dmn : Int64) (hImn : IX5 Fmn Amn) (qmw : Nat → Nat) (Fmw : Nat → Int32) (Amw : Nat → Nat → Int32) (Bmw : Nat → Nat → Int64) (Dmw : Int64) (hImw : IX5 Fmw Amw) (qr1 : Nat → Nat) (Fr1 : Nat → Int32) (Ar1 : Nat → Nat → Int32) (Br1 : Nat → Nat → Int64) (Dr1 : Int64) (hIr1 : IX7 Fr1 Ar1) : ∀ sz : Nat, Met l yX10_penny (wk yX10_penny cX10_penny 9 (some .int)) (rmk 5 0 0) (PreD G (TY cs) [.ref adm, .int 1] ((uX10 cs adm qm Fm Am Bm Dm) ++ ((uX8 cs (qm 3) qms Fms Ams Bms Dms) ++ ((uX3 cs (qms 0) qmh Fmh Amh Bmh Dmh) ++ ((uX5 cs (qm 6) qmn Fmn Amn Bmn Dmn) ++ ((uX5 cs (qm 7) qmw Fmw Amw Bmw Dmw) ++ (uX7 cs (qm 21) qr1 Fr1 Ar1 Br1 Dr1)))))) sz) ((QDi G (fun (r : Int32) (u : Int32 × Int32 × (Nat → Int32) × (Nat → Int32)) => True) (fun u : Int32 × Int32 × (Nat → Int32) × (Nat → Int32) => ((uX10 cs adm qm Fm Am Bm Dm) ++ ((uX8 cs (qm 3) qms Fms Ams Bms Dms) ++ ((uX3 cs (qms 0) qmh Fmh Amh Bmh Dmh) ++ ((uX5 cs (qm 6) qmn Fmn Amn Bmn Dmn) ++ ((wX5 cs (qm 7) qmw (upd (upd Fmw 2 u.1) 3 u.2.1) (vA (vA Amw 0 u.2.2.1) 1 u.2.2.2) Bmw Dmw) ++ (uX7 cs (qm 21) qr1 Fr1 Ar1 Br1 Dr1)))))))) (va_A ((uX10 cs adm qm Fm Am Bm Dm) ++ ((uX8 cs (qm 3) qms Fms Ams Bms Dms) ++ ((uX3 cs (qms 0) qmh Fmh Amh Bmh Dmh) ++ ((uX5 cs (qm 6) qmn Fmn Amn Bmn Dmn) ++ ((uX5 cs (qm 7) qmw Fmw Amw Bmw Dmw) ++ (uX7 cs (qm 21) qr1 Fr1 Ar1 Br1 Dr1)))))) sz)) 0 0 (va_A ((uX10 cs adm qm Fm Am Bm Dm) ++ ((uX8 cs (qm 3) qms Fms Ams Bms Dms) ++ ((uX3 cs (qms 0) qmh Fmh Amh Bmh Dmh) ++ ((uX5 cs (qm 6) qmn Fmn Amn Bmn Dmn) ++ ((uX5 cs (qm 7) qmw Fmw Amw Bmw Dmw) ++ (uX7 cs (qm 21) qr1 Fr1 Ar1 Br1 Dr1)))))) sz) := by
  refine mkD (Qc := (QDi G (fun (r : Int32) (u : Int32 × Int32 × (Nat → Int32) × (Nat → Int32)) => True) (fun u : Int32 × Int32 × (Nat → Int32) × (Nat → Int32) => ((uX10 cs adm qm Fm Am Bm Dm) ++ ((uX8 cs (qm 3) qms Fms Ams Bms Dms) ++ ((uX3 cs (qms 0) qmh Fmh Amh Bmh Dmh) ++ ((uX5 cs (qm 6) qmn Fmn Amn Bmn Dmn) ++ ((wX5 cs (qm 7) qmw (upd (upd Fmw 2 u.1) 3 u.2.1) (vA (vA Amw 0 u.2.2.1) 1 u.2.2.2) Bmw Dmw) ++ (uX7 cs (qm 21) qr1 Fr1 Ar1 Br1 Dr1))))))))) (by decide) (by simp [lg_sl, Value.category]) ?_
  intro p e s m args below meth c ls A0 hx hb hml hr hlk hown hmn ht hK hP hD hS hA hl
  have hl : lv_has ls 9 [(0, .ref adm), (1, .int 1)] := hl
  refine lv_aload_n hx hb dX10_penny_0 rfl (lv_at hl 0 rfl) ?_
  refine lv_iload_n hx hb dX10_penny_1 rfl (lv_at hl 1 rfl) ?_
  refine lv_iconst (v := 1) hx hb dX10_penny_2 (by decide) ?_
  refine behR (runVP (As := [.int 1, .int 1]) (rest := []) ⟨hx, hb, hml, hown, ht⟩ (sX10_askRound_1 l G cs adm qm Fm Am Bm Dm hIm qms Fms Ams Bms Dms hIms qmh Fmh Amh Bmh Dmh hImh qr1 Fr1 Ar1 Br1 Dr1 hIr1 1 (by decide)) okV_RX10_186 ⟨by decide, by decide⟩ hK hP [0, 1, 2, 3, 4, 5, 6, 7, 8, 9, 10, 11, 12, 19, 20] rfl 0 rfl rfl hl.1 rfl (Nat.le_of_ble_eq_true rfl) dX10_penny_3 ⟨by decide, by decide⟩) hP hS hA (fun r1 H locs hr1 hP hS => ?_)
  have kk2 : (1 : Int32).toInt = 1 := by decide
  have kk3 : (1 : Int32).toInt = 1 := by decide
  have hr1 : ((r1.toInt = 0 ∧ (1 : Int32).toInt = 1) ∨ r1.toInt = -2 ∨ r1.toInt = -6) ∧ RWk r1 0 (Br1 0) (-1) ((Fmh 5).toInt - 1) (Fr1 3).toInt := hr1
  refine lv_istore_n (lv' := [(2, .int r1), (0, .ref adm), (1, .int 1)]) hx hb dX10_penny_6 rfl hl (by decide) rfl (fun ls hl => ?_)
  refine lv_iload_n hx hb dX10_penny_7 rfl (lv_at hl 0 rfl) ?_
  refine lv_if_eq (tgt := 13) hx hb dX10_penny_8 (by decide) (fun c4 => ?_) (fun c4 => ?_)
  · have zc4 := eqK rfl (show (0 : Int32).toInt = 0 by decide) c4
    refine lv_aload_n hx hb dX10_penny_13 rfl (lv_at hl 1 rfl) ?_
    refine getF (v := .ref (qm 5)) hx hb ht hown hK hP iTX10 0 5 rfl rfl (by decide) fl_RX10_41 rfl dX10_penny_14 ?_
    refine lv_iload_n hx hb dX10_penny_17 rfl (lv_at hl 2 rfl) ?_
    refine va_aldq hx hb hK.1 hP 2 5 rfl rfl (show ¬ (_ ∨ _) by decide) dX10_penny_18 ?_
    refine W.eq (g2 := F0 m 19 ls [.ref (qm 21)]) rfl ?_
    refine lv_astore_n (lv' := [(3, .ref (qm 21)), (2, .int r1), (0, .ref adm), (1, .int 1)]) hx hb dX10_penny_19 rfl hl (by decide) rfl (fun ls hl => ?_)
    refine lv_aload_n hx hb dX10_penny_20 rfl (lv_at hl 0 rfl) ?_
    refine behR (runVP (As := []) (rest := []) ⟨hx, hb, hml, hown, ht⟩ (sX7_callCount l G cs (qm 21) qr1 Fr1 Ar1 Br1 Dr1 hIr1 ) okV_RX10_212 ⟨by decide, by decide⟩ hK hP [19, 20] rfl 19 rfl rfl hl.1 rfl (Nat.le_of_ble_eq_true rfl) dX10_penny_21 ⟨by decide, by decide⟩) hP hS hA (fun r5 H locs hr5 hP hS => ?_)
    refine lv_istore (lv' := [(4, .int r5), (3, .ref (qm 21)), (2, .int r1), (0, .ref adm), (1, .int 1)]) hx hb dX10_penny_24 hl (by decide) rfl (fun ls hl => ?_)
    refine lv_iconst (v := 0) hx hb dX10_penny_26 (by decide) ?_
    refine lv_istore (lv' := [(5, .int 0), (4, .int r5), (3, .ref (qm 21)), (2, .int r1), (0, .ref adm), (1, .int 1)]) hx hb dX10_penny_27 hl (by decide) rfl (fun ls hl => ?_)
    refine lv_iconst (v := 0) hx hb dX10_penny_29 (by decide) ?_
    refine lv_istore (lv' := [(6, .int 0), (5, .int 0), (4, .int r5), (3, .ref (qm 21)), (2, .int r1), (0, .ref adm), (1, .int 1)]) hx hb dX10_penny_30 hl (by decide) rfl (fun ls hl => ?_)
    refine lv_iconst (v := 0) hx hb dX10_penny_32 (by decide) ?_
    refine lv_istore (lv' := [(7, .int 0), (6, .int 0), (5, .int 0), (4, .int r5), (3, .ref (qm 21)), (2, .int r1), (0, .ref adm), (1, .int 1)]) hx hb dX10_penny_33 hl (by decide) rfl (fun ls hl => ?_)
    have B35 : ∀ (n : Nat) (x35_5 : Int32) (x35_6 : Int32) (x35_7 : Int32) (fmw2_35 : Int32) (fmw3_35 : Int32) (amw0_35 : (Nat → Int32)) (amw1_35 : (Nat → Int32)) (H : Heap) (locs : List Loc) (ls : Array Slot), (10 - x35_7.toInt).toNat < n → (0 : Int) ≤ x35_5.toInt ∧ x35_5.toInt ≤ 9 → (0 : Int) ≤ x35_7.toInt ∧ x35_7.toInt ≤ 10 → va_P G vwCl ((uX10 cs adm qm Fm Am Bm Dm) ++ ((uX8 cs (qm 3) qms Fms Ams Bms Dms) ++ ((uX3 cs (qms 0) qmh Fmh Amh Bmh Dmh) ++ ((uX5 cs (qm 6) qmn Fmn Amn Bmn Dmn) ++ ((uX5 cs (qm 7) qmw (upv 3 fmw3_35 (upv 2 fmw2_35 Fmw)) (vB 1 amw1_35 (vB 0 amw0_35 Amw)) Bmw Dmw) ++ (uX7 cs (qm 21) qr1 Fr1 Ar1 Br1 Dr1)))))) H → va_D A0 ((uX10 cs adm qm Fm Am Bm Dm) ++ ((uX8 cs (qm 3) qms Fms Ams Bms Dms) ++ ((uX3 cs (qms 0) qmh Fmh Amh Bmh Dmh) ++ ((uX5 cs (qm 6) qmn Fmn Amn Bmn Dmn) ++ ((uX5 cs (qm 7) qmw (upv 3 fmw3_35 (upv 2 fmw2_35 Fmw)) (vB 1 amw1_35 (vB 0 amw0_35 Amw)) Bmw Dmw) ++ (uX7 cs (qm 21) qr1 Fr1 Ar1 Br1 Dr1)))))) → va_S A0 s.heap H locs → lv_has ls 9 [(0, .ref adm), (3, .ref (qm 21)), (4, .int r5), (5, .int x35_5), (6, .int x35_6), (7, .int x35_7)] → W p l e (rmk 5 0 0) s m args below meth c H locs 0 0 (MQ below ((QDi G (fun (r : Int32) (u : Int32 × Int32 × (Nat → Int32) × (Nat → Int32)) => True) (fun u : Int32 × Int32 × (Nat → Int32) × (Nat → Int32) => ((uX10 cs adm qm Fm Am Bm Dm) ++ ((uX8 cs (qm 3) qms Fms Ams Bms Dms) ++ ((uX3 cs (qms 0) qmh Fmh Amh Bmh Dmh) ++ ((uX5 cs (qm 6) qmn Fmn Amn Bmn Dmn) ++ ((wX5 cs (qm 7) qmw (upd (upd Fmw 2 u.1) 3 u.2.1) (vA (vA Amw 0 u.2.2.1) 1 u.2.2.2) Bmw Dmw) ++ (uX7 cs (qm 21) qr1 Fr1 Ar1 Br1 Dr1)))))))) A0) args s 0 0 A0) (F0 m 35 ls []) := by
      intro n
      induction n with
      | zero => intro x35_5 x35_6 x35_7 fmw2_35 fmw3_35 amw0_35 amw1_35 H locs ls hmeas hx35_5 hx35_7 hP hD hS hl; exact absurd hmeas (Nat.not_lt_zero _)
      | succ n ih35 =>
        intro x35_5 x35_6 x35_7 fmw2_35 fmw3_35 amw0_35 amw1_35 H locs ls hmeas hx35_5 hx35_7 hP hD hS hl
        refine lv_iload hx hb dX10_penny_35 (lv_at hl 5 rfl) ?_
        refine lv_bipush (v := 9) hx hb dX10_penny_37 (by decide) ?_
        refine lv_icmp_gt (tgt := 91) hx hb dX10_penny_39 (by decide) (fun c24001 => ?_) (fun c24001 => ?_)
        · have zc24001 := ltK (show (9 : Int32).toInt = 9 by decide) rfl c24001
          refine lv_iload hx hb dX10_penny_91 (lv_at hl 3 rfl) ?_
          exact retDi (fmw2_35, fmw3_35, amw0_35, amw1_35) hx hb hr hlk hP hD hS dX10_penny_93 (trivial) (Nat.le_of_ble_eq_true rfl) (Nat.le_of_ble_eq_true rfl)
        · have zc24001 := nltK (show (9 : Int32).toInt = 9 by decide) rfl c24001
          refine lv_aload_n hx hb dX10_penny_42 rfl (lv_at hl 0 rfl) ?_
          refine lv_aload_n hx hb dX10_penny_43 rfl (lv_at hl 0 rfl) ?_
          refine lv_aload_n hx hb dX10_penny_44 rfl (lv_at hl 1 rfl) ?_
          refine lv_iload hx hb dX10_penny_45 (lv_at hl 5 rfl) ?_
          refine behDi (wr := ([] : va_W)) (runVD (As := [.ref (qm 21), .int x35_7]) (rest := [.ref adm]) ⟨hx, hb, hml, hown, ht⟩ (sX10_foundIn l G cs adm qm Fm Am Bm Dm hIm qms Fms Ams Bms Dms hIms qmh Fmh Amh Bmh Dmh hImh qmn Fmn Amn Bmn Dmn hImn qmw (upv 3 fmw3_35 (upv 2 fmw2_35 Fmw)) (vB 1 amw1_35 (vB 0 amw0_35 Amw)) Bmw Dmw (IB_av (k := 1) (IB_av (k := 0) (IB_pv (k := 3) (IB_pv (k := 2) hImw (i32b _)) (i32b _)) (AJ_full _)) (AJ_full _)) (qm 21) qr1 Fr1 Ar1 Br1 Dr1 hIr1 x35_7 (by omega)) okV_RX10_190 ⟨by decide, by decide⟩ hK hP hD [0, 1, 2, 3, 4, 5, 6, 7, 8, 9, 10, 11, 12, 13, 14, 15, 16, 17, 18, 19, 20] rfl (by decide) rfl 0 rfl rfl hl.1 rfl (Nat.le_of_ble_eq_true rfl) dX10_penny_47 ⟨(Nat.le_of_ble_eq_true rfl), (Nat.le_of_ble_eq_true rfl)⟩) hP hD hS hA [0, 1, 2, 3, 4, 5, 6, 7, 8, 9, 10, 11, 12, 13, 14, 15, 16, 17, 18, 19, 20] [] rfl rfl (by decide) (by decide) (fun r9 u H locs hu hP hD hS => ?_)
          obtain ⟨x24002, x24003, g24004, g24005⟩ := u
          obtain ⟨r24006, rfl⟩ : ∃ z, z = r9 := ⟨_, rfl⟩
          have hr24006 := hu
          have hP : va_P G vwCl ((uX10 cs adm qm Fm Am Bm Dm) ++ ((uX8 cs (qm 3) qms Fms Ams Bms Dms) ++ ((uX3 cs (qms 0) qmh Fmh Amh Bmh Dmh) ++ ((uX5 cs (qm 6) qmn Fmn Amn Bmn Dmn) ++ ((uX5 cs (qm 7) qmw (upv 3 x24003 (upv 2 x24002 Fmw)) (vB 1 g24005 (vB 0 g24004 Amw)) Bmw Dmw) ++ (uX7 cs (qm 21) qr1 Fr1 Ar1 Br1 Dr1)))))) H := hP.sub [0, 1, 2, 3, 4, 5, 6, 7, 8, 9, 10, 11, 12, 13, 14, 15, 16, 17, 18, 19, 20] rfl
          have hD : va_D A0 ((uX10 cs adm qm Fm Am Bm Dm) ++ ((uX8 cs (qm 3) qms Fms Ams Bms Dms) ++ ((uX3 cs (qms 0) qmh Fmh Amh Bmh Dmh) ++ ((uX5 cs (qm 6) qmn Fmn Amn Bmn Dmn) ++ ((uX5 cs (qm 7) qmw (upv 3 x24003 (upv 2 x24002 Fmw)) (vB 1 g24005 (vB 0 g24004 Amw)) Bmw Dmw) ++ (uX7 cs (qm 21) qr1 Fr1 Ar1 Br1 Dr1)))))) := hD.sub [0, 1, 2, 3, 4, 5, 6, 7, 8, 9, 10, 11, 12, 13, 14, 15, 16, 17, 18, 19, 20] (by decide) rfl
          refine lv_aload_n hx hb dX10_penny_50 rfl (lv_at hl 1 rfl) ?_
          refine getF (v := .int (Fr1 3)) hx hb ht hown hK hP iTX7 19 3 rfl rfl (by decide) fl_RX10_194 rfl dX10_penny_51 ?_
          have zf24007 : (0 : Int) ≤ (Fr1 3).toInt ∧ (Fr1 3).toInt ≤ 60 := hIr1.1 3
          refine behR (runVP (As := [.int r24006, .int (Fr1 3)]) (rest := []) ⟨hx, hb, hml, hown, ht⟩ (sX10_gainOf l G cs adm qm Fm Am Bm Dm hIm qms Fms Ams Bms Dms hIms qmh Fmh Amh Bmh Dmh hImh r24006 (Fr1 3) ) okV_RX10_202 ⟨by decide, by decide⟩ hK hP [0, 1, 2, 3, 4, 5, 6, 7, 8, 9, 10, 11, 12] rfl 0 rfl rfl hl.1 rfl (Nat.le_of_ble_eq_true rfl) dX10_penny_54 ⟨by decide, by decide⟩) hP hS hA (fun r24008 H locs hr24008 hP hS => ?_)
          refine lv_iload hx hb dX10_penny_57 (lv_at hl 5 rfl) ?_
          refine lv_iload hx hb dX10_penny_59 (lv_at hl 2 rfl) ?_
          refine lv_imul hx hb dX10_penny_61 ?_
          refine lv_topi (fun v24009 ev24009 => ?_)
          refine lv_isub hx hb dX10_penny_62 ?_
          refine lv_topi (fun v24010 ev24010 => ?_)
          refine lv_istore (lv' := [(8, .int v24010), (0, .ref adm), (3, .ref (qm 21)), (4, .int r5), (5, .int x35_5), (6, .int x35_6), (7, .int x35_7)]) hx hb dX10_penny_63 hl (by decide) rfl (fun ls hl => ?_)
          refine lv_iload hx hb dX10_penny_65 (lv_at hl 6 rfl) ?_
          have B85 : ∀ (x85_5 : Int32) (x85_6 : Int32) (H : Heap) (locs : List Loc) (ls : Array Slot), (0 : Int) ≤ x85_5.toInt ∧ x85_5.toInt ≤ 9 → va_P G vwCl ((uX10 cs adm qm Fm Am Bm Dm) ++ ((uX8 cs (qm 3) qms Fms Ams Bms Dms) ++ ((uX3 cs (qms 0) qmh Fmh Amh Bmh Dmh) ++ ((uX5 cs (qm 6) qmn Fmn Amn Bmn Dmn) ++ ((uX5 cs (qm 7) qmw (upv 3 x24003 (upv 2 x24002 Fmw)) (vB 1 g24005 (vB 0 g24004 Amw)) Bmw Dmw) ++ (uX7 cs (qm 21) qr1 Fr1 Ar1 Br1 Dr1)))))) H → va_D A0 ((uX10 cs adm qm Fm Am Bm Dm) ++ ((uX8 cs (qm 3) qms Fms Ams Bms Dms) ++ ((uX3 cs (qms 0) qmh Fmh Amh Bmh Dmh) ++ ((uX5 cs (qm 6) qmn Fmn Amn Bmn Dmn) ++ ((uX5 cs (qm 7) qmw (upv 3 x24003 (upv 2 x24002 Fmw)) (vB 1 g24005 (vB 0 g24004 Amw)) Bmw Dmw) ++ (uX7 cs (qm 21) qr1 Fr1 Ar1 Br1 Dr1)))))) → va_S A0 s.heap H locs → lv_has ls 9 [(0, .ref adm), (3, .ref (qm 21)), (4, .int r5), (5, .int x85_5), (6, .int x85_6), (7, .int x35_7)] → W p l e (rmk 5 0 0) s m args below meth c H locs 0 0 (MQ below ((QDi G (fun (r : Int32) (u : Int32 × Int32 × (Nat → Int32) × (Nat → Int32)) => True) (fun u : Int32 × Int32 × (Nat → Int32) × (Nat → Int32) => ((uX10 cs adm qm Fm Am Bm Dm) ++ ((uX8 cs (qm 3) qms Fms Ams Bms Dms) ++ ((uX3 cs (qms 0) qmh Fmh Amh Bmh Dmh) ++ ((uX5 cs (qm 6) qmn Fmn Amn Bmn Dmn) ++ ((wX5 cs (qm 7) qmw (upd (upd Fmw 2 u.1) 3 u.2.1) (vA (vA Amw 0 u.2.2.1) 1 u.2.2.2) Bmw Dmw) ++ (uX7 cs (qm 21) qr1 Fr1 Ar1 Br1 Dr1)))))))) A0) args s 0 0 A0) (F0 m 85 ls []) := by
            intro x85_5 x85_6 H locs ls hx85_5 hP hD hS hl
            obtain ⟨v49001, ev49001⟩ : ∃ z : Int32, z = x35_7 + 1 := ⟨_, rfl⟩
            have tv49001 : v49001.toInt = x35_7.toInt + 1 := by rw [ev49001]; exact addT rfl (by decide) (by omega)
            refine lv_iinc (v := v49001) (lv' := [(7, .int v49001), (0, .ref adm), (3, .ref (qm 21)), (4, .int r5), (5, .int x85_5), (6, .int x85_6)]) hx hb dX10_penny_85 hl (k := 5) rfl (by rw [ev49001]; rfl) (by decide) rfl (fun ls hl => ?_)
            refine lv_goto (tgt := 35) hx hb dX10_penny_88 (by decide) ?_
            exact ih35 x85_5 x85_6 v49001 x24002 x24003 g24004 g24005 H locs ls (by omega) (by omega) (by omega) hP hD hS (lv_sub hl [1, 2, 3, 4, 5, 0] rfl)
          have B77 : ∀ (H : Heap) (locs : List Loc) (ls : Array Slot), va_P G vwCl ((uX10 cs adm qm Fm Am Bm Dm) ++ ((uX8 cs (qm 3) qms Fms Ams Bms Dms) ++ ((uX3 cs (qms 0) qmh Fmh Amh Bmh Dmh) ++ ((uX5 cs (qm 6) qmn Fmn Amn Bmn Dmn) ++ ((uX5 cs (qm 7) qmw (upv 3 x24003 (upv 2 x24002 Fmw)) (vB 1 g24005 (vB 0 g24004 Amw)) Bmw Dmw) ++ (uX7 cs (qm 21) qr1 Fr1 Ar1 Br1 Dr1)))))) H → va_D A0 ((uX10 cs adm qm Fm Am Bm Dm) ++ ((uX8 cs (qm 3) qms Fms Ams Bms Dms) ++ ((uX3 cs (qms 0) qmh Fmh Amh Bmh Dmh) ++ ((uX5 cs (qm 6) qmn Fmn Amn Bmn Dmn) ++ ((uX5 cs (qm 7) qmw (upv 3 x24003 (upv 2 x24002 Fmw)) (vB 1 g24005 (vB 0 g24004 Amw)) Bmw Dmw) ++ (uX7 cs (qm 21) qr1 Fr1 Ar1 Br1 Dr1)))))) → va_S A0 s.heap H locs → lv_has ls 9 [(0, .ref adm), (3, .ref (qm 21)), (4, .int r5), (7, .int x35_7), (8, .int v24010)] → W p l e (rmk 5 0 0) s m args below meth c H locs 0 0 (MQ below ((QDi G (fun (r : Int32) (u : Int32 × Int32 × (Nat → Int32) × (Nat → Int32)) => True) (fun u : Int32 × Int32 × (Nat → Int32) × (Nat → Int32) => ((uX10 cs adm qm Fm Am Bm Dm) ++ ((uX8 cs (qm 3) qms Fms Ams Bms Dms) ++ ((uX3 cs (qms 0) qmh Fmh Amh Bmh Dmh) ++ ((uX5 cs (qm 6) qmn Fmn Amn Bmn Dmn) ++ ((wX5 cs (qm 7) qmw (upd (upd Fmw 2 u.1) 3 u.2.1) (vA (vA Amw 0 u.2.2.1) 1 u.2.2.2) Bmw Dmw) ++ (uX7 cs (qm 21) qr1 Fr1 Ar1 Br1 Dr1)))))))) A0) args s 0 0 A0) (F0 m 77 ls []) := by
            intro H locs ls hP hD hS hl
            refine lv_iload hx hb dX10_penny_77 (lv_at hl 4 rfl) ?_
            refine lv_istore (lv' := [(6, .int v24010), (0, .ref adm), (3, .ref (qm 21)), (4, .int r5), (7, .int x35_7), (8, .int v24010)]) hx hb dX10_penny_79 hl (by decide) rfl (fun ls hl => ?_)
            refine lv_iload hx hb dX10_penny_81 (lv_at hl 4 rfl) ?_
            refine lv_istore (lv' := [(5, .int x35_7), (6, .int v24010), (0, .ref adm), (3, .ref (qm 21)), (4, .int r5), (7, .int x35_7), (8, .int v24010)]) hx hb dX10_penny_83 hl (by decide) rfl (fun ls hl => ?_)
            exact B85 x35_7 v24010 H locs ls (by omega) hP hD hS (lv_sub hl [2, 3, 4, 0, 1, 5] rfl)
          refine lv_if_eq (tgt := 77) hx hb dX10_penny_67 (by decide) (fun c24011 => ?_) (fun c24011 => ?_)
          · have zc24011 := eqK rfl (show (0 : Int32).toInt = 0 by decide) c24011
            exact B77 H locs ls hP hD hS (lv_sub hl [1, 2, 3, 6, 0] rfl)
          · have zc24011 := neK rfl (show (0 : Int32).toInt = 0 by decide) c24011
            refine lv_iload hx hb dX10_penny_70 (lv_at hl 0 rfl) ?_
            refine lv_iload hx hb dX10_penny_72 (lv_at hl 5 rfl) ?_
            refine lv_icmp_le (tgt := 85) hx hb dX10_penny_74 (by decide) (fun c24012 => ?_) (fun c24012 => ?_)
            · have zc24012 := leK rfl rfl c24012
              exact B85 x35_5 x35_6 H locs ls (by omega) hP hD hS (lv_sub hl [1, 2, 3, 4, 5, 6] rfl)
            · have zc24012 := nleK rfl rfl c24012
              exact B77 H locs ls hP hD hS (lv_sub hl [1, 2, 3, 6, 0] rfl)
    exact B35 _ 0 0 0 (Fmw 2) (Fmw 3) (Amw 0) (Amw 1) H locs ls (Nat.lt_succ_self _) (by decide) (by decide) hP hD hS (lv_sub hl [6, 4, 3, 2, 1, 0] rfl)
  · have zc4 := neK rfl (show (0 : Int32).toInt = 0 by decide) c4
    refine lv_iload_n hx hb dX10_penny_11 rfl (lv_at hl 0 rfl) ?_
    exact retDi ((Fmw 2), (Fmw 3), (Amw 0), (Amw 1)) hx hb hr hlk hP hD hS dX10_penny_12 (trivial) (Nat.le_of_ble_eq_true rfl) (Nat.le_of_ble_eq_true rfl)

set_option maxRecDepth 100000 in
set_option maxHeartbeats 16000000 in
theorem sX10_penny_2 (l : Launch) (G : va_G) (cs : Nat → ClassId) (adm : Nat) (qm : Nat → Nat) (Fm : Nat → Int32) (Am : Nat → Nat → Int32) (Bm : Nat → Nat → Int64) (Dm : Int64) (hIm : IX10 Fm Am) (qms : Nat → Nat) (Fms : Nat → Int32) (Ams : Nat → Nat → Int32) (Bms : Nat → Nat → Int64) (Dms : Int64) (hIms : IX8 Fms Ams) (qmh : Nat → Nat) (Fmh : Nat → Int32) (Amh : Nat → Nat → Int32) (Bmh : Nat → Nat → Int64) (Dmh : Int64) (hImh : IX3 Fmh Amh) (qmn : Nat → Nat) (Fmn : Nat → Int32) (Amn : Nat → Nat → Int32) (Bmn : Nat → Nat → Int64) (Dmn : Int64) (hImn : IX5 Fmn Amn) (qmw : Nat → Nat) (Fmw : Nat → Int32) (Amw : Nat → Nat → Int32) (Bmw : Nat → Nat → Int64) (Dmw : Int64) (hImw : IX5 Fmw Amw) (qr2 : Nat → Nat) (Fr2 : Nat → Int32) (Ar2 : Nat → Nat → Int32) (Br2 : Nat → Nat → Int64) (Dr2 : Int64) (hIr2 : IX7 Fr2 Ar2) : ∀ sz : Nat, Met l yX10_penny (wk yX10_penny cX10_penny 9 (some .int)) (rmk 5 0 0) (PreD G (TY cs) [.ref adm, .int 2] ((uX10 cs adm qm Fm Am Bm Dm) ++ ((uX8 cs (qm 3) qms Fms Ams Bms Dms) ++ ((uX3 cs (qms 0) qmh Fmh Amh Bmh Dmh) ++ ((uX5 cs (qm 6) qmn Fmn Amn Bmn Dmn) ++ ((uX5 cs (qm 7) qmw Fmw Amw Bmw Dmw) ++ (uX7 cs (qm 22) qr2 Fr2 Ar2 Br2 Dr2)))))) sz) ((QDi G (fun (r : Int32) (u : Int32 × Int32 × (Nat → Int32) × (Nat → Int32)) => True) (fun u : Int32 × Int32 × (Nat → Int32) × (Nat → Int32) => ((uX10 cs adm qm Fm Am Bm Dm) ++ ((uX8 cs (qm 3) qms Fms Ams Bms Dms) ++ ((uX3 cs (qms 0) qmh Fmh Amh Bmh Dmh) ++ ((uX5 cs (qm 6) qmn Fmn Amn Bmn Dmn) ++ ((wX5 cs (qm 7) qmw (upd (upd Fmw 2 u.1) 3 u.2.1) (vA (vA Amw 0 u.2.2.1) 1 u.2.2.2) Bmw Dmw) ++ (uX7 cs (qm 22) qr2 Fr2 Ar2 Br2 Dr2)))))))) (va_A ((uX10 cs adm qm Fm Am Bm Dm) ++ ((uX8 cs (qm 3) qms Fms Ams Bms Dms) ++ ((uX3 cs (qms 0) qmh Fmh Amh Bmh Dmh) ++ ((uX5 cs (qm 6) qmn Fmn Amn Bmn Dmn) ++ ((uX5 cs (qm 7) qmw Fmw Amw Bmw Dmw) ++ (uX7 cs (qm 22) qr2 Fr2 Ar2 Br2 Dr2)))))) sz)) 0 0 (va_A ((uX10 cs adm qm Fm Am Bm Dm) ++ ((uX8 cs (qm 3) qms Fms Ams Bms Dms) ++ ((uX3 cs (qms 0) qmh Fmh Amh Bmh Dmh) ++ ((uX5 cs (qm 6) qmn Fmn Amn Bmn Dmn) ++ ((uX5 cs (qm 7) qmw Fmw Amw Bmw Dmw) ++ (uX7 cs (qm 22) qr2 Fr2 Ar2 Br2 Dr2)))))) sz) := by
  refine mkD (Qc := (QDi G (fun (r : Int32) (u : Int32 × Int32 × (Nat → Int32) × (Nat → Int32)) => True) (fun u : Int32 × Int32 × (Nat → Int32) × (Nat → Int32) => ((uX10 cs adm qm Fm Am Bm Dm) ++ ((uX8 cs (qm 3) qms Fms Ams Bms Dms) ++ ((uX3 cs (qms 0) qmh Fmh Amh Bmh Dmh) ++ ((uX5 cs (qm 6) qmn Fmn Amn Bmn Dmn) ++ ((wX5 cs (qm 7) qmw (upd (upd Fmw 2 u.1) 3 u.2.1) (vA (vA Amw 0 u.2.2.1) 1 u.2.2.2) Bmw Dmw) ++ (uX7 cs (qm 22) qr2 Fr2 Ar2 Br2 Dr2))))))))) (by decide) (by simp [lg_sl, Value.category]) ?_
  intro p e s m args below meth c ls A0 hx hb hml hr hlk hown hmn ht hK hP hD hS hA hl
  have hl : lv_has ls 9 [(0, .ref adm), (1, .int 2)] := hl
  refine lv_aload_n hx hb dX10_penny_0 rfl (lv_at hl 0 rfl) ?_
  refine lv_iload_n hx hb dX10_penny_1 rfl (lv_at hl 1 rfl) ?_
  refine lv_iconst (v := 1) hx hb dX10_penny_2 (by decide) ?_
  refine behR (runVP (As := [.int 2, .int 1]) (rest := []) ⟨hx, hb, hml, hown, ht⟩ (sX10_askRound_2 l G cs adm qm Fm Am Bm Dm hIm qms Fms Ams Bms Dms hIms qmh Fmh Amh Bmh Dmh hImh qr2 Fr2 Ar2 Br2 Dr2 hIr2 1 (by decide)) okV_RX10_186 ⟨by decide, by decide⟩ hK hP [0, 1, 2, 3, 4, 5, 6, 7, 8, 9, 10, 11, 12, 19, 20] rfl 0 rfl rfl hl.1 rfl (Nat.le_of_ble_eq_true rfl) dX10_penny_3 ⟨by decide, by decide⟩) hP hS hA (fun r1 H locs hr1 hP hS => ?_)
  have kk2 : (2 : Int32).toInt = 2 := by decide
  have kk3 : (1 : Int32).toInt = 1 := by decide
  have hr1 : ((r1.toInt = 0 ∧ (1 : Int32).toInt = 1) ∨ r1.toInt = -2 ∨ r1.toInt = -6) ∧ RWk r1 0 (Br2 0) (-1) ((Fmh 5).toInt - 1) (Fr2 3).toInt := hr1
  refine lv_istore_n (lv' := [(2, .int r1), (0, .ref adm), (1, .int 2)]) hx hb dX10_penny_6 rfl hl (by decide) rfl (fun ls hl => ?_)
  refine lv_iload_n hx hb dX10_penny_7 rfl (lv_at hl 0 rfl) ?_
  refine lv_if_eq (tgt := 13) hx hb dX10_penny_8 (by decide) (fun c4 => ?_) (fun c4 => ?_)
  · have zc4 := eqK rfl (show (0 : Int32).toInt = 0 by decide) c4
    refine lv_aload_n hx hb dX10_penny_13 rfl (lv_at hl 1 rfl) ?_
    refine getF (v := .ref (qm 5)) hx hb ht hown hK hP iTX10 0 5 rfl rfl (by decide) fl_RX10_41 rfl dX10_penny_14 ?_
    refine lv_iload_n hx hb dX10_penny_17 rfl (lv_at hl 2 rfl) ?_
    refine va_aldq hx hb hK.1 hP 2 5 rfl rfl (show ¬ (_ ∨ _) by decide) dX10_penny_18 ?_
    refine W.eq (g2 := F0 m 19 ls [.ref (qm 22)]) rfl ?_
    refine lv_astore_n (lv' := [(3, .ref (qm 22)), (2, .int r1), (0, .ref adm), (1, .int 2)]) hx hb dX10_penny_19 rfl hl (by decide) rfl (fun ls hl => ?_)
    refine lv_aload_n hx hb dX10_penny_20 rfl (lv_at hl 0 rfl) ?_
    refine behR (runVP (As := []) (rest := []) ⟨hx, hb, hml, hown, ht⟩ (sX7_callCount l G cs (qm 22) qr2 Fr2 Ar2 Br2 Dr2 hIr2 ) okV_RX10_212 ⟨by decide, by decide⟩ hK hP [19, 20] rfl 19 rfl rfl hl.1 rfl (Nat.le_of_ble_eq_true rfl) dX10_penny_21 ⟨by decide, by decide⟩) hP hS hA (fun r5 H locs hr5 hP hS => ?_)
    refine lv_istore (lv' := [(4, .int r5), (3, .ref (qm 22)), (2, .int r1), (0, .ref adm), (1, .int 2)]) hx hb dX10_penny_24 hl (by decide) rfl (fun ls hl => ?_)
    refine lv_iconst (v := 0) hx hb dX10_penny_26 (by decide) ?_
    refine lv_istore (lv' := [(5, .int 0), (4, .int r5), (3, .ref (qm 22)), (2, .int r1), (0, .ref adm), (1, .int 2)]) hx hb dX10_penny_27 hl (by decide) rfl (fun ls hl => ?_)
    refine lv_iconst (v := 0) hx hb dX10_penny_29 (by decide) ?_
    refine lv_istore (lv' := [(6, .int 0), (5, .int 0), (4, .int r5), (3, .ref (qm 22)), (2, .int r1), (0, .ref adm), (1, .int 2)]) hx hb dX10_penny_30 hl (by decide) rfl (fun ls hl => ?_)
    refine lv_iconst (v := 0) hx hb dX10_penny_32 (by decide) ?_
    refine lv_istore (lv' := [(7, .int 0), (6, .int 0), (5, .int 0), (4, .int r5), (3, .ref (qm 22)), (2, .int r1), (0, .ref adm), (1, .int 2)]) hx hb dX10_penny_33 hl (by decide) rfl (fun ls hl => ?_)
    have B35 : ∀ (n : Nat) (x35_5 : Int32) (x35_6 : Int32) (x35_7 : Int32) (fmw2_35 : Int32) (fmw3_35 : Int32) (amw0_35 : (Nat → Int32)) (amw1_35 : (Nat → Int32)) (H : Heap) (locs : List Loc) (ls : Array Slot), (10 - x35_7.toInt).toNat < n → (0 : Int) ≤ x35_5.toInt ∧ x35_5.toInt ≤ 9 → (0 : Int) ≤ x35_7.toInt ∧ x35_7.toInt ≤ 10 → va_P G vwCl ((uX10 cs adm qm Fm Am Bm Dm) ++ ((uX8 cs (qm 3) qms Fms Ams Bms Dms) ++ ((uX3 cs (qms 0) qmh Fmh Amh Bmh Dmh) ++ ((uX5 cs (qm 6) qmn Fmn Amn Bmn Dmn) ++ ((uX5 cs (qm 7) qmw (upv 3 fmw3_35 (upv 2 fmw2_35 Fmw)) (vB 1 amw1_35 (vB 0 amw0_35 Amw)) Bmw Dmw) ++ (uX7 cs (qm 22) qr2 Fr2 Ar2 Br2 Dr2)))))) H → va_D A0 ((uX10 cs adm qm Fm Am Bm Dm) ++ ((uX8 cs (qm 3) qms Fms Ams Bms Dms) ++ ((uX3 cs (qms 0) qmh Fmh Amh Bmh Dmh) ++ ((uX5 cs (qm 6) qmn Fmn Amn Bmn Dmn) ++ ((uX5 cs (qm 7) qmw (upv 3 fmw3_35 (upv 2 fmw2_35 Fmw)) (vB 1 amw1_35 (vB 0 amw0_35 Amw)) Bmw Dmw) ++ (uX7 cs (qm 22) qr2 Fr2 Ar2 Br2 Dr2)))))) → va_S A0 s.heap H locs → lv_has ls 9 [(0, .ref adm), (3, .ref (qm 22)), (4, .int r5), (5, .int x35_5), (6, .int x35_6), (7, .int x35_7)] → W p l e (rmk 5 0 0) s m args below meth c H locs 0 0 (MQ below ((QDi G (fun (r : Int32) (u : Int32 × Int32 × (Nat → Int32) × (Nat → Int32)) => True) (fun u : Int32 × Int32 × (Nat → Int32) × (Nat → Int32) => ((uX10 cs adm qm Fm Am Bm Dm) ++ ((uX8 cs (qm 3) qms Fms Ams Bms Dms) ++ ((uX3 cs (qms 0) qmh Fmh Amh Bmh Dmh) ++ ((uX5 cs (qm 6) qmn Fmn Amn Bmn Dmn) ++ ((wX5 cs (qm 7) qmw (upd (upd Fmw 2 u.1) 3 u.2.1) (vA (vA Amw 0 u.2.2.1) 1 u.2.2.2) Bmw Dmw) ++ (uX7 cs (qm 22) qr2 Fr2 Ar2 Br2 Dr2)))))))) A0) args s 0 0 A0) (F0 m 35 ls []) := by
      intro n
      induction n with
      | zero => intro x35_5 x35_6 x35_7 fmw2_35 fmw3_35 amw0_35 amw1_35 H locs ls hmeas hx35_5 hx35_7 hP hD hS hl; exact absurd hmeas (Nat.not_lt_zero _)
      | succ n ih35 =>
        intro x35_5 x35_6 x35_7 fmw2_35 fmw3_35 amw0_35 amw1_35 H locs ls hmeas hx35_5 hx35_7 hP hD hS hl
        refine lv_iload hx hb dX10_penny_35 (lv_at hl 5 rfl) ?_
        refine lv_bipush (v := 9) hx hb dX10_penny_37 (by decide) ?_
        refine lv_icmp_gt (tgt := 91) hx hb dX10_penny_39 (by decide) (fun c24001 => ?_) (fun c24001 => ?_)
        · have zc24001 := ltK (show (9 : Int32).toInt = 9 by decide) rfl c24001
          refine lv_iload hx hb dX10_penny_91 (lv_at hl 3 rfl) ?_
          exact retDi (fmw2_35, fmw3_35, amw0_35, amw1_35) hx hb hr hlk hP hD hS dX10_penny_93 (trivial) (Nat.le_of_ble_eq_true rfl) (Nat.le_of_ble_eq_true rfl)
        · have zc24001 := nltK (show (9 : Int32).toInt = 9 by decide) rfl c24001
          refine lv_aload_n hx hb dX10_penny_42 rfl (lv_at hl 0 rfl) ?_
          refine lv_aload_n hx hb dX10_penny_43 rfl (lv_at hl 0 rfl) ?_
          refine lv_aload_n hx hb dX10_penny_44 rfl (lv_at hl 1 rfl) ?_
          refine lv_iload hx hb dX10_penny_45 (lv_at hl 5 rfl) ?_
          refine behDi (wr := ([] : va_W)) (runVD (As := [.ref (qm 22), .int x35_7]) (rest := [.ref adm]) ⟨hx, hb, hml, hown, ht⟩ (sX10_foundIn l G cs adm qm Fm Am Bm Dm hIm qms Fms Ams Bms Dms hIms qmh Fmh Amh Bmh Dmh hImh qmn Fmn Amn Bmn Dmn hImn qmw (upv 3 fmw3_35 (upv 2 fmw2_35 Fmw)) (vB 1 amw1_35 (vB 0 amw0_35 Amw)) Bmw Dmw (IB_av (k := 1) (IB_av (k := 0) (IB_pv (k := 3) (IB_pv (k := 2) hImw (i32b _)) (i32b _)) (AJ_full _)) (AJ_full _)) (qm 22) qr2 Fr2 Ar2 Br2 Dr2 hIr2 x35_7 (by omega)) okV_RX10_190 ⟨by decide, by decide⟩ hK hP hD [0, 1, 2, 3, 4, 5, 6, 7, 8, 9, 10, 11, 12, 13, 14, 15, 16, 17, 18, 19, 20] rfl (by decide) rfl 0 rfl rfl hl.1 rfl (Nat.le_of_ble_eq_true rfl) dX10_penny_47 ⟨(Nat.le_of_ble_eq_true rfl), (Nat.le_of_ble_eq_true rfl)⟩) hP hD hS hA [0, 1, 2, 3, 4, 5, 6, 7, 8, 9, 10, 11, 12, 13, 14, 15, 16, 17, 18, 19, 20] [] rfl rfl (by decide) (by decide) (fun r9 u H locs hu hP hD hS => ?_)
          obtain ⟨x24002, x24003, g24004, g24005⟩ := u
          obtain ⟨r24006, rfl⟩ : ∃ z, z = r9 := ⟨_, rfl⟩
          have hr24006 := hu
          have hP : va_P G vwCl ((uX10 cs adm qm Fm Am Bm Dm) ++ ((uX8 cs (qm 3) qms Fms Ams Bms Dms) ++ ((uX3 cs (qms 0) qmh Fmh Amh Bmh Dmh) ++ ((uX5 cs (qm 6) qmn Fmn Amn Bmn Dmn) ++ ((uX5 cs (qm 7) qmw (upv 3 x24003 (upv 2 x24002 Fmw)) (vB 1 g24005 (vB 0 g24004 Amw)) Bmw Dmw) ++ (uX7 cs (qm 22) qr2 Fr2 Ar2 Br2 Dr2)))))) H := hP.sub [0, 1, 2, 3, 4, 5, 6, 7, 8, 9, 10, 11, 12, 13, 14, 15, 16, 17, 18, 19, 20] rfl
          have hD : va_D A0 ((uX10 cs adm qm Fm Am Bm Dm) ++ ((uX8 cs (qm 3) qms Fms Ams Bms Dms) ++ ((uX3 cs (qms 0) qmh Fmh Amh Bmh Dmh) ++ ((uX5 cs (qm 6) qmn Fmn Amn Bmn Dmn) ++ ((uX5 cs (qm 7) qmw (upv 3 x24003 (upv 2 x24002 Fmw)) (vB 1 g24005 (vB 0 g24004 Amw)) Bmw Dmw) ++ (uX7 cs (qm 22) qr2 Fr2 Ar2 Br2 Dr2)))))) := hD.sub [0, 1, 2, 3, 4, 5, 6, 7, 8, 9, 10, 11, 12, 13, 14, 15, 16, 17, 18, 19, 20] (by decide) rfl
          refine lv_aload_n hx hb dX10_penny_50 rfl (lv_at hl 1 rfl) ?_
          refine getF (v := .int (Fr2 3)) hx hb ht hown hK hP iTX7 19 3 rfl rfl (by decide) fl_RX10_194 rfl dX10_penny_51 ?_
          have zf24007 : (0 : Int) ≤ (Fr2 3).toInt ∧ (Fr2 3).toInt ≤ 60 := hIr2.1 3
          refine behR (runVP (As := [.int r24006, .int (Fr2 3)]) (rest := []) ⟨hx, hb, hml, hown, ht⟩ (sX10_gainOf l G cs adm qm Fm Am Bm Dm hIm qms Fms Ams Bms Dms hIms qmh Fmh Amh Bmh Dmh hImh r24006 (Fr2 3) ) okV_RX10_202 ⟨by decide, by decide⟩ hK hP [0, 1, 2, 3, 4, 5, 6, 7, 8, 9, 10, 11, 12] rfl 0 rfl rfl hl.1 rfl (Nat.le_of_ble_eq_true rfl) dX10_penny_54 ⟨by decide, by decide⟩) hP hS hA (fun r24008 H locs hr24008 hP hS => ?_)
          refine lv_iload hx hb dX10_penny_57 (lv_at hl 5 rfl) ?_
          refine lv_iload hx hb dX10_penny_59 (lv_at hl 2 rfl) ?_
          refine lv_imul hx hb dX10_penny_61 ?_
          refine lv_topi (fun v24009 ev24009 => ?_)
          refine lv_isub hx hb dX10_penny_62 ?_
          refine lv_topi (fun v24010 ev24010 => ?_)
          refine lv_istore (lv' := [(8, .int v24010), (0, .ref adm), (3, .ref (qm 22)), (4, .int r5), (5, .int x35_5), (6, .int x35_6), (7, .int x35_7)]) hx hb dX10_penny_63 hl (by decide) rfl (fun ls hl => ?_)
          refine lv_iload hx hb dX10_penny_65 (lv_at hl 6 rfl) ?_
          have B85 : ∀ (x85_5 : Int32) (x85_6 : Int32) (H : Heap) (locs : List Loc) (ls : Array Slot), (0 : Int) ≤ x85_5.toInt ∧ x85_5.toInt ≤ 9 → va_P G vwCl ((uX10 cs adm qm Fm Am Bm Dm) ++ ((uX8 cs (qm 3) qms Fms Ams Bms Dms) ++ ((uX3 cs (qms 0) qmh Fmh Amh Bmh Dmh) ++ ((uX5 cs (qm 6) qmn Fmn Amn Bmn Dmn) ++ ((uX5 cs (qm 7) qmw (upv 3 x24003 (upv 2 x24002 Fmw)) (vB 1 g24005 (vB 0 g24004 Amw)) Bmw Dmw) ++ (uX7 cs (qm 22) qr2 Fr2 Ar2 Br2 Dr2)))))) H → va_D A0 ((uX10 cs adm qm Fm Am Bm Dm) ++ ((uX8 cs (qm 3) qms Fms Ams Bms Dms) ++ ((uX3 cs (qms 0) qmh Fmh Amh Bmh Dmh) ++ ((uX5 cs (qm 6) qmn Fmn Amn Bmn Dmn) ++ ((uX5 cs (qm 7) qmw (upv 3 x24003 (upv 2 x24002 Fmw)) (vB 1 g24005 (vB 0 g24004 Amw)) Bmw Dmw) ++ (uX7 cs (qm 22) qr2 Fr2 Ar2 Br2 Dr2)))))) → va_S A0 s.heap H locs → lv_has ls 9 [(0, .ref adm), (3, .ref (qm 22)), (4, .int r5), (5, .int x85_5), (6, .int x85_6), (7, .int x35_7)] → W p l e (rmk 5 0 0) s m args below meth c H locs 0 0 (MQ below ((QDi G (fun (r : Int32) (u : Int32 × Int32 × (Nat → Int32) × (Nat → Int32)) => True) (fun u : Int32 × Int32 × (Nat → Int32) × (Nat → Int32) => ((uX10 cs adm qm Fm Am Bm Dm) ++ ((uX8 cs (qm 3) qms Fms Ams Bms Dms) ++ ((uX3 cs (qms 0) qmh Fmh Amh Bmh Dmh) ++ ((uX5 cs (qm 6) qmn Fmn Amn Bmn Dmn) ++ ((wX5 cs (qm 7) qmw (upd (upd Fmw 2 u.1) 3 u.2.1) (vA (vA Amw 0 u.2.2.1) 1 u.2.2.2) Bmw Dmw) ++ (uX7 cs (qm 22) qr2 Fr2 Ar2 Br2 Dr2)))))))) A0) args s 0 0 A0) (F0 m 85 ls []) := by
            intro x85_5 x85_6 H locs ls hx85_5 hP hD hS hl
            obtain ⟨v49001, ev49001⟩ : ∃ z : Int32, z = x35_7 + 1 := ⟨_, rfl⟩
            have tv49001 : v49001.toInt = x35_7.toInt + 1 := by rw [ev49001]; exact addT rfl (by decide) (by omega)
            refine lv_iinc (v := v49001) (lv' := [(7, .int v49001), (0, .ref adm), (3, .ref (qm 22)), (4, .int r5), (5, .int x85_5), (6, .int x85_6)]) hx hb dX10_penny_85 hl (k := 5) rfl (by rw [ev49001]; rfl) (by decide) rfl (fun ls hl => ?_)
            refine lv_goto (tgt := 35) hx hb dX10_penny_88 (by decide) ?_
            exact ih35 x85_5 x85_6 v49001 x24002 x24003 g24004 g24005 H locs ls (by omega) (by omega) (by omega) hP hD hS (lv_sub hl [1, 2, 3, 4, 5, 0] rfl)
          have B77 : ∀ (H : Heap) (locs : List Loc) (ls : Array Slot), va_P G vwCl ((uX10 cs adm qm Fm Am Bm Dm) ++ ((uX8 cs (qm 3) qms Fms Ams Bms Dms) ++ ((uX3 cs (qms 0) qmh Fmh Amh Bmh Dmh) ++ ((uX5 cs (qm 6) qmn Fmn Amn Bmn Dmn) ++ ((uX5 cs (qm 7) qmw (upv 3 x24003 (upv 2 x24002 Fmw)) (vB 1 g24005 (vB 0 g24004 Amw)) Bmw Dmw) ++ (uX7 cs (qm 22) qr2 Fr2 Ar2 Br2 Dr2)))))) H → va_D A0 ((uX10 cs adm qm Fm Am Bm Dm) ++ ((uX8 cs (qm 3) qms Fms Ams Bms Dms) ++ ((uX3 cs (qms 0) qmh Fmh Amh Bmh Dmh) ++ ((uX5 cs (qm 6) qmn Fmn Amn Bmn Dmn) ++ ((uX5 cs (qm 7) qmw (upv 3 x24003 (upv 2 x24002 Fmw)) (vB 1 g24005 (vB 0 g24004 Amw)) Bmw Dmw) ++ (uX7 cs (qm 22) qr2 Fr2 Ar2 Br2 Dr2)))))) → va_S A0 s.heap H locs → lv_has ls 9 [(0, .ref adm), (3, .ref (qm 22)), (4, .int r5), (7, .int x35_7), (8, .int v24010)] → W p l e (rmk 5 0 0) s m args below meth c H locs 0 0 (MQ below ((QDi G (fun (r : Int32) (u : Int32 × Int32 × (Nat → Int32) × (Nat → Int32)) => True) (fun u : Int32 × Int32 × (Nat → Int32) × (Nat → Int32) => ((uX10 cs adm qm Fm Am Bm Dm) ++ ((uX8 cs (qm 3) qms Fms Ams Bms Dms) ++ ((uX3 cs (qms 0) qmh Fmh Amh Bmh Dmh) ++ ((uX5 cs (qm 6) qmn Fmn Amn Bmn Dmn) ++ ((wX5 cs (qm 7) qmw (upd (upd Fmw 2 u.1) 3 u.2.1) (vA (vA Amw 0 u.2.2.1) 1 u.2.2.2) Bmw Dmw) ++ (uX7 cs (qm 22) qr2 Fr2 Ar2 Br2 Dr2)))))))) A0) args s 0 0 A0) (F0 m 77 ls []) := by
            intro H locs ls hP hD hS hl
            refine lv_iload hx hb dX10_penny_77 (lv_at hl 4 rfl) ?_
            refine lv_istore (lv' := [(6, .int v24010), (0, .ref adm), (3, .ref (qm 22)), (4, .int r5), (7, .int x35_7), (8, .int v24010)]) hx hb dX10_penny_79 hl (by decide) rfl (fun ls hl => ?_)
            refine lv_iload hx hb dX10_penny_81 (lv_at hl 4 rfl) ?_
            refine lv_istore (lv' := [(5, .int x35_7), (6, .int v24010), (0, .ref adm), (3, .ref (qm 22)), (4, .int r5), (7, .int x35_7), (8, .int v24010)]) hx hb dX10_penny_83 hl (by decide) rfl (fun ls hl => ?_)
            exact B85 x35_7 v24010 H locs ls (by omega) hP hD hS (lv_sub hl [2, 3, 4, 0, 1, 5] rfl)
          refine lv_if_eq (tgt := 77) hx hb dX10_penny_67 (by decide) (fun c24011 => ?_) (fun c24011 => ?_)
          · have zc24011 := eqK rfl (show (0 : Int32).toInt = 0 by decide) c24011
            exact B77 H locs ls hP hD hS (lv_sub hl [1, 2, 3, 6, 0] rfl)
          · have zc24011 := neK rfl (show (0 : Int32).toInt = 0 by decide) c24011
            refine lv_iload hx hb dX10_penny_70 (lv_at hl 0 rfl) ?_
            refine lv_iload hx hb dX10_penny_72 (lv_at hl 5 rfl) ?_
            refine lv_icmp_le (tgt := 85) hx hb dX10_penny_74 (by decide) (fun c24012 => ?_) (fun c24012 => ?_)
            · have zc24012 := leK rfl rfl c24012
              exact B85 x35_5 x35_6 H locs ls (by omega) hP hD hS (lv_sub hl [1, 2, 3, 4, 5, 6] rfl)
            · have zc24012 := nleK rfl rfl c24012
              exact B77 H locs ls hP hD hS (lv_sub hl [1, 2, 3, 6, 0] rfl)
    exact B35 _ 0 0 0 (Fmw 2) (Fmw 3) (Amw 0) (Amw 1) H locs ls (Nat.lt_succ_self _) (by decide) (by decide) hP hD hS (lv_sub hl [6, 4, 3, 2, 1, 0] rfl)
  · have zc4 := neK rfl (show (0 : Int32).toInt = 0 by decide) c4
    refine lv_iload_n hx hb dX10_penny_11 rfl (lv_at hl 0 rfl) ?_
    exact retDi ((Fmw 2), (Fmw 3), (Amw 0), (Amw 1)) hx hb hr hlk hP hD hS dX10_penny_12 (trivial) (Nat.le_of_ble_eq_true rfl) (Nat.le_of_ble_eq_true rfl)

set_option maxRecDepth 100000 in
set_option maxHeartbeats 16000000 in
theorem sX10_penny_3 (l : Launch) (G : va_G) (cs : Nat → ClassId) (adm : Nat) (qm : Nat → Nat) (Fm : Nat → Int32) (Am : Nat → Nat → Int32) (Bm : Nat → Nat → Int64) (Dm : Int64) (hIm : IX10 Fm Am) (qms : Nat → Nat) (Fms : Nat → Int32) (Ams : Nat → Nat → Int32) (Bms : Nat → Nat → Int64) (Dms : Int64) (hIms : IX8 Fms Ams) (qmh : Nat → Nat) (Fmh : Nat → Int32) (Amh : Nat → Nat → Int32) (Bmh : Nat → Nat → Int64) (Dmh : Int64) (hImh : IX3 Fmh Amh) (qmn : Nat → Nat) (Fmn : Nat → Int32) (Amn : Nat → Nat → Int32) (Bmn : Nat → Nat → Int64) (Dmn : Int64) (hImn : IX5 Fmn Amn) (qmw : Nat → Nat) (Fmw : Nat → Int32) (Amw : Nat → Nat → Int32) (Bmw : Nat → Nat → Int64) (Dmw : Int64) (hImw : IX5 Fmw Amw) (qr3 : Nat → Nat) (Fr3 : Nat → Int32) (Ar3 : Nat → Nat → Int32) (Br3 : Nat → Nat → Int64) (Dr3 : Int64) (hIr3 : IX7 Fr3 Ar3) : ∀ sz : Nat, Met l yX10_penny (wk yX10_penny cX10_penny 9 (some .int)) (rmk 5 0 0) (PreD G (TY cs) [.ref adm, .int 3] ((uX10 cs adm qm Fm Am Bm Dm) ++ ((uX8 cs (qm 3) qms Fms Ams Bms Dms) ++ ((uX3 cs (qms 0) qmh Fmh Amh Bmh Dmh) ++ ((uX5 cs (qm 6) qmn Fmn Amn Bmn Dmn) ++ ((uX5 cs (qm 7) qmw Fmw Amw Bmw Dmw) ++ (uX7 cs (qm 23) qr3 Fr3 Ar3 Br3 Dr3)))))) sz) ((QDi G (fun (r : Int32) (u : Int32 × Int32 × (Nat → Int32) × (Nat → Int32)) => True) (fun u : Int32 × Int32 × (Nat → Int32) × (Nat → Int32) => ((uX10 cs adm qm Fm Am Bm Dm) ++ ((uX8 cs (qm 3) qms Fms Ams Bms Dms) ++ ((uX3 cs (qms 0) qmh Fmh Amh Bmh Dmh) ++ ((uX5 cs (qm 6) qmn Fmn Amn Bmn Dmn) ++ ((wX5 cs (qm 7) qmw (upd (upd Fmw 2 u.1) 3 u.2.1) (vA (vA Amw 0 u.2.2.1) 1 u.2.2.2) Bmw Dmw) ++ (uX7 cs (qm 23) qr3 Fr3 Ar3 Br3 Dr3)))))))) (va_A ((uX10 cs adm qm Fm Am Bm Dm) ++ ((uX8 cs (qm 3) qms Fms Ams Bms Dms) ++ ((uX3 cs (qms 0) qmh Fmh Amh Bmh Dmh) ++ ((uX5 cs (qm 6) qmn Fmn Amn Bmn Dmn) ++ ((uX5 cs (qm 7) qmw Fmw Amw Bmw Dmw) ++ (uX7 cs (qm 23) qr3 Fr3 Ar3 Br3 Dr3)))))) sz)) 0 0 (va_A ((uX10 cs adm qm Fm Am Bm Dm) ++ ((uX8 cs (qm 3) qms Fms Ams Bms Dms) ++ ((uX3 cs (qms 0) qmh Fmh Amh Bmh Dmh) ++ ((uX5 cs (qm 6) qmn Fmn Amn Bmn Dmn) ++ ((uX5 cs (qm 7) qmw Fmw Amw Bmw Dmw) ++ (uX7 cs (qm 23) qr3 Fr3 Ar3 Br3 Dr3)))))) sz) := by
  refine mkD (Qc := (QDi G (fun (r : Int32) (u : Int32 × Int32 × (Nat → Int32) × (Nat → Int32)) => True) (fun u : Int32 × Int32 × (Nat → Int32) × (Nat → Int32) => ((uX10 cs adm qm Fm Am Bm Dm) ++ ((uX8 cs (qm 3) qms Fms Ams Bms Dms) ++ ((uX3 cs (qms 0) qmh Fmh Amh Bmh Dmh) ++ ((uX5 cs (qm 6) qmn Fmn Amn Bmn Dmn) ++ ((wX5 cs (qm 7) qmw (upd (upd Fmw 2 u.1) 3 u.2.1) (vA (vA Amw 0 u.2.2.1) 1 u.2.2.2) Bmw Dmw) ++ (uX7 cs (qm 23) qr3 Fr3 Ar3 Br3 Dr3))))))))) (by decide) (by simp [lg_sl, Value.category]) ?_
  intro p e s m args below meth c ls A0 hx hb hml hr hlk hown hmn ht hK hP hD hS hA hl
  have hl : lv_has ls 9 [(0, .ref adm), (1, .int 3)] := hl
  refine lv_aload_n hx hb dX10_penny_0 rfl (lv_at hl 0 rfl) ?_
  refine lv_iload_n hx hb dX10_penny_1 rfl (lv_at hl 1 rfl) ?_
  refine lv_iconst (v := 1) hx hb dX10_penny_2 (by decide) ?_
  refine behR (runVP (As := [.int 3, .int 1]) (rest := []) ⟨hx, hb, hml, hown, ht⟩ (sX10_askRound_3 l G cs adm qm Fm Am Bm Dm hIm qms Fms Ams Bms Dms hIms qmh Fmh Amh Bmh Dmh hImh qr3 Fr3 Ar3 Br3 Dr3 hIr3 1 (by decide)) okV_RX10_186 ⟨by decide, by decide⟩ hK hP [0, 1, 2, 3, 4, 5, 6, 7, 8, 9, 10, 11, 12, 19, 20] rfl 0 rfl rfl hl.1 rfl (Nat.le_of_ble_eq_true rfl) dX10_penny_3 ⟨by decide, by decide⟩) hP hS hA (fun r1 H locs hr1 hP hS => ?_)
  have kk2 : (3 : Int32).toInt = 3 := by decide
  have kk3 : (1 : Int32).toInt = 1 := by decide
  have hr1 : ((r1.toInt = 0 ∧ (1 : Int32).toInt = 1) ∨ r1.toInt = -2 ∨ r1.toInt = -6) ∧ RWk r1 0 (Br3 0) (-1) ((Fmh 5).toInt - 1) (Fr3 3).toInt := hr1
  refine lv_istore_n (lv' := [(2, .int r1), (0, .ref adm), (1, .int 3)]) hx hb dX10_penny_6 rfl hl (by decide) rfl (fun ls hl => ?_)
  refine lv_iload_n hx hb dX10_penny_7 rfl (lv_at hl 0 rfl) ?_
  refine lv_if_eq (tgt := 13) hx hb dX10_penny_8 (by decide) (fun c4 => ?_) (fun c4 => ?_)
  · have zc4 := eqK rfl (show (0 : Int32).toInt = 0 by decide) c4
    refine lv_aload_n hx hb dX10_penny_13 rfl (lv_at hl 1 rfl) ?_
    refine getF (v := .ref (qm 5)) hx hb ht hown hK hP iTX10 0 5 rfl rfl (by decide) fl_RX10_41 rfl dX10_penny_14 ?_
    refine lv_iload_n hx hb dX10_penny_17 rfl (lv_at hl 2 rfl) ?_
    refine va_aldq hx hb hK.1 hP 2 5 rfl rfl (show ¬ (_ ∨ _) by decide) dX10_penny_18 ?_
    refine W.eq (g2 := F0 m 19 ls [.ref (qm 23)]) rfl ?_
    refine lv_astore_n (lv' := [(3, .ref (qm 23)), (2, .int r1), (0, .ref adm), (1, .int 3)]) hx hb dX10_penny_19 rfl hl (by decide) rfl (fun ls hl => ?_)
    refine lv_aload_n hx hb dX10_penny_20 rfl (lv_at hl 0 rfl) ?_
    refine behR (runVP (As := []) (rest := []) ⟨hx, hb, hml, hown, ht⟩ (sX7_callCount l G cs (qm 23) qr3 Fr3 Ar3 Br3 Dr3 hIr3 ) okV_RX10_212 ⟨by decide, by decide⟩ hK hP [19, 20] rfl 19 rfl rfl hl.1 rfl (Nat.le_of_ble_eq_true rfl) dX10_penny_21 ⟨by decide, by decide⟩) hP hS hA (fun r5 H locs hr5 hP hS => ?_)
    refine lv_istore (lv' := [(4, .int r5), (3, .ref (qm 23)), (2, .int r1), (0, .ref adm), (1, .int 3)]) hx hb dX10_penny_24 hl (by decide) rfl (fun ls hl => ?_)
    refine lv_iconst (v := 0) hx hb dX10_penny_26 (by decide) ?_
    refine lv_istore (lv' := [(5, .int 0), (4, .int r5), (3, .ref (qm 23)), (2, .int r1), (0, .ref adm), (1, .int 3)]) hx hb dX10_penny_27 hl (by decide) rfl (fun ls hl => ?_)
    refine lv_iconst (v := 0) hx hb dX10_penny_29 (by decide) ?_
    refine lv_istore (lv' := [(6, .int 0), (5, .int 0), (4, .int r5), (3, .ref (qm 23)), (2, .int r1), (0, .ref adm), (1, .int 3)]) hx hb dX10_penny_30 hl (by decide) rfl (fun ls hl => ?_)
    refine lv_iconst (v := 0) hx hb dX10_penny_32 (by decide) ?_
    refine lv_istore (lv' := [(7, .int 0), (6, .int 0), (5, .int 0), (4, .int r5), (3, .ref (qm 23)), (2, .int r1), (0, .ref adm), (1, .int 3)]) hx hb dX10_penny_33 hl (by decide) rfl (fun ls hl => ?_)
    have B35 : ∀ (n : Nat) (x35_5 : Int32) (x35_6 : Int32) (x35_7 : Int32) (fmw2_35 : Int32) (fmw3_35 : Int32) (amw0_35 : (Nat → Int32)) (amw1_35 : (Nat → Int32)) (H : Heap) (locs : List Loc) (ls : Array Slot), (10 - x35_7.toInt).toNat < n → (0 : Int) ≤ x35_5.toInt ∧ x35_5.toInt ≤ 9 → (0 : Int) ≤ x35_7.toInt ∧ x35_7.toInt ≤ 10 → va_P G vwCl ((uX10 cs adm qm Fm Am Bm Dm) ++ ((uX8 cs (qm 3) qms Fms Ams Bms Dms) ++ ((uX3 cs (qms 0) qmh Fmh Amh Bmh Dmh) ++ ((uX5 cs (qm 6) qmn Fmn Amn Bmn Dmn) ++ ((uX5 cs (qm 7) qmw (upv 3 fmw3_35 (upv 2 fmw2_35 Fmw)) (vB 1 amw1_35 (vB 0 amw0_35 Amw)) Bmw Dmw) ++ (uX7 cs (qm 23) qr3 Fr3 Ar3 Br3 Dr3)))))) H → va_D A0 ((uX10 cs adm qm Fm Am Bm Dm) ++ ((uX8 cs (qm 3) qms Fms Ams Bms Dms) ++ ((uX3 cs (qms 0) qmh Fmh Amh Bmh Dmh) ++ ((uX5 cs (qm 6) qmn Fmn Amn Bmn Dmn) ++ ((uX5 cs (qm 7) qmw (upv 3 fmw3_35 (upv 2 fmw2_35 Fmw)) (vB 1 amw1_35 (vB 0 amw0_35 Amw)) Bmw Dmw) ++ (uX7 cs (qm 23) qr3 Fr3 Ar3 Br3 Dr3)))))) → va_S A0 s.heap H locs → lv_has ls 9 [(0, .ref adm), (3, .ref (qm 23)), (4, .int r5), (5, .int x35_5), (6, .int x35_6), (7, .int x35_7)] → W p l e (rmk 5 0 0) s m args below meth c H locs 0 0 (MQ below ((QDi G (fun (r : Int32) (u : Int32 × Int32 × (Nat → Int32) × (Nat → Int32)) => True) (fun u : Int32 × Int32 × (Nat → Int32) × (Nat → Int32) => ((uX10 cs adm qm Fm Am Bm Dm) ++ ((uX8 cs (qm 3) qms Fms Ams Bms Dms) ++ ((uX3 cs (qms 0) qmh Fmh Amh Bmh Dmh) ++ ((uX5 cs (qm 6) qmn Fmn Amn Bmn Dmn) ++ ((wX5 cs (qm 7) qmw (upd (upd Fmw 2 u.1) 3 u.2.1) (vA (vA Amw 0 u.2.2.1) 1 u.2.2.2) Bmw Dmw) ++ (uX7 cs (qm 23) qr3 Fr3 Ar3 Br3 Dr3)))))))) A0) args s 0 0 A0) (F0 m 35 ls []) := by
      intro n
      induction n with
      | zero => intro x35_5 x35_6 x35_7 fmw2_35 fmw3_35 amw0_35 amw1_35 H locs ls hmeas hx35_5 hx35_7 hP hD hS hl; exact absurd hmeas (Nat.not_lt_zero _)
      | succ n ih35 =>
        intro x35_5 x35_6 x35_7 fmw2_35 fmw3_35 amw0_35 amw1_35 H locs ls hmeas hx35_5 hx35_7 hP hD hS hl
        refine lv_iload hx hb dX10_penny_35 (lv_at hl 5 rfl) ?_
        refine lv_bipush (v := 9) hx hb dX10_penny_37 (by decide) ?_
        refine lv_icmp_gt (tgt := 91) hx hb dX10_penny_39 (by decide) (fun c24001 => ?_) (fun c24001 => ?_)
        · have zc24001 := ltK (show (9 : Int32).toInt = 9 by decide) rfl c24001
          refine lv_iload hx hb dX10_penny_91 (lv_at hl 3 rfl) ?_
          exact retDi (fmw2_35, fmw3_35, amw0_35, amw1_35) hx hb hr hlk hP hD hS dX10_penny_93 (trivial) (Nat.le_of_ble_eq_true rfl) (Nat.le_of_ble_eq_true rfl)
        · have zc24001 := nltK (show (9 : Int32).toInt = 9 by decide) rfl c24001
          refine lv_aload_n hx hb dX10_penny_42 rfl (lv_at hl 0 rfl) ?_
          refine lv_aload_n hx hb dX10_penny_43 rfl (lv_at hl 0 rfl) ?_
          refine lv_aload_n hx hb dX10_penny_44 rfl (lv_at hl 1 rfl) ?_
          refine lv_iload hx hb dX10_penny_45 (lv_at hl 5 rfl) ?_
          refine behDi (wr := ([] : va_W)) (runVD (As := [.ref (qm 23), .int x35_7]) (rest := [.ref adm]) ⟨hx, hb, hml, hown, ht⟩ (sX10_foundIn l G cs adm qm Fm Am Bm Dm hIm qms Fms Ams Bms Dms hIms qmh Fmh Amh Bmh Dmh hImh qmn Fmn Amn Bmn Dmn hImn qmw (upv 3 fmw3_35 (upv 2 fmw2_35 Fmw)) (vB 1 amw1_35 (vB 0 amw0_35 Amw)) Bmw Dmw (IB_av (k := 1) (IB_av (k := 0) (IB_pv (k := 3) (IB_pv (k := 2) hImw (i32b _)) (i32b _)) (AJ_full _)) (AJ_full _)) (qm 23) qr3 Fr3 Ar3 Br3 Dr3 hIr3 x35_7 (by omega)) okV_RX10_190 ⟨by decide, by decide⟩ hK hP hD [0, 1, 2, 3, 4, 5, 6, 7, 8, 9, 10, 11, 12, 13, 14, 15, 16, 17, 18, 19, 20] rfl (by decide) rfl 0 rfl rfl hl.1 rfl (Nat.le_of_ble_eq_true rfl) dX10_penny_47 ⟨(Nat.le_of_ble_eq_true rfl), (Nat.le_of_ble_eq_true rfl)⟩) hP hD hS hA [0, 1, 2, 3, 4, 5, 6, 7, 8, 9, 10, 11, 12, 13, 14, 15, 16, 17, 18, 19, 20] [] rfl rfl (by decide) (by decide) (fun r9 u H locs hu hP hD hS => ?_)
          obtain ⟨x24002, x24003, g24004, g24005⟩ := u
          obtain ⟨r24006, rfl⟩ : ∃ z, z = r9 := ⟨_, rfl⟩
          have hr24006 := hu
          have hP : va_P G vwCl ((uX10 cs adm qm Fm Am Bm Dm) ++ ((uX8 cs (qm 3) qms Fms Ams Bms Dms) ++ ((uX3 cs (qms 0) qmh Fmh Amh Bmh Dmh) ++ ((uX5 cs (qm 6) qmn Fmn Amn Bmn Dmn) ++ ((uX5 cs (qm 7) qmw (upv 3 x24003 (upv 2 x24002 Fmw)) (vB 1 g24005 (vB 0 g24004 Amw)) Bmw Dmw) ++ (uX7 cs (qm 23) qr3 Fr3 Ar3 Br3 Dr3)))))) H := hP.sub [0, 1, 2, 3, 4, 5, 6, 7, 8, 9, 10, 11, 12, 13, 14, 15, 16, 17, 18, 19, 20] rfl
          have hD : va_D A0 ((uX10 cs adm qm Fm Am Bm Dm) ++ ((uX8 cs (qm 3) qms Fms Ams Bms Dms) ++ ((uX3 cs (qms 0) qmh Fmh Amh Bmh Dmh) ++ ((uX5 cs (qm 6) qmn Fmn Amn Bmn Dmn) ++ ((uX5 cs (qm 7) qmw (upv 3 x24003 (upv 2 x24002 Fmw)) (vB 1 g24005 (vB 0 g24004 Amw)) Bmw Dmw) ++ (uX7 cs (qm 23) qr3 Fr3 Ar3 Br3 Dr3)))))) := hD.sub [0, 1, 2, 3, 4, 5, 6, 7, 8, 9, 10, 11, 12, 13, 14, 15, 16, 17, 18, 19, 20] (by decide) rfl
          refine lv_aload_n hx hb dX10_penny_50 rfl (lv_at hl 1 rfl) ?_
          refine getF (v := .int (Fr3 3)) hx hb ht hown hK hP iTX7 19 3 rfl rfl (by decide) fl_RX10_194 rfl dX10_penny_51 ?_
          have zf24007 : (0 : Int) ≤ (Fr3 3).toInt ∧ (Fr3 3).toInt ≤ 60 := hIr3.1 3
          refine behR (runVP (As := [.int r24006, .int (Fr3 3)]) (rest := []) ⟨hx, hb, hml, hown, ht⟩ (sX10_gainOf l G cs adm qm Fm Am Bm Dm hIm qms Fms Ams Bms Dms hIms qmh Fmh Amh Bmh Dmh hImh r24006 (Fr3 3) ) okV_RX10_202 ⟨by decide, by decide⟩ hK hP [0, 1, 2, 3, 4, 5, 6, 7, 8, 9, 10, 11, 12] rfl 0 rfl rfl hl.1 rfl (Nat.le_of_ble_eq_true rfl) dX10_penny_54 ⟨by decide, by decide⟩) hP hS hA (fun r24008 H locs hr24008 hP hS => ?_)
          refine lv_iload hx hb dX10_penny_57 (lv_at hl 5 rfl) ?_
          refine lv_iload hx hb dX10_penny_59 (lv_at hl 2 rfl) ?_
          refine lv_imul hx hb dX10_penny_61 ?_
          refine lv_topi (fun v24009 ev24009 => ?_)
          refine lv_isub hx hb dX10_penny_62 ?_
          refine lv_topi (fun v24010 ev24010 => ?_)
          refine lv_istore (lv' := [(8, .int v24010), (0, .ref adm), (3, .ref (qm 23)), (4, .int r5), (5, .int x35_5), (6, .int x35_6), (7, .int x35_7)]) hx hb dX10_penny_63 hl (by decide) rfl (fun ls hl => ?_)
          refine lv_iload hx hb dX10_penny_65 (lv_at hl 6 rfl) ?_
          have B85 : ∀ (x85_5 : Int32) (x85_6 : Int32) (H : Heap) (locs : List Loc) (ls : Array Slot), (0 : Int) ≤ x85_5.toInt ∧ x85_5.toInt ≤ 9 → va_P G vwCl ((uX10 cs adm qm Fm Am Bm Dm) ++ ((uX8 cs (qm 3) qms Fms Ams Bms Dms) ++ ((uX3 cs (qms 0) qmh Fmh Amh Bmh Dmh) ++ ((uX5 cs (qm 6) qmn Fmn Amn Bmn Dmn) ++ ((uX5 cs (qm 7) qmw (upv 3 x24003 (upv 2 x24002 Fmw)) (vB 1 g24005 (vB 0 g24004 Amw)) Bmw Dmw) ++ (uX7 cs (qm 23) qr3 Fr3 Ar3 Br3 Dr3)))))) H → va_D A0 ((uX10 cs adm qm Fm Am Bm Dm) ++ ((uX8 cs (qm 3) qms Fms Ams Bms Dms) ++ ((uX3 cs (qms 0) qmh Fmh Amh Bmh Dmh) ++ ((uX5 cs (qm 6) qmn Fmn Amn Bmn Dmn) ++ ((uX5 cs (qm 7) qmw (upv 3 x24003 (upv 2 x24002 Fmw)) (vB 1 g24005 (vB 0 g24004 Amw)) Bmw Dmw) ++ (uX7 cs (qm 23) qr3 Fr3 Ar3 Br3 Dr3)))))) → va_S A0 s.heap H locs → lv_has ls 9 [(0, .ref adm), (3, .ref (qm 23)), (4, .int r5), (5, .int x85_5), (6, .int x85_6), (7, .int x35_7)] → W p l e (rmk 5 0 0) s m args below meth c H locs 0 0 (MQ below ((QDi G (fun (r : Int32) (u : Int32 × Int32 × (Nat → Int32) × (Nat → Int32)) => True) (fun u : Int32 × Int32 × (Nat → Int32) × (Nat → Int32) => ((uX10 cs adm qm Fm Am Bm Dm) ++ ((uX8 cs (qm 3) qms Fms Ams Bms Dms) ++ ((uX3 cs (qms 0) qmh Fmh Amh Bmh Dmh) ++ ((uX5 cs (qm 6) qmn Fmn Amn Bmn Dmn) ++ ((wX5 cs (qm 7) qmw (upd (upd Fmw 2 u.1) 3 u.2.1) (vA (vA Amw 0 u.2.2.1) 1 u.2.2.2) Bmw Dmw) ++ (uX7 cs (qm 23) qr3 Fr3 Ar3 Br3 Dr3)))))))) A0) args s 0 0 A0) (F0 m 85 ls []) := by
            intro x85_5 x85_6 H locs ls hx85_5 hP hD hS hl
            obtain ⟨v49001, ev49001⟩ : ∃ z : Int32, z = x35_7 + 1 := ⟨_, rfl⟩
            have tv49001 : v49001.toInt = x35_7.toInt + 1 := by rw [ev49001]; exact addT rfl (by decide) (by omega)
            refine lv_iinc (v := v49001) (lv' := [(7, .int v49001), (0, .ref adm), (3, .ref (qm 23)), (4, .int r5), (5, .int x85_5), (6, .int x85_6)]) hx hb dX10_penny_85 hl (k := 5) rfl (by rw [ev49001]; rfl) (by decide) rfl (fun ls hl => ?_)
            refine lv_goto (tgt := 35) hx hb dX10_penny_88 (by decide) ?_
            exact ih35 x85_5 x85_6 v49001 x24002 x24003 g24004 g24005 H locs ls (by omega) (by omega) (by omega) hP hD hS (lv_sub hl [1, 2, 3, 4, 5, 0] rfl)
          have B77 : ∀ (H : Heap) (locs : List Loc) (ls : Array Slot), va_P G vwCl ((uX10 cs adm qm Fm Am Bm Dm) ++ ((uX8 cs (qm 3) qms Fms Ams Bms Dms) ++ ((uX3 cs (qms 0) qmh Fmh Amh Bmh Dmh) ++ ((uX5 cs (qm 6) qmn Fmn Amn Bmn Dmn) ++ ((uX5 cs (qm 7) qmw (upv 3 x24003 (upv 2 x24002 Fmw)) (vB 1 g24005 (vB 0 g24004 Amw)) Bmw Dmw) ++ (uX7 cs (qm 23) qr3 Fr3 Ar3 Br3 Dr3)))))) H → va_D A0 ((uX10 cs adm qm Fm Am Bm Dm) ++ ((uX8 cs (qm 3) qms Fms Ams Bms Dms) ++ ((uX3 cs (qms 0) qmh Fmh Amh Bmh Dmh) ++ ((uX5 cs (qm 6) qmn Fmn Amn Bmn Dmn) ++ ((uX5 cs (qm 7) qmw (upv 3 x24003 (upv 2 x24002 Fmw)) (vB 1 g24005 (vB 0 g24004 Amw)) Bmw Dmw) ++ (uX7 cs (qm 23) qr3 Fr3 Ar3 Br3 Dr3)))))) → va_S A0 s.heap H locs → lv_has ls 9 [(0, .ref adm), (3, .ref (qm 23)), (4, .int r5), (7, .int x35_7), (8, .int v24010)] → W p l e (rmk 5 0 0) s m args below meth c H locs 0 0 (MQ below ((QDi G (fun (r : Int32) (u : Int32 × Int32 × (Nat → Int32) × (Nat → Int32)) => True) (fun u : Int32 × Int32 × (Nat → Int32) × (Nat → Int32) => ((uX10 cs adm qm Fm Am Bm Dm) ++ ((uX8 cs (qm 3) qms Fms Ams Bms Dms) ++ ((uX3 cs (qms 0) qmh Fmh Amh Bmh Dmh) ++ ((uX5 cs (qm 6) qmn Fmn Amn Bmn Dmn) ++ ((wX5 cs (qm 7) qmw (upd (upd Fmw 2 u.1) 3 u.2.1) (vA (vA Amw 0 u.2.2.1) 1 u.2.2.2) Bmw Dmw) ++ (uX7 cs (qm 23) qr3 Fr3 Ar3 Br3 Dr3)))))))) A0) args s 0 0 A0) (F0 m 77 ls []) := by
            intro H locs ls hP hD hS hl
            refine lv_iload hx hb dX10_penny_77 (lv_at hl 4 rfl) ?_
            refine lv_istore (lv' := [(6, .int v24010), (0, .ref adm), (3, .ref (qm 23)), (4, .int r5), (7, .int x35_7), (8, .int v24010)]) hx hb dX10_penny_79 hl (by decide) rfl (fun ls hl => ?_)
            refine lv_iload hx hb dX10_penny_81 (lv_at hl 4 rfl) ?_
            refine lv_istore (lv' := [(5, .int x35_7), (6, .int v24010), (0, .ref adm), (3, .ref (qm 23)), (4, .int r5), (7, .int x35_7), (8, .int v24010)]) hx hb dX10_penny_83 hl (by decide) rfl (fun ls hl => ?_)
            exact B85 x35_7 v24010 H locs ls (by omega) hP hD hS (lv_sub hl [2, 3, 4, 0, 1, 5] rfl)
          refine lv_if_eq (tgt := 77) hx hb dX10_penny_67 (by decide) (fun c24011 => ?_) (fun c24011 => ?_)
          · have zc24011 := eqK rfl (show (0 : Int32).toInt = 0 by decide) c24011
            exact B77 H locs ls hP hD hS (lv_sub hl [1, 2, 3, 6, 0] rfl)
          · have zc24011 := neK rfl (show (0 : Int32).toInt = 0 by decide) c24011
            refine lv_iload hx hb dX10_penny_70 (lv_at hl 0 rfl) ?_
            refine lv_iload hx hb dX10_penny_72 (lv_at hl 5 rfl) ?_
            refine lv_icmp_le (tgt := 85) hx hb dX10_penny_74 (by decide) (fun c24012 => ?_) (fun c24012 => ?_)
            · have zc24012 := leK rfl rfl c24012
              exact B85 x35_5 x35_6 H locs ls (by omega) hP hD hS (lv_sub hl [1, 2, 3, 4, 5, 6] rfl)
            · have zc24012 := nleK rfl rfl c24012
              exact B77 H locs ls hP hD hS (lv_sub hl [1, 2, 3, 6, 0] rfl)
    exact B35 _ 0 0 0 (Fmw 2) (Fmw 3) (Amw 0) (Amw 1) H locs ls (Nat.lt_succ_self _) (by decide) (by decide) hP hD hS (lv_sub hl [6, 4, 3, 2, 1, 0] rfl)
  · have zc4 := neK rfl (show (0 : Int32).toInt = 0 by decide) c4
    refine lv_iload_n hx hb dX10_penny_11 rfl (lv_at hl 0 rfl) ?_
    exact retDi ((Fmw 2), (Fmw 3), (Amw 0), (Amw 1)) hx hb hr hlk hP hD hS dX10_penny_12 (trivial) (Nat.le_of_ble_eq_true rfl) (Nat.le_of_ble_eq_true rfl)

set_option maxRecDepth 100000 in
set_option maxHeartbeats 16000000 in
theorem sX10_penny_lo (l : Launch) (G : va_G) (cs : Nat → ClassId) (adm : Nat) (qm : Nat → Nat) (Fm : Nat → Int32) (Am : Nat → Nat → Int32) (Bm : Nat → Nat → Int64) (Dm : Int64) (hIm : IX10 Fm Am) (qms : Nat → Nat) (Fms : Nat → Int32) (Ams : Nat → Nat → Int32) (Bms : Nat → Nat → Int64) (Dms : Int64) (hIms : IX8 Fms Ams) (qmh : Nat → Nat) (Fmh : Nat → Int32) (Amh : Nat → Nat → Int32) (Bmh : Nat → Nat → Int64) (Dmh : Int64) (hImh : IX3 Fmh Amh) (qmn : Nat → Nat) (Fmn : Nat → Int32) (Amn : Nat → Nat → Int32) (Bmn : Nat → Nat → Int64) (Dmn : Int64) (hImn : IX5 Fmn Amn) (qmw : Nat → Nat) (Fmw : Nat → Int32) (Amw : Nat → Nat → Int32) (Bmw : Nat → Nat → Int64) (Dmw : Int64) (hImw : IX5 Fmw Amw) (a1 : Int32) (ha1 : (-2147483648 : Int) ≤ a1.toInt ∧ a1.toInt ≤ -1) : ∀ sz : Nat, Met l yX10_penny (wk yX10_penny cX10_penny 9 (some .int)) (rmk 3 0 0) (PreD G (TY cs) [.ref adm, .int a1] ((uX10 cs adm qm Fm Am Bm Dm) ++ ((uX8 cs (qm 3) qms Fms Ams Bms Dms) ++ ((uX3 cs (qms 0) qmh Fmh Amh Bmh Dmh) ++ ((uX5 cs (qm 6) qmn Fmn Amn Bmn Dmn) ++ (uX5 cs (qm 7) qmw Fmw Amw Bmw Dmw))))) sz) ((QDi G (fun (r : Int32) (u : Unit) => True) (fun u : Unit => ((uX10 cs adm qm Fm Am Bm Dm) ++ ((uX8 cs (qm 3) qms Fms Ams Bms Dms) ++ ((uX3 cs (qms 0) qmh Fmh Amh Bmh Dmh) ++ ((uX5 cs (qm 6) qmn Fmn Amn Bmn Dmn) ++ (uX5 cs (qm 7) qmw Fmw Amw Bmw Dmw))))))) (va_A ((uX10 cs adm qm Fm Am Bm Dm) ++ ((uX8 cs (qm 3) qms Fms Ams Bms Dms) ++ ((uX3 cs (qms 0) qmh Fmh Amh Bmh Dmh) ++ ((uX5 cs (qm 6) qmn Fmn Amn Bmn Dmn) ++ (uX5 cs (qm 7) qmw Fmw Amw Bmw Dmw))))) sz)) 0 0 (va_A ((uX10 cs adm qm Fm Am Bm Dm) ++ ((uX8 cs (qm 3) qms Fms Ams Bms Dms) ++ ((uX3 cs (qms 0) qmh Fmh Amh Bmh Dmh) ++ ((uX5 cs (qm 6) qmn Fmn Amn Bmn Dmn) ++ (uX5 cs (qm 7) qmw Fmw Amw Bmw Dmw))))) sz) := by
  refine mkD (Qc := (QDi G (fun (r : Int32) (u : Unit) => True) (fun u : Unit => ((uX10 cs adm qm Fm Am Bm Dm) ++ ((uX8 cs (qm 3) qms Fms Ams Bms Dms) ++ ((uX3 cs (qms 0) qmh Fmh Amh Bmh Dmh) ++ ((uX5 cs (qm 6) qmn Fmn Amn Bmn Dmn) ++ (uX5 cs (qm 7) qmw Fmw Amw Bmw Dmw)))))))) (by decide) (by simp [lg_sl, Value.category]) ?_
  intro p e s m args below meth c ls A0 hx hb hml hr hlk hown hmn ht hK hP hD hS hA hl
  have hl : lv_has ls 9 [(0, .ref adm), (1, .int a1)] := hl
  refine lv_aload_n hx hb dX10_penny_0 rfl (lv_at hl 0 rfl) ?_
  refine lv_iload_n hx hb dX10_penny_1 rfl (lv_at hl 1 rfl) ?_
  refine lv_iconst (v := 1) hx hb dX10_penny_2 (by decide) ?_
  have bb1 := i32b a1
  refine behR (runVP (As := [.int a1, .int 1]) (rest := []) ⟨hx, hb, hml, hown, ht⟩ (sX10_askRound_lo l G cs adm qm Fm Am Bm Dm hIm qms Fms Ams Bms Dms hIms qmh Fmh Amh Bmh Dmh hImh a1 1 (by omega) (by decide)) okV_RX10_186 ⟨by decide, by decide⟩ hK hP [0, 1, 2, 3, 4, 5, 6, 7, 8, 9, 10, 11, 12] rfl 0 rfl rfl hl.1 rfl (Nat.le_of_ble_eq_true rfl) dX10_penny_3 ⟨by decide, by decide⟩) hP hS hA (fun r2 H locs hr2 hP hS => ?_)
  have kk3 : (1 : Int32).toInt = 1 := by decide
  have hr2 : r2.toInt = -2 := hr2
  refine lv_istore_n (lv' := [(2, .int r2), (0, .ref adm), (1, .int a1)]) hx hb dX10_penny_6 rfl hl (by decide) rfl (fun ls hl => ?_)
  refine lv_iload_n hx hb dX10_penny_7 rfl (lv_at hl 0 rfl) ?_
  refine lv_if_eq (tgt := 13) hx hb dX10_penny_8 (by decide) (fun c4 => False.elim (by have zz := eqK rfl (show (0 : Int32).toInt = 0 by decide) c4; omega)) (fun c4 => ?_)
  refine lv_iload_n hx hb dX10_penny_11 rfl (lv_at hl 0 rfl) ?_
  exact retDi () hx hb hr hlk hP hD hS dX10_penny_12 (trivial) (Nat.le_of_ble_eq_true rfl) (Nat.le_of_ble_eq_true rfl)

