set_option maxRecDepth 100000 in
set_option maxHeartbeats 16000000 in
theorem sX10_gain_hi (l : Launch) (G : va_G) (cs : Nat → ClassId) (adm : Nat) (qm : Nat → Nat) (Fm : Nat → Int32) (Am : Nat → Nat → Int32) (Bm : Nat → Nat → Int64) (Dm : Int64) (hIm : IX10 Fm Am) (qms : Nat → Nat) (Fms : Nat → Int32) (Ams : Nat → Nat → Int32) (Bms : Nat → Nat → Int64) (Dms : Int64) (hIms : IX8 Fms Ams) (qmh : Nat → Nat) (Fmh : Nat → Int32) (Amh : Nat → Nat → Int32) (Bmh : Nat → Nat → Int64) (Dmh : Int64) (hImh : IX3 Fmh Amh) (qmn : Nat → Nat) (Fmn : Nat → Int32) (Amn : Nat → Nat → Int32) (Bmn : Nat → Nat → Int64) (Dmn : Int64) (hImn : IX5 Fmn Amn) (qmw : Nat → Nat) (Fmw : Nat → Int32) (Amw : Nat → Nat → Int32) (Bmw : Nat → Nat → Int64) (Dmw : Int64) (hImw : IX5 Fmw Amw) (a1 : Int32) (ha1 : (4 : Int) ≤ a1.toInt ∧ a1.toInt ≤ 2147483647) : ∀ sz : Nat, Met l yX10_gain (wk yX10_gain cX10_gain 3 (some .int)) (rmk 3 0 0) (PreD G (TY cs) [.ref adm, .int a1] ((uX10 cs adm qm Fm Am Bm Dm) ++ ((uX8 cs (qm 3) qms Fms Ams Bms Dms) ++ ((uX3 cs (qms 0) qmh Fmh Amh Bmh Dmh) ++ ((uX5 cs (qm 6) qmn Fmn Amn Bmn Dmn) ++ (uX5 cs (qm 7) qmw Fmw Amw Bmw Dmw))))) sz) ((QDi G (fun (r : Int32) (u : Unit) => True) (fun u : Unit => ((uX10 cs adm qm Fm Am Bm Dm) ++ ((uX8 cs (qm 3) qms Fms Ams Bms Dms) ++ ((uX3 cs (qms 0) qmh Fmh Amh Bmh Dmh) ++ ((uX5 cs (qm 6) qmn Fmn Amn Bmn Dmn) ++ (uX5 cs (qm 7) qmw Fmw Amw Bmw Dmw))))))) (va_A ((uX10 cs adm qm Fm Am Bm Dm) ++ ((uX8 cs (qm 3) qms Fms Ams Bms Dms) ++ ((uX3 cs (qms 0) qmh Fmh Amh Bmh Dmh) ++ ((uX5 cs (qm 6) qmn Fmn Amn Bmn Dmn) ++ (uX5 cs (qm 7) qmw Fmw Amw Bmw Dmw))))) sz)) 0 0 (va_A ((uX10 cs adm qm Fm Am Bm Dm) ++ ((uX8 cs (qm 3) qms Fms Ams Bms Dms) ++ ((uX3 cs (qms 0) qmh Fmh Amh Bmh Dmh) ++ ((uX5 cs (qm 6) qmn Fmn Amn Bmn Dmn) ++ (uX5 cs (qm 7) qmw Fmw Amw Bmw Dmw))))) sz) := by
  refine mkD (Qc := (QDi G (fun (r : Int32) (u : Unit) => True) (fun u : Unit => ((uX10 cs adm qm Fm Am Bm Dm) ++ ((uX8 cs (qm 3) qms Fms Ams Bms Dms) ++ ((uX3 cs (qms 0) qmh Fmh Amh Bmh Dmh) ++ ((uX5 cs (qm 6) qmn Fmn Amn Bmn Dmn) ++ (uX5 cs (qm 7) qmw Fmw Amw Bmw Dmw)))))))) (by decide) (by simp [lg_sl, Value.category]) ?_
  intro p e s m args below meth c ls A0 hx hb hml hr hlk hown hmn ht hK hP hD hS hA hl
  have hl : lv_has ls 3 [(0, .ref adm), (1, .int a1)] := hl
  refine lv_aload_n hx hb dX10_gain_0 rfl (lv_at hl 0 rfl) ?_
  refine lv_iload_n hx hb dX10_gain_1 rfl (lv_at hl 1 rfl) ?_
  refine lv_iconst (v := 1) hx hb dX10_gain_2 (by decide) ?_
  have bb1 := i32b a1
  refine behR (runVP (As := [.int a1, .int 1]) (rest := []) ⟨hx, hb, hml, hown, ht⟩ (sX10_askRound_hi l G cs adm qm Fm Am Bm Dm hIm qms Fms Ams Bms Dms hIms qmh Fmh Amh Bmh Dmh hImh a1 1 (by omega) (by decide)) okV_RX10_186 ⟨by decide, by decide⟩ hK hP [0, 1, 2, 3, 4, 5, 6, 7, 8, 9, 10, 11, 12] rfl 0 rfl rfl hl.1 rfl (Nat.le_of_ble_eq_true rfl) dX10_gain_3 ⟨by decide, by decide⟩) hP hS hA (fun r2 H locs hr2 hP hS => ?_)
  have kk3 : (1 : Int32).toInt = 1 := by decide
  have hr2 : r2.toInt = -2 := hr2
  refine lv_istore_n (lv' := [(2, .int r2), (0, .ref adm), (1, .int a1)]) hx hb dX10_gain_6 rfl hl (by decide) rfl (fun ls hl => ?_)
  refine lv_iload_n hx hb dX10_gain_7 rfl (lv_at hl 0 rfl) ?_
  refine lv_if_eq (tgt := 16) hx hb dX10_gain_8 (by decide) (fun c4 => False.elim (by have zz := eqK rfl (show (0 : Int32).toInt = 0 by decide) c4; omega)) (fun c4 => ?_)
  refine lv_iload_n hx hb dX10_gain_11 rfl (lv_at hl 0 rfl) ?_
  refine lv_ldc hx hb hown (ht _ ki_RX10_201) dX10_gain_12 ?_
  refine lv_imul hx hb dX10_gain_14 ?_
  refine lv_topi (fun v5 ev5 => ?_)
  have tv5 : v5.toInt = r2.toInt * 1000000 := by rw [ev5]; exact mulT rfl (show (1000000 : Int32).toInt = 1000000 by decide) (by omega)
  exact retDi () hx hb hr hlk hP hD hS dX10_gain_15 (trivial) (Nat.le_of_ble_eq_true rfl) (Nat.le_of_ble_eq_true rfl)

set_option maxRecDepth 100000 in
set_option maxHeartbeats 16000000 in
theorem sX10_stop_0 (l : Launch) (G : va_G) (cs : Nat → ClassId) (adm : Nat) (qm : Nat → Nat) (Fm : Nat → Int32) (Am : Nat → Nat → Int32) (Bm : Nat → Nat → Int64) (Dm : Int64) (hIm : IX10 Fm Am) (qms : Nat → Nat) (Fms : Nat → Int32) (Ams : Nat → Nat → Int32) (Bms : Nat → Nat → Int64) (Dms : Int64) (hIms : IX8 Fms Ams) (qmh : Nat → Nat) (Fmh : Nat → Int32) (Amh : Nat → Nat → Int32) (Bmh : Nat → Nat → Int64) (Dmh : Int64) (hImh : IX3 Fmh Amh) (qmn : Nat → Nat) (Fmn : Nat → Int32) (Amn : Nat → Nat → Int32) (Bmn : Nat → Nat → Int64) (Dmn : Int64) (hImn : IX5 Fmn Amn) (qmw : Nat → Nat) (Fmw : Nat → Int32) (Amw : Nat → Nat → Int32) (Bmw : Nat → Nat → Int64) (Dmw : Int64) (hImw : IX5 Fmw Amw) (qr0 : Nat → Nat) (Fr0 : Nat → Int32) (Ar0 : Nat → Nat → Int32) (Br0 : Nat → Nat → Int64) (Dr0 : Int64) (hIr0 : IX7 Fr0 Ar0) : ∀ sz : Nat, Met l yX10_stop (wk yX10_stop cX10_stop 8 (some .int)) (rmk 4 0 0) (PreD G (TY cs) [.ref adm, .int 0] ((uX10 cs adm qm Fm Am Bm Dm) ++ ((uX8 cs (qm 3) qms Fms Ams Bms Dms) ++ ((uX3 cs (qms 0) qmh Fmh Amh Bmh Dmh) ++ ((uX5 cs (qm 6) qmn Fmn Amn Bmn Dmn) ++ ((uX5 cs (qm 7) qmw Fmw Amw Bmw Dmw) ++ (uX7 cs (qm 20) qr0 Fr0 Ar0 Br0 Dr0)))))) sz) ((QDi G (fun (r : Int32) (u : Int32 × Int32 × (Nat → Int32) × (Nat → Int32)) => True) (fun u : Int32 × Int32 × (Nat → Int32) × (Nat → Int32) => ((uX10 cs adm qm Fm Am Bm Dm) ++ ((uX8 cs (qm 3) qms Fms Ams Bms Dms) ++ ((uX3 cs (qms 0) qmh Fmh Amh Bmh Dmh) ++ ((uX5 cs (qm 6) qmn Fmn Amn Bmn Dmn) ++ ((wX5 cs (qm 7) qmw (upd (upd Fmw 2 u.1) 3 u.2.1) (vA (vA Amw 0 u.2.2.1) 1 u.2.2.2) Bmw Dmw) ++ (uX7 cs (qm 20) qr0 Fr0 Ar0 Br0 Dr0)))))))) (va_A ((uX10 cs adm qm Fm Am Bm Dm) ++ ((uX8 cs (qm 3) qms Fms Ams Bms Dms) ++ ((uX3 cs (qms 0) qmh Fmh Amh Bmh Dmh) ++ ((uX5 cs (qm 6) qmn Fmn Amn Bmn Dmn) ++ ((uX5 cs (qm 7) qmw Fmw Amw Bmw Dmw) ++ (uX7 cs (qm 20) qr0 Fr0 Ar0 Br0 Dr0)))))) sz)) 0 0 (va_A ((uX10 cs adm qm Fm Am Bm Dm) ++ ((uX8 cs (qm 3) qms Fms Ams Bms Dms) ++ ((uX3 cs (qms 0) qmh Fmh Amh Bmh Dmh) ++ ((uX5 cs (qm 6) qmn Fmn Amn Bmn Dmn) ++ ((uX5 cs (qm 7) qmw Fmw Amw Bmw Dmw) ++ (uX7 cs (qm 20) qr0 Fr0 Ar0 Br0 Dr0)))))) sz) := by
  refine mkD (Qc := (QDi G (fun (r : Int32) (u : Int32 × Int32 × (Nat → Int32) × (Nat → Int32)) => True) (fun u : Int32 × Int32 × (Nat → Int32) × (Nat → Int32) => ((uX10 cs adm qm Fm Am Bm Dm) ++ ((uX8 cs (qm 3) qms Fms Ams Bms Dms) ++ ((uX3 cs (qms 0) qmh Fmh Amh Bmh Dmh) ++ ((uX5 cs (qm 6) qmn Fmn Amn Bmn Dmn) ++ ((wX5 cs (qm 7) qmw (upd (upd Fmw 2 u.1) 3 u.2.1) (vA (vA Amw 0 u.2.2.1) 1 u.2.2.2) Bmw Dmw) ++ (uX7 cs (qm 20) qr0 Fr0 Ar0 Br0 Dr0))))))))) (by decide) (by simp [lg_sl, Value.category]) ?_
  intro p e s m args below meth c ls A0 hx hb hml hr hlk hown hmn ht hK hP hD hS hA hl
  have hl : lv_has ls 8 [(0, .ref adm), (1, .int 0)] := hl
  refine lv_aload_n hx hb dX10_stop_0 rfl (lv_at hl 0 rfl) ?_
  refine lv_iload_n hx hb dX10_stop_1 rfl (lv_at hl 1 rfl) ?_
  refine lv_iconst (v := 1) hx hb dX10_stop_2 (by decide) ?_
  refine behR (runVP (As := [.int 0, .int 1]) (rest := []) ⟨hx, hb, hml, hown, ht⟩ (sX10_askRound_0 l G cs adm qm Fm Am Bm Dm hIm qms Fms Ams Bms Dms hIms qmh Fmh Amh Bmh Dmh hImh qr0 Fr0 Ar0 Br0 Dr0 hIr0 1 (by decide)) okV_RX10_186 ⟨by decide, by decide⟩ hK hP [0, 1, 2, 3, 4, 5, 6, 7, 8, 9, 10, 11, 12, 19, 20] rfl 0 rfl rfl hl.1 rfl (Nat.le_of_ble_eq_true rfl) dX10_stop_3 ⟨by decide, by decide⟩) hP hS hA (fun r1 H locs hr1 hP hS => ?_)
  have kk2 : (0 : Int32).toInt = 0 := by decide
  have kk3 : (1 : Int32).toInt = 1 := by decide
  have hr1 : ((r1.toInt = 0 ∧ (1 : Int32).toInt = 1) ∨ r1.toInt = -2 ∨ r1.toInt = -6) ∧ RWk r1 0 (Br0 0) (-1) ((Fmh 5).toInt - 1) (Fr0 3).toInt := hr1
  refine lv_istore_n (lv' := [(2, .int r1), (0, .ref adm), (1, .int 0)]) hx hb dX10_stop_6 rfl hl (by decide) rfl (fun ls hl => ?_)
  refine lv_iload_n hx hb dX10_stop_7 rfl (lv_at hl 0 rfl) ?_
  refine lv_if_eq (tgt := 13) hx hb dX10_stop_8 (by decide) (fun c4 => ?_) (fun c4 => ?_)
  · have zc4 := eqK rfl (show (0 : Int32).toInt = 0 by decide) c4
    refine lv_aload_n hx hb dX10_stop_13 rfl (lv_at hl 1 rfl) ?_
    refine getF (v := .ref (qm 5)) hx hb ht hown hK hP iTX10 0 5 rfl rfl (by decide) fl_RX10_41 rfl dX10_stop_14 ?_
    refine lv_iload_n hx hb dX10_stop_17 rfl (lv_at hl 2 rfl) ?_
    refine va_aldq hx hb hK.1 hP 2 5 rfl rfl (show ¬ (_ ∨ _) by decide) dX10_stop_18 ?_
    refine W.eq (g2 := F0 m 19 ls [.ref (qm 20)]) rfl ?_
    refine lv_astore_n (lv' := [(3, .ref (qm 20)), (2, .int r1), (0, .ref adm), (1, .int 0)]) hx hb dX10_stop_19 rfl hl (by decide) rfl (fun ls hl => ?_)
    refine lv_aload_n hx hb dX10_stop_20 rfl (lv_at hl 2 rfl) ?_
    refine getF (v := .ref (qm 7)) hx hb ht hown hK hP iTX10 0 7 rfl rfl (by decide) fl_RX10_52 rfl dX10_stop_21 ?_
    refine lv_aload_n hx hb dX10_stop_24 rfl (lv_at hl 2 rfl) ?_
    refine getF (v := .ref (qm 6)) hx hb ht hown hK hP iTX10 0 6 rfl rfl (by decide) fl_RX10_48 rfl dX10_stop_25 ?_
    refine behDw (wr := ((uX10 cs adm qm Fm Am Bm Dm) ++ ((uX8 cs (qm 3) qms Fms Ams Bms Dms) ++ ((uX3 cs (qms 0) qmh Fmh Amh Bmh Dmh) ++ (uX7 cs (qm 20) qr0 Fr0 Ar0 Br0 Dr0))))) (runVD (As := [.ref (qm 6)]) (rest := []) ⟨hx, hb, hml, hown, ht⟩ (sX5_copyFrom l G cs (qm 7) qmw Fmw Amw Bmw Dmw hImw (qm 6) qmn Fmn Amn Bmn Dmn hImn ) okV_RX10_179 ⟨by decide, by decide⟩ hK hP hD [16, 17, 18, 13, 14, 15] rfl (by decide) rfl 16 rfl rfl hl.1 rfl (Nat.le_of_ble_eq_true rfl) dX10_stop_28 ⟨(Nat.le_of_ble_eq_true rfl), (Nat.le_of_ble_eq_true rfl)⟩) hP hD hS hA [16, 17, 18, 13, 14, 15] [0, 1, 2, 3, 4, 5, 6, 7, 8, 9, 10, 11, 12, 19, 20] rfl rfl (by decide) (by decide) (fun u H locs hu hP hD hS => ?_)
    obtain ⟨x5, x6, g7⟩ := u
    have hr8 := hu
    have hP : va_P G vwCl ((uX10 cs adm qm Fm Am Bm Dm) ++ ((uX8 cs (qm 3) qms Fms Ams Bms Dms) ++ ((uX3 cs (qms 0) qmh Fmh Amh Bmh Dmh) ++ ((uX5 cs (qm 6) qmn Fmn Amn Bmn Dmn) ++ ((uX5 cs (qm 7) qmw (upv 3 x6 (upv 2 x5 Fmw)) (vB 0 g7 Amw) Bmw Dmw) ++ (uX7 cs (qm 20) qr0 Fr0 Ar0 Br0 Dr0)))))) H := hP.sub [0, 1, 2, 3, 4, 5, 6, 7, 8, 9, 10, 11, 12, 18, 19, 20, 15, 16, 17, 13, 14] rfl
    have hD : va_D A0 ((uX10 cs adm qm Fm Am Bm Dm) ++ ((uX8 cs (qm 3) qms Fms Ams Bms Dms) ++ ((uX3 cs (qms 0) qmh Fmh Amh Bmh Dmh) ++ ((uX5 cs (qm 6) qmn Fmn Amn Bmn Dmn) ++ ((uX5 cs (qm 7) qmw (upv 3 x6 (upv 2 x5 Fmw)) (vB 0 g7 Amw) Bmw Dmw) ++ (uX7 cs (qm 20) qr0 Fr0 Ar0 Br0 Dr0)))))) := hD.sub [0, 1, 2, 3, 4, 5, 6, 7, 8, 9, 10, 11, 12, 18, 19, 20, 15, 16, 17, 13, 14] (by decide) rfl
    refine lv_iconst (v := 0) hx hb dX10_stop_31 (by decide) ?_
    refine lv_istore (lv' := [(4, .int 0), (3, .ref (qm 20)), (2, .int r1), (0, .ref adm), (1, .int 0)]) hx hb dX10_stop_32 hl (by decide) rfl (fun ls hl => ?_)
    refine lv_iconst (v := 0) hx hb dX10_stop_34 (by decide) ?_
    refine lv_istore (lv' := [(5, .int 0), (4, .int 0), (3, .ref (qm 20)), (2, .int r1), (0, .ref adm), (1, .int 0)]) hx hb dX10_stop_35 hl (by decide) rfl (fun ls hl => ?_)
    refine lv_iconst (v := 0) hx hb dX10_stop_37 (by decide) ?_
    refine lv_istore (lv' := [(6, .int 0), (5, .int 0), (4, .int 0), (3, .ref (qm 20)), (2, .int r1), (0, .ref adm), (1, .int 0)]) hx hb dX10_stop_38 hl (by decide) rfl (fun ls hl => ?_)
    have B40 : ∀ (n : Nat) (x40_4 : Int32) (x40_5 : Int32) (x40_6 : Int32) (fmw3_40 : Int32) (amw0_40 : (Nat → Int32)) (amw1_40 : (Nat → Int32)) (H : Heap) (locs : List Loc) (ls : Array Slot), (60 - x40_6.toInt).toNat < n → (0 : Int) ≤ x40_4.toInt → (0 : Int) ≤ x40_5.toInt ∧ x40_5.toInt ≤ 60 → (0 : Int) ≤ x40_6.toInt ∧ x40_6.toInt ≤ 60 → va_P G vwCl ((uX10 cs adm qm Fm Am Bm Dm) ++ ((uX8 cs (qm 3) qms Fms Ams Bms Dms) ++ ((uX3 cs (qms 0) qmh Fmh Amh Bmh Dmh) ++ ((uX5 cs (qm 6) qmn Fmn Amn Bmn Dmn) ++ ((uX5 cs (qm 7) qmw (upv 3 fmw3_40 (upv 2 x5 Fmw)) (vB 1 amw1_40 (vB 0 amw0_40 Amw)) Bmw Dmw) ++ (uX7 cs (qm 20) qr0 Fr0 Ar0 Br0 Dr0)))))) H → va_D A0 ((uX10 cs adm qm Fm Am Bm Dm) ++ ((uX8 cs (qm 3) qms Fms Ams Bms Dms) ++ ((uX3 cs (qms 0) qmh Fmh Amh Bmh Dmh) ++ ((uX5 cs (qm 6) qmn Fmn Amn Bmn Dmn) ++ ((uX5 cs (qm 7) qmw (upv 3 fmw3_40 (upv 2 x5 Fmw)) (vB 1 amw1_40 (vB 0 amw0_40 Amw)) Bmw Dmw) ++ (uX7 cs (qm 20) qr0 Fr0 Ar0 Br0 Dr0)))))) → va_S A0 s.heap H locs → lv_has ls 8 [(0, .ref adm), (3, .ref (qm 20)), (4, .int x40_4), (5, .int x40_5), (6, .int x40_6)] → W p l e (rmk 4 0 0) s m args below meth c H locs 0 0 (MQ below ((QDi G (fun (r : Int32) (u : Int32 × Int32 × (Nat → Int32) × (Nat → Int32)) => True) (fun u : Int32 × Int32 × (Nat → Int32) × (Nat → Int32) => ((uX10 cs adm qm Fm Am Bm Dm) ++ ((uX8 cs (qm 3) qms Fms Ams Bms Dms) ++ ((uX3 cs (qms 0) qmh Fmh Amh Bmh Dmh) ++ ((uX5 cs (qm 6) qmn Fmn Amn Bmn Dmn) ++ ((wX5 cs (qm 7) qmw (upd (upd Fmw 2 u.1) 3 u.2.1) (vA (vA Amw 0 u.2.2.1) 1 u.2.2.2) Bmw Dmw) ++ (uX7 cs (qm 20) qr0 Fr0 Ar0 Br0 Dr0)))))))) A0) args s 0 0 A0) (F0 m 40 ls []) := by
      intro n
      induction n with
      | zero => intro x40_4 x40_5 x40_6 fmw3_40 amw0_40 amw1_40 H locs ls hmeas hx40_4 hx40_5 hx40_6 hP hD hS hl; exact absurd hmeas (Nat.not_lt_zero _)
      | succ n ih40 =>
        intro x40_4 x40_5 x40_6 fmw3_40 amw0_40 amw1_40 H locs ls hmeas hx40_4 hx40_5 hx40_6 hP hD hS hl
        refine lv_iload hx hb dX10_stop_40 (lv_at hl 4 rfl) ?_
        refine lv_aload_n hx hb dX10_stop_42 rfl (lv_at hl 1 rfl) ?_
        refine getF (v := .int (Fr0 3)) hx hb ht hown hK hP iTX7 19 3 rfl rfl (by decide) fl_RX10_194 rfl dX10_stop_43 ?_
        have zf26001 : (0 : Int) ≤ (Fr0 3).toInt ∧ (Fr0 3).toInt ≤ 60 := hIr0.1 3
        refine lv_icmp_ge (tgt := 119) hx hb dX10_stop_46 (by decide) (fun c26002 => ?_) (fun c26002 => ?_)
        · have zc26002 := leK rfl rfl c26002
          refine lv_iload hx hb dX10_stop_119 (lv_at hl 3 rfl) ?_
          exact retDi (x5, fmw3_40, amw0_40, amw1_40) hx hb hr hlk hP hD hS dX10_stop_121 (trivial) (Nat.le_of_ble_eq_true rfl) (Nat.le_of_ble_eq_true rfl)
        · have zc26002 := nleK rfl rfl c26002
          refine lv_aload_n hx hb dX10_stop_49 rfl (lv_at hl 0 rfl) ?_
          refine getF (v := .ref (qm 7)) hx hb ht hown hK hP iTX10 0 7 rfl rfl (by decide) fl_RX10_52 rfl dX10_stop_50 ?_
          refine lv_aload_n hx hb dX10_stop_53 rfl (lv_at hl 0 rfl) ?_
          refine getF (v := .ref (qm 3)) hx hb ht hown hK hP iTX10 0 3 rfl rfl (by decide) fl_RX10_31 rfl dX10_stop_54 ?_
          refine getF (v := .ref (qms 0)) hx hb ht hown hK hP iTX8 3 0 rfl rfl (by decide) fl_RX10_98 rfl dX10_stop_57 ?_
          refine lv_aload_n hx hb dX10_stop_60 rfl (lv_at hl 1 rfl) ?_
          refine lv_iload hx hb dX10_stop_61 (lv_at hl 4 rfl) ?_
          refine behR (runVP (As := [.int x40_6]) (rest := [.ref (qms 0), .ref (qm 7)]) ⟨hx, hb, hml, hown, ht⟩ (sX7_roomAt l G cs (qm 20) qr0 Fr0 Ar0 Br0 Dr0 hIr0 x40_6 ) okV_RX10_195 ⟨by decide, by decide⟩ hK hP [19, 20] rfl 19 rfl rfl hl.1 rfl (Nat.le_of_ble_eq_true rfl) dX10_stop_63 ⟨by decide, by decide⟩) hP hS hA (fun r26003 H locs hr26003 hP hS => ?_)
          have hr26003 : RAt r26003 x40_6 (Br0 0) (Fr0 3).toInt := hr26003
          have z5r26003 : (0 : Int) ≤ (Fmh 5).toInt ∧ (Fmh 5).toInt ≤ 7 := hImh.1 5
          have zbr26003 := RWr hr26003 (hr1.2 (by omega)) (by omega) (by omega) (by omega) (by omega)
          refine lv_iconst (v := 0) hx hb dX10_stop_66 (by decide) ?_
          refine behDi (wr := ((uX10 cs adm qm Fm Am Bm Dm) ++ ((uX8 cs (qm 3) qms Fms Ams Bms Dms) ++ ((uX5 cs (qm 6) qmn Fmn Amn Bmn Dmn) ++ (uX7 cs (qm 20) qr0 Fr0 Ar0 Br0 Dr0))))) (runVD (As := [.ref (qms 0), .int r26003, .int 0]) (rest := []) ⟨hx, hb, hml, hown, ht⟩ (sX5_live l G cs (qm 7) qmw (upv 3 fmw3_40 (upv 2 x5 Fmw)) (vB 1 amw1_40 (vB 0 amw0_40 Amw)) Bmw Dmw (IB_av (k := 1) (IB_av (k := 0) (IB_pv (k := 3) (IB_pv (k := 2) hImw (i32b _)) (i32b _)) (AJ_full _)) (AJ_full _)) (qms 0) qmh Fmh Amh Bmh Dmh hImh r26003 0 (by decide)) okV_RX10_175 ⟨by decide, by decide⟩ hK hP hD [16, 17, 18, 5, 6, 7, 8, 9, 10, 11, 12] rfl (by decide) rfl 16 rfl rfl hl.1 rfl (Nat.le_of_ble_eq_true rfl) dX10_stop_67 ⟨(Nat.le_of_ble_eq_true rfl), (Nat.le_of_ble_eq_true rfl)⟩) hP hD hS hA [16, 17, 18, 5, 6, 7, 8, 9, 10, 11, 12] [0, 1, 2, 3, 4, 13, 14, 15, 19, 20] rfl rfl (by decide) (by decide) (fun r9 u H locs hu hP hD hS => ?_)
          obtain ⟨x26004, g26005, g26006⟩ := u
          obtain ⟨r26007, rfl⟩ : ∃ z, z = r9 := ⟨_, rfl⟩
          have hr26007 := hu
          have hP : va_P G vwCl ((uX10 cs adm qm Fm Am Bm Dm) ++ ((uX8 cs (qm 3) qms Fms Ams Bms Dms) ++ ((uX3 cs (qms 0) qmh Fmh Amh Bmh Dmh) ++ ((uX5 cs (qm 6) qmn Fmn Amn Bmn Dmn) ++ ((uX5 cs (qm 7) qmw (upv 3 x26004 (upv 2 x5 Fmw)) (vB 1 g26006 (vB 0 g26005 Amw)) Bmw Dmw) ++ (uX7 cs (qm 20) qr0 Fr0 Ar0 Br0 Dr0)))))) H := hP.sub [0, 1, 2, 3, 4, 13, 14, 15, 16, 17, 18, 19, 20, 5, 6, 7, 10, 11, 12, 8, 9] rfl
          have hD : va_D A0 ((uX10 cs adm qm Fm Am Bm Dm) ++ ((uX8 cs (qm 3) qms Fms Ams Bms Dms) ++ ((uX3 cs (qms 0) qmh Fmh Amh Bmh Dmh) ++ ((uX5 cs (qm 6) qmn Fmn Amn Bmn Dmn) ++ ((uX5 cs (qm 7) qmw (upv 3 x26004 (upv 2 x5 Fmw)) (vB 1 g26006 (vB 0 g26005 Amw)) Bmw Dmw) ++ (uX7 cs (qm 20) qr0 Fr0 Ar0 Br0 Dr0)))))) := hD.sub [0, 1, 2, 3, 4, 13, 14, 15, 16, 17, 18, 19, 20, 5, 6, 7, 10, 11, 12, 8, 9] (by decide) rfl
          refine lv_pop hx hb dX10_stop_70 rfl ?_
          refine lv_aload_n hx hb dX10_stop_71 rfl (lv_at hl 0 rfl) ?_
          refine lv_aload_n hx hb dX10_stop_72 rfl (lv_at hl 0 rfl) ?_
          refine getF (v := .ref (qm 7)) hx hb ht hown hK hP iTX10 0 7 rfl rfl (by decide) fl_RX10_52 rfl dX10_stop_73 ?_
          refine getF (v := .int x26004) hx hb ht hown hK hP iTX5 16 3 rfl rfl (by decide) fl_RX10_156 rfl dX10_stop_76 ?_
          refine lv_aload_n hx hb dX10_stop_79 rfl (lv_at hl 0 rfl) ?_
          refine getF (v := .ref (qm 6)) hx hb ht hown hK hP iTX10 0 6 rfl rfl (by decide) fl_RX10_48 rfl dX10_stop_80 ?_
          refine getF (v := .int (Fmn 3)) hx hb ht hown hK hP iTX5 13 3 rfl rfl (by decide) fl_RX10_156 rfl dX10_stop_83 ?_
          refine lv_isub hx hb dX10_stop_86 ?_
          refine lv_topi (fun v26008 ev26008 => ?_)
          refine lv_iload hx hb dX10_stop_87 (lv_at hl 4 rfl) ?_
          refine lv_iconst (v := 1) hx hb dX10_stop_89 (by decide) ?_
          refine lv_iadd hx hb dX10_stop_90 ?_
          refine lv_topi (fun v26009 ev26009 => ?_)
          have tv26009 : v26009.toInt = x40_6.toInt + 1 := by rw [ev26009]; exact addT rfl (show (1 : Int32).toInt = 1 by decide) (by omega)
          refine behR (runVP (As := [.int v26008, .int v26009]) (rest := []) ⟨hx, hb, hml, hown, ht⟩ (sX10_gainOf l G cs adm qm Fm Am Bm Dm hIm qms Fms Ams Bms Dms hIms qmh Fmh Amh Bmh Dmh hImh v26008 v26009 ) okV_RX10_202 ⟨by decide, by decide⟩ hK hP [0, 1, 2, 3, 4, 5, 6, 7, 8, 9, 10, 11, 12] rfl 0 rfl rfl hl.1 rfl (Nat.le_of_ble_eq_true rfl) dX10_stop_91 ⟨by decide, by decide⟩) hP hS hA (fun r26010 H locs hr26010 hP hS => ?_)
          refine lv_istore (lv' := [(7, .int r26010), (0, .ref adm), (3, .ref (qm 20)), (4, .int x40_4), (5, .int x40_5), (6, .int x40_6)]) hx hb dX10_stop_94 hl (by decide) rfl (fun ls hl => ?_)
          refine lv_iload hx hb dX10_stop_96 (lv_at hl 0 rfl) ?_
          refine lv_iload hx hb dX10_stop_98 (lv_at hl 3 rfl) ?_
          have B113 : ∀ (x113_4 : Int32) (x113_5 : Int32) (H : Heap) (locs : List Loc) (ls : Array Slot), (0 : Int) ≤ x113_4.toInt → (0 : Int) ≤ x113_5.toInt ∧ x113_5.toInt ≤ 60 → va_P G vwCl ((uX10 cs adm qm Fm Am Bm Dm) ++ ((uX8 cs (qm 3) qms Fms Ams Bms Dms) ++ ((uX3 cs (qms 0) qmh Fmh Amh Bmh Dmh) ++ ((uX5 cs (qm 6) qmn Fmn Amn Bmn Dmn) ++ ((uX5 cs (qm 7) qmw (upv 3 x26004 (upv 2 x5 Fmw)) (vB 1 g26006 (vB 0 g26005 Amw)) Bmw Dmw) ++ (uX7 cs (qm 20) qr0 Fr0 Ar0 Br0 Dr0)))))) H → va_D A0 ((uX10 cs adm qm Fm Am Bm Dm) ++ ((uX8 cs (qm 3) qms Fms Ams Bms Dms) ++ ((uX3 cs (qms 0) qmh Fmh Amh Bmh Dmh) ++ ((uX5 cs (qm 6) qmn Fmn Amn Bmn Dmn) ++ ((uX5 cs (qm 7) qmw (upv 3 x26004 (upv 2 x5 Fmw)) (vB 1 g26006 (vB 0 g26005 Amw)) Bmw Dmw) ++ (uX7 cs (qm 20) qr0 Fr0 Ar0 Br0 Dr0)))))) → va_S A0 s.heap H locs → lv_has ls 8 [(0, .ref adm), (3, .ref (qm 20)), (4, .int x113_4), (5, .int x113_5), (6, .int x40_6)] → W p l e (rmk 4 0 0) s m args below meth c H locs 0 0 (MQ below ((QDi G (fun (r : Int32) (u : Int32 × Int32 × (Nat → Int32) × (Nat → Int32)) => True) (fun u : Int32 × Int32 × (Nat → Int32) × (Nat → Int32) => ((uX10 cs adm qm Fm Am Bm Dm) ++ ((uX8 cs (qm 3) qms Fms Ams Bms Dms) ++ ((uX3 cs (qms 0) qmh Fmh Amh Bmh Dmh) ++ ((uX5 cs (qm 6) qmn Fmn Amn Bmn Dmn) ++ ((wX5 cs (qm 7) qmw (upd (upd Fmw 2 u.1) 3 u.2.1) (vA (vA Amw 0 u.2.2.1) 1 u.2.2.2) Bmw Dmw) ++ (uX7 cs (qm 20) qr0 Fr0 Ar0 Br0 Dr0)))))))) A0) args s 0 0 A0) (F0 m 113 ls []) := by
            intro x113_4 x113_5 H locs ls hx113_4 hx113_5 hP hD hS hl
            obtain ⟨v63001, ev63001⟩ : ∃ z : Int32, z = x40_6 + 1 := ⟨_, rfl⟩
            have tv63001 : v63001.toInt = x40_6.toInt + 1 := by rw [ev63001]; exact addT rfl (by decide) (by omega)
            refine lv_iinc (v := v63001) (lv' := [(6, .int v63001), (0, .ref adm), (3, .ref (qm 20)), (4, .int x113_4), (5, .int x113_5)]) hx hb dX10_stop_113 hl (k := 4) rfl (by rw [ev63001]; rfl) (by decide) rfl (fun ls hl => ?_)
            refine lv_goto (tgt := 40) hx hb dX10_stop_116 (by decide) ?_
            exact ih40 x113_4 x113_5 v63001 x26004 g26005 g26006 H locs ls (by omega) (by omega) (by omega) (by omega) hP hD hS (lv_sub hl [1, 2, 3, 4, 0] rfl)
          refine lv_icmp_le (tgt := 113) hx hb dX10_stop_100 (by decide) (fun c26011 => ?_) (fun c26011 => ?_)
          · have zc26011 := leK rfl rfl c26011
            exact B113 x40_4 x40_5 H locs ls (by omega) (by omega) hP hD hS (lv_sub hl [1, 2, 3, 4, 5] rfl)
          · have zc26011 := nleK rfl rfl c26011
            refine lv_iload hx hb dX10_stop_103 (lv_at hl 0 rfl) ?_
            refine lv_istore (lv' := [(4, .int r26010), (7, .int r26010), (0, .ref adm), (3, .ref (qm 20)), (5, .int x40_5), (6, .int x40_6)]) hx hb dX10_stop_105 hl (by decide) rfl (fun ls hl => ?_)
            refine lv_iload hx hb dX10_stop_107 (lv_at hl 5 rfl) ?_
            refine lv_iconst (v := 1) hx hb dX10_stop_109 (by decide) ?_
            refine lv_iadd hx hb dX10_stop_110 ?_
            refine lv_topi (fun v26012 ev26012 => ?_)
            have tv26012 : v26012.toInt = x40_6.toInt + 1 := by rw [ev26012]; exact addT rfl (show (1 : Int32).toInt = 1 by decide) (by omega)
            refine lv_istore (lv' := [(5, .int v26012), (4, .int r26010), (7, .int r26010), (0, .ref adm), (3, .ref (qm 20)), (6, .int x40_6)]) hx hb dX10_stop_111 hl (by decide) rfl (fun ls hl => ?_)
            exact B113 r26010 v26012 H locs ls (by omega) (by omega) hP hD hS (lv_sub hl [3, 4, 1, 0, 5] rfl)
    exact B40 _ 0 0 0 x6 g7 (Amw 1) H locs ls (Nat.lt_succ_self _) (by decide) (by decide) (by decide) hP hD hS (lv_sub hl [5, 3, 2, 1, 0] rfl)
  · have zc4 := neK rfl (show (0 : Int32).toInt = 0 by decide) c4
    refine lv_iload_n hx hb dX10_stop_11 rfl (lv_at hl 0 rfl) ?_
    exact retDi ((Fmw 2), (Fmw 3), (Amw 0), (Amw 1)) hx hb hr hlk hP hD hS dX10_stop_12 (trivial) (Nat.le_of_ble_eq_true rfl) (Nat.le_of_ble_eq_true rfl)

set_option maxRecDepth 100000 in
set_option maxHeartbeats 16000000 in
theorem sX10_stop_1 (l : Launch) (G : va_G) (cs : Nat → ClassId) (adm : Nat) (qm : Nat → Nat) (Fm : Nat → Int32) (Am : Nat → Nat → Int32) (Bm : Nat → Nat → Int64) (Dm : Int64) (hIm : IX10 Fm Am) (qms : Nat → Nat) (Fms : Nat → Int32) (Ams : Nat → Nat → Int32) (Bms : Nat → Nat → Int64) (Dms : Int64) (hIms : IX8 Fms Ams) (qmh : Nat → Nat) (Fmh : Nat → Int32) (Amh : Nat → Nat → Int32) (Bmh : Nat → Nat → Int64) (Dmh : Int64) (hImh : IX3 Fmh Amh) (qmn : Nat → Nat) (Fmn : Nat → Int32) (Amn : Nat → Nat → Int32) (Bmn : Nat → Nat → Int64) (Dmn : Int64) (hImn : IX5 Fmn Amn) (qmw : Nat → Nat) (Fmw : Nat → Int32) (Amw : Nat → Nat → Int32) (Bmw : Nat → Nat → Int64) (Dmw : Int64) (hImw : IX5 Fmw Amw) (qr1 : Nat → Nat) (Fr1 : Nat → Int32) (Ar1 : Nat → Nat → Int32) (Br1 : Nat → Nat → Int64) (Dr1 : Int64) (hIr1 : IX7 Fr1 Ar1) : ∀ sz : Nat, Met l yX10_stop (wk yX10_stop cX10_stop 8 (some .int)) (rmk 4 0 0) (PreD G (TY cs) [.ref adm, .int 1] ((uX10 cs adm qm Fm Am Bm Dm) ++ ((uX8 cs (qm 3) qms Fms Ams Bms Dms) ++ ((uX3 cs (qms 0) qmh Fmh Amh Bmh Dmh) ++ ((uX5 cs (qm 6) qmn Fmn Amn Bmn Dmn) ++ ((uX5 cs (qm 7) qmw Fmw Amw Bmw Dmw) ++ (uX7 cs (qm 21) qr1 Fr1 Ar1 Br1 Dr1)))))) sz) ((QDi G (fun (r : Int32) (u : Int32 × Int32 × (Nat → Int32) × (Nat → Int32)) => True) (fun u : Int32 × Int32 × (Nat → Int32) × (Nat → Int32) => ((uX10 cs adm qm Fm Am Bm Dm) ++ ((uX8 cs (qm 3) qms Fms Ams Bms Dms) ++ ((uX3 cs (qms 0) qmh Fmh Amh Bmh Dmh) ++ ((uX5 cs (qm 6) qmn Fmn Amn Bmn Dmn) ++ ((wX5 cs (qm 7) qmw (upd (upd Fmw 2 u.1) 3 u.2.1) (vA (vA Amw 0 u.2.2.1) 1 u.2.2.2) Bmw Dmw) ++ (uX7 cs (qm 21) qr1 Fr1 Ar1 Br1 Dr1)))))))) (va_A ((uX10 cs adm qm Fm Am Bm Dm) ++ ((uX8 cs (qm 3) qms Fms Ams Bms Dms) ++ ((uX3 cs (qms 0) qmh Fmh Amh Bmh Dmh) ++ ((uX5 cs (qm 6) qmn Fmn Amn Bmn Dmn) ++ ((uX5 cs (qm 7) qmw Fmw Amw Bmw Dmw) ++ (uX7 cs (qm 21) qr1 Fr1 Ar1 Br1 Dr1)))))) sz)) 0 0 (va_A ((uX10 cs adm qm Fm Am Bm Dm) ++ ((uX8 cs (qm 3) qms Fms Ams Bms Dms) ++ ((uX3 cs (qms 0) qmh Fmh Amh Bmh Dmh) ++ ((uX5 cs (qm 6) qmn Fmn Amn Bmn Dmn) ++ ((uX5 cs (qm 7) qmw Fmw Amw Bmw Dmw) ++ (uX7 cs (qm 21) qr1 Fr1 Ar1 Br1 Dr1)))))) sz) := by
  refine mkD (Qc := (QDi G (fun (r : Int32) (u : Int32 × Int32 × (Nat → Int32) × (Nat → Int32)) => True) (fun u : Int32 × Int32 × (Nat → Int32) × (Nat → Int32) => ((uX10 cs adm qm Fm Am Bm Dm) ++ ((uX8 cs (qm 3) qms Fms Ams Bms Dms) ++ ((uX3 cs (qms 0) qmh Fmh Amh Bmh Dmh) ++ ((uX5 cs (qm 6) qmn Fmn Amn Bmn Dmn) ++ ((wX5 cs (qm 7) qmw (upd (upd Fmw 2 u.1) 3 u.2.1) (vA (vA Amw 0 u.2.2.1) 1 u.2.2.2) Bmw Dmw) ++ (uX7 cs (qm 21) qr1 Fr1 Ar1 Br1 Dr1))))))))) (by decide) (by simp [lg_sl, Value.category]) ?_
  intro p e s m args below meth c ls A0 hx hb hml hr hlk hown hmn ht hK hP hD hS hA hl
  have hl : lv_has ls 8 [(0, .ref adm), (1, .int 1)] := hl
  refine lv_aload_n hx hb dX10_stop_0 rfl (lv_at hl 0 rfl) ?_
  refine lv_iload_n hx hb dX10_stop_1 rfl (lv_at hl 1 rfl) ?_
  refine lv_iconst (v := 1) hx hb dX10_stop_2 (by decide) ?_
  refine behR (runVP (As := [.int 1, .int 1]) (rest := []) ⟨hx, hb, hml, hown, ht⟩ (sX10_askRound_1 l G cs adm qm Fm Am Bm Dm hIm qms Fms Ams Bms Dms hIms qmh Fmh Amh Bmh Dmh hImh qr1 Fr1 Ar1 Br1 Dr1 hIr1 1 (by decide)) okV_RX10_186 ⟨by decide, by decide⟩ hK hP [0, 1, 2, 3, 4, 5, 6, 7, 8, 9, 10, 11, 12, 19, 20] rfl 0 rfl rfl hl.1 rfl (Nat.le_of_ble_eq_true rfl) dX10_stop_3 ⟨by decide, by decide⟩) hP hS hA (fun r1 H locs hr1 hP hS => ?_)
  have kk2 : (1 : Int32).toInt = 1 := by decide
  have kk3 : (1 : Int32).toInt = 1 := by decide
  have hr1 : ((r1.toInt = 0 ∧ (1 : Int32).toInt = 1) ∨ r1.toInt = -2 ∨ r1.toInt = -6) ∧ RWk r1 0 (Br1 0) (-1) ((Fmh 5).toInt - 1) (Fr1 3).toInt := hr1
  refine lv_istore_n (lv' := [(2, .int r1), (0, .ref adm), (1, .int 1)]) hx hb dX10_stop_6 rfl hl (by decide) rfl (fun ls hl => ?_)
  refine lv_iload_n hx hb dX10_stop_7 rfl (lv_at hl 0 rfl) ?_
  refine lv_if_eq (tgt := 13) hx hb dX10_stop_8 (by decide) (fun c4 => ?_) (fun c4 => ?_)
  · have zc4 := eqK rfl (show (0 : Int32).toInt = 0 by decide) c4
    refine lv_aload_n hx hb dX10_stop_13 rfl (lv_at hl 1 rfl) ?_
    refine getF (v := .ref (qm 5)) hx hb ht hown hK hP iTX10 0 5 rfl rfl (by decide) fl_RX10_41 rfl dX10_stop_14 ?_
    refine lv_iload_n hx hb dX10_stop_17 rfl (lv_at hl 2 rfl) ?_
    refine va_aldq hx hb hK.1 hP 2 5 rfl rfl (show ¬ (_ ∨ _) by decide) dX10_stop_18 ?_
    refine W.eq (g2 := F0 m 19 ls [.ref (qm 21)]) rfl ?_
    refine lv_astore_n (lv' := [(3, .ref (qm 21)), (2, .int r1), (0, .ref adm), (1, .int 1)]) hx hb dX10_stop_19 rfl hl (by decide) rfl (fun ls hl => ?_)
    refine lv_aload_n hx hb dX10_stop_20 rfl (lv_at hl 2 rfl) ?_
    refine getF (v := .ref (qm 7)) hx hb ht hown hK hP iTX10 0 7 rfl rfl (by decide) fl_RX10_52 rfl dX10_stop_21 ?_
    refine lv_aload_n hx hb dX10_stop_24 rfl (lv_at hl 2 rfl) ?_
    refine getF (v := .ref (qm 6)) hx hb ht hown hK hP iTX10 0 6 rfl rfl (by decide) fl_RX10_48 rfl dX10_stop_25 ?_
    refine behDw (wr := ((uX10 cs adm qm Fm Am Bm Dm) ++ ((uX8 cs (qm 3) qms Fms Ams Bms Dms) ++ ((uX3 cs (qms 0) qmh Fmh Amh Bmh Dmh) ++ (uX7 cs (qm 21) qr1 Fr1 Ar1 Br1 Dr1))))) (runVD (As := [.ref (qm 6)]) (rest := []) ⟨hx, hb, hml, hown, ht⟩ (sX5_copyFrom l G cs (qm 7) qmw Fmw Amw Bmw Dmw hImw (qm 6) qmn Fmn Amn Bmn Dmn hImn ) okV_RX10_179 ⟨by decide, by decide⟩ hK hP hD [16, 17, 18, 13, 14, 15] rfl (by decide) rfl 16 rfl rfl hl.1 rfl (Nat.le_of_ble_eq_true rfl) dX10_stop_28 ⟨(Nat.le_of_ble_eq_true rfl), (Nat.le_of_ble_eq_true rfl)⟩) hP hD hS hA [16, 17, 18, 13, 14, 15] [0, 1, 2, 3, 4, 5, 6, 7, 8, 9, 10, 11, 12, 19, 20] rfl rfl (by decide) (by decide) (fun u H locs hu hP hD hS => ?_)
    obtain ⟨x5, x6, g7⟩ := u
    have hr8 := hu
    have hP : va_P G vwCl ((uX10 cs adm qm Fm Am Bm Dm) ++ ((uX8 cs (qm 3) qms Fms Ams Bms Dms) ++ ((uX3 cs (qms 0) qmh Fmh Amh Bmh Dmh) ++ ((uX5 cs (qm 6) qmn Fmn Amn Bmn Dmn) ++ ((uX5 cs (qm 7) qmw (upv 3 x6 (upv 2 x5 Fmw)) (vB 0 g7 Amw) Bmw Dmw) ++ (uX7 cs (qm 21) qr1 Fr1 Ar1 Br1 Dr1)))))) H := hP.sub [0, 1, 2, 3, 4, 5, 6, 7, 8, 9, 10, 11, 12, 18, 19, 20, 15, 16, 17, 13, 14] rfl
    have hD : va_D A0 ((uX10 cs adm qm Fm Am Bm Dm) ++ ((uX8 cs (qm 3) qms Fms Ams Bms Dms) ++ ((uX3 cs (qms 0) qmh Fmh Amh Bmh Dmh) ++ ((uX5 cs (qm 6) qmn Fmn Amn Bmn Dmn) ++ ((uX5 cs (qm 7) qmw (upv 3 x6 (upv 2 x5 Fmw)) (vB 0 g7 Amw) Bmw Dmw) ++ (uX7 cs (qm 21) qr1 Fr1 Ar1 Br1 Dr1)))))) := hD.sub [0, 1, 2, 3, 4, 5, 6, 7, 8, 9, 10, 11, 12, 18, 19, 20, 15, 16, 17, 13, 14] (by decide) rfl
    refine lv_iconst (v := 0) hx hb dX10_stop_31 (by decide) ?_
    refine lv_istore (lv' := [(4, .int 0), (3, .ref (qm 21)), (2, .int r1), (0, .ref adm), (1, .int 1)]) hx hb dX10_stop_32 hl (by decide) rfl (fun ls hl => ?_)
    refine lv_iconst (v := 0) hx hb dX10_stop_34 (by decide) ?_
    refine lv_istore (lv' := [(5, .int 0), (4, .int 0), (3, .ref (qm 21)), (2, .int r1), (0, .ref adm), (1, .int 1)]) hx hb dX10_stop_35 hl (by decide) rfl (fun ls hl => ?_)
    refine lv_iconst (v := 0) hx hb dX10_stop_37 (by decide) ?_
    refine lv_istore (lv' := [(6, .int 0), (5, .int 0), (4, .int 0), (3, .ref (qm 21)), (2, .int r1), (0, .ref adm), (1, .int 1)]) hx hb dX10_stop_38 hl (by decide) rfl (fun ls hl => ?_)
    have B40 : ∀ (n : Nat) (x40_4 : Int32) (x40_5 : Int32) (x40_6 : Int32) (fmw3_40 : Int32) (amw0_40 : (Nat → Int32)) (amw1_40 : (Nat → Int32)) (H : Heap) (locs : List Loc) (ls : Array Slot), (60 - x40_6.toInt).toNat < n → (0 : Int) ≤ x40_4.toInt → (0 : Int) ≤ x40_5.toInt ∧ x40_5.toInt ≤ 60 → (0 : Int) ≤ x40_6.toInt ∧ x40_6.toInt ≤ 60 → va_P G vwCl ((uX10 cs adm qm Fm Am Bm Dm) ++ ((uX8 cs (qm 3) qms Fms Ams Bms Dms) ++ ((uX3 cs (qms 0) qmh Fmh Amh Bmh Dmh) ++ ((uX5 cs (qm 6) qmn Fmn Amn Bmn Dmn) ++ ((uX5 cs (qm 7) qmw (upv 3 fmw3_40 (upv 2 x5 Fmw)) (vB 1 amw1_40 (vB 0 amw0_40 Amw)) Bmw Dmw) ++ (uX7 cs (qm 21) qr1 Fr1 Ar1 Br1 Dr1)))))) H → va_D A0 ((uX10 cs adm qm Fm Am Bm Dm) ++ ((uX8 cs (qm 3) qms Fms Ams Bms Dms) ++ ((uX3 cs (qms 0) qmh Fmh Amh Bmh Dmh) ++ ((uX5 cs (qm 6) qmn Fmn Amn Bmn Dmn) ++ ((uX5 cs (qm 7) qmw (upv 3 fmw3_40 (upv 2 x5 Fmw)) (vB 1 amw1_40 (vB 0 amw0_40 Amw)) Bmw Dmw) ++ (uX7 cs (qm 21) qr1 Fr1 Ar1 Br1 Dr1)))))) → va_S A0 s.heap H locs → lv_has ls 8 [(0, .ref adm), (3, .ref (qm 21)), (4, .int x40_4), (5, .int x40_5), (6, .int x40_6)] → W p l e (rmk 4 0 0) s m args below meth c H locs 0 0 (MQ below ((QDi G (fun (r : Int32) (u : Int32 × Int32 × (Nat → Int32) × (Nat → Int32)) => True) (fun u : Int32 × Int32 × (Nat → Int32) × (Nat → Int32) => ((uX10 cs adm qm Fm Am Bm Dm) ++ ((uX8 cs (qm 3) qms Fms Ams Bms Dms) ++ ((uX3 cs (qms 0) qmh Fmh Amh Bmh Dmh) ++ ((uX5 cs (qm 6) qmn Fmn Amn Bmn Dmn) ++ ((wX5 cs (qm 7) qmw (upd (upd Fmw 2 u.1) 3 u.2.1) (vA (vA Amw 0 u.2.2.1) 1 u.2.2.2) Bmw Dmw) ++ (uX7 cs (qm 21) qr1 Fr1 Ar1 Br1 Dr1)))))))) A0) args s 0 0 A0) (F0 m 40 ls []) := by
      intro n
      induction n with
      | zero => intro x40_4 x40_5 x40_6 fmw3_40 amw0_40 amw1_40 H locs ls hmeas hx40_4 hx40_5 hx40_6 hP hD hS hl; exact absurd hmeas (Nat.not_lt_zero _)
      | succ n ih40 =>
        intro x40_4 x40_5 x40_6 fmw3_40 amw0_40 amw1_40 H locs ls hmeas hx40_4 hx40_5 hx40_6 hP hD hS hl
        refine lv_iload hx hb dX10_stop_40 (lv_at hl 4 rfl) ?_
        refine lv_aload_n hx hb dX10_stop_42 rfl (lv_at hl 1 rfl) ?_
        refine getF (v := .int (Fr1 3)) hx hb ht hown hK hP iTX7 19 3 rfl rfl (by decide) fl_RX10_194 rfl dX10_stop_43 ?_
        have zf26001 : (0 : Int) ≤ (Fr1 3).toInt ∧ (Fr1 3).toInt ≤ 60 := hIr1.1 3
        refine lv_icmp_ge (tgt := 119) hx hb dX10_stop_46 (by decide) (fun c26002 => ?_) (fun c26002 => ?_)
        · have zc26002 := leK rfl rfl c26002
          refine lv_iload hx hb dX10_stop_119 (lv_at hl 3 rfl) ?_
          exact retDi (x5, fmw3_40, amw0_40, amw1_40) hx hb hr hlk hP hD hS dX10_stop_121 (trivial) (Nat.le_of_ble_eq_true rfl) (Nat.le_of_ble_eq_true rfl)
        · have zc26002 := nleK rfl rfl c26002
          refine lv_aload_n hx hb dX10_stop_49 rfl (lv_at hl 0 rfl) ?_
          refine getF (v := .ref (qm 7)) hx hb ht hown hK hP iTX10 0 7 rfl rfl (by decide) fl_RX10_52 rfl dX10_stop_50 ?_
          refine lv_aload_n hx hb dX10_stop_53 rfl (lv_at hl 0 rfl) ?_
          refine getF (v := .ref (qm 3)) hx hb ht hown hK hP iTX10 0 3 rfl rfl (by decide) fl_RX10_31 rfl dX10_stop_54 ?_
          refine getF (v := .ref (qms 0)) hx hb ht hown hK hP iTX8 3 0 rfl rfl (by decide) fl_RX10_98 rfl dX10_stop_57 ?_
          refine lv_aload_n hx hb dX10_stop_60 rfl (lv_at hl 1 rfl) ?_
          refine lv_iload hx hb dX10_stop_61 (lv_at hl 4 rfl) ?_
          refine behR (runVP (As := [.int x40_6]) (rest := [.ref (qms 0), .ref (qm 7)]) ⟨hx, hb, hml, hown, ht⟩ (sX7_roomAt l G cs (qm 21) qr1 Fr1 Ar1 Br1 Dr1 hIr1 x40_6 ) okV_RX10_195 ⟨by decide, by decide⟩ hK hP [19, 20] rfl 19 rfl rfl hl.1 rfl (Nat.le_of_ble_eq_true rfl) dX10_stop_63 ⟨by decide, by decide⟩) hP hS hA (fun r26003 H locs hr26003 hP hS => ?_)
          have hr26003 : RAt r26003 x40_6 (Br1 0) (Fr1 3).toInt := hr26003
          have z5r26003 : (0 : Int) ≤ (Fmh 5).toInt ∧ (Fmh 5).toInt ≤ 7 := hImh.1 5
          have zbr26003 := RWr hr26003 (hr1.2 (by omega)) (by omega) (by omega) (by omega) (by omega)
          refine lv_iconst (v := 0) hx hb dX10_stop_66 (by decide) ?_
          refine behDi (wr := ((uX10 cs adm qm Fm Am Bm Dm) ++ ((uX8 cs (qm 3) qms Fms Ams Bms Dms) ++ ((uX5 cs (qm 6) qmn Fmn Amn Bmn Dmn) ++ (uX7 cs (qm 21) qr1 Fr1 Ar1 Br1 Dr1))))) (runVD (As := [.ref (qms 0), .int r26003, .int 0]) (rest := []) ⟨hx, hb, hml, hown, ht⟩ (sX5_live l G cs (qm 7) qmw (upv 3 fmw3_40 (upv 2 x5 Fmw)) (vB 1 amw1_40 (vB 0 amw0_40 Amw)) Bmw Dmw (IB_av (k := 1) (IB_av (k := 0) (IB_pv (k := 3) (IB_pv (k := 2) hImw (i32b _)) (i32b _)) (AJ_full _)) (AJ_full _)) (qms 0) qmh Fmh Amh Bmh Dmh hImh r26003 0 (by decide)) okV_RX10_175 ⟨by decide, by decide⟩ hK hP hD [16, 17, 18, 5, 6, 7, 8, 9, 10, 11, 12] rfl (by decide) rfl 16 rfl rfl hl.1 rfl (Nat.le_of_ble_eq_true rfl) dX10_stop_67 ⟨(Nat.le_of_ble_eq_true rfl), (Nat.le_of_ble_eq_true rfl)⟩) hP hD hS hA [16, 17, 18, 5, 6, 7, 8, 9, 10, 11, 12] [0, 1, 2, 3, 4, 13, 14, 15, 19, 20] rfl rfl (by decide) (by decide) (fun r9 u H locs hu hP hD hS => ?_)
          obtain ⟨x26004, g26005, g26006⟩ := u
          obtain ⟨r26007, rfl⟩ : ∃ z, z = r9 := ⟨_, rfl⟩
          have hr26007 := hu
          have hP : va_P G vwCl ((uX10 cs adm qm Fm Am Bm Dm) ++ ((uX8 cs (qm 3) qms Fms Ams Bms Dms) ++ ((uX3 cs (qms 0) qmh Fmh Amh Bmh Dmh) ++ ((uX5 cs (qm 6) qmn Fmn Amn Bmn Dmn) ++ ((uX5 cs (qm 7) qmw (upv 3 x26004 (upv 2 x5 Fmw)) (vB 1 g26006 (vB 0 g26005 Amw)) Bmw Dmw) ++ (uX7 cs (qm 21) qr1 Fr1 Ar1 Br1 Dr1)))))) H := hP.sub [0, 1, 2, 3, 4, 13, 14, 15, 16, 17, 18, 19, 20, 5, 6, 7, 10, 11, 12, 8, 9] rfl
          have hD : va_D A0 ((uX10 cs adm qm Fm Am Bm Dm) ++ ((uX8 cs (qm 3) qms Fms Ams Bms Dms) ++ ((uX3 cs (qms 0) qmh Fmh Amh Bmh Dmh) ++ ((uX5 cs (qm 6) qmn Fmn Amn Bmn Dmn) ++ ((uX5 cs (qm 7) qmw (upv 3 x26004 (upv 2 x5 Fmw)) (vB 1 g26006 (vB 0 g26005 Amw)) Bmw Dmw) ++ (uX7 cs (qm 21) qr1 Fr1 Ar1 Br1 Dr1)))))) := hD.sub [0, 1, 2, 3, 4, 13, 14, 15, 16, 17, 18, 19, 20, 5, 6, 7, 10, 11, 12, 8, 9] (by decide) rfl
          refine lv_pop hx hb dX10_stop_70 rfl ?_
          refine lv_aload_n hx hb dX10_stop_71 rfl (lv_at hl 0 rfl) ?_
          refine lv_aload_n hx hb dX10_stop_72 rfl (lv_at hl 0 rfl) ?_
          refine getF (v := .ref (qm 7)) hx hb ht hown hK hP iTX10 0 7 rfl rfl (by decide) fl_RX10_52 rfl dX10_stop_73 ?_
          refine getF (v := .int x26004) hx hb ht hown hK hP iTX5 16 3 rfl rfl (by decide) fl_RX10_156 rfl dX10_stop_76 ?_
          refine lv_aload_n hx hb dX10_stop_79 rfl (lv_at hl 0 rfl) ?_
          refine getF (v := .ref (qm 6)) hx hb ht hown hK hP iTX10 0 6 rfl rfl (by decide) fl_RX10_48 rfl dX10_stop_80 ?_
          refine getF (v := .int (Fmn 3)) hx hb ht hown hK hP iTX5 13 3 rfl rfl (by decide) fl_RX10_156 rfl dX10_stop_83 ?_
          refine lv_isub hx hb dX10_stop_86 ?_
          refine lv_topi (fun v26008 ev26008 => ?_)
          refine lv_iload hx hb dX10_stop_87 (lv_at hl 4 rfl) ?_
          refine lv_iconst (v := 1) hx hb dX10_stop_89 (by decide) ?_
          refine lv_iadd hx hb dX10_stop_90 ?_
          refine lv_topi (fun v26009 ev26009 => ?_)
          have tv26009 : v26009.toInt = x40_6.toInt + 1 := by rw [ev26009]; exact addT rfl (show (1 : Int32).toInt = 1 by decide) (by omega)
          refine behR (runVP (As := [.int v26008, .int v26009]) (rest := []) ⟨hx, hb, hml, hown, ht⟩ (sX10_gainOf l G cs adm qm Fm Am Bm Dm hIm qms Fms Ams Bms Dms hIms qmh Fmh Amh Bmh Dmh hImh v26008 v26009 ) okV_RX10_202 ⟨by decide, by decide⟩ hK hP [0, 1, 2, 3, 4, 5, 6, 7, 8, 9, 10, 11, 12] rfl 0 rfl rfl hl.1 rfl (Nat.le_of_ble_eq_true rfl) dX10_stop_91 ⟨by decide, by decide⟩) hP hS hA (fun r26010 H locs hr26010 hP hS => ?_)
          refine lv_istore (lv' := [(7, .int r26010), (0, .ref adm), (3, .ref (qm 21)), (4, .int x40_4), (5, .int x40_5), (6, .int x40_6)]) hx hb dX10_stop_94 hl (by decide) rfl (fun ls hl => ?_)
          refine lv_iload hx hb dX10_stop_96 (lv_at hl 0 rfl) ?_
          refine lv_iload hx hb dX10_stop_98 (lv_at hl 3 rfl) ?_
          have B113 : ∀ (x113_4 : Int32) (x113_5 : Int32) (H : Heap) (locs : List Loc) (ls : Array Slot), (0 : Int) ≤ x113_4.toInt → (0 : Int) ≤ x113_5.toInt ∧ x113_5.toInt ≤ 60 → va_P G vwCl ((uX10 cs adm qm Fm Am Bm Dm) ++ ((uX8 cs (qm 3) qms Fms Ams Bms Dms) ++ ((uX3 cs (qms 0) qmh Fmh Amh Bmh Dmh) ++ ((uX5 cs (qm 6) qmn Fmn Amn Bmn Dmn) ++ ((uX5 cs (qm 7) qmw (upv 3 x26004 (upv 2 x5 Fmw)) (vB 1 g26006 (vB 0 g26005 Amw)) Bmw Dmw) ++ (uX7 cs (qm 21) qr1 Fr1 Ar1 Br1 Dr1)))))) H → va_D A0 ((uX10 cs adm qm Fm Am Bm Dm) ++ ((uX8 cs (qm 3) qms Fms Ams Bms Dms) ++ ((uX3 cs (qms 0) qmh Fmh Amh Bmh Dmh) ++ ((uX5 cs (qm 6) qmn Fmn Amn Bmn Dmn) ++ ((uX5 cs (qm 7) qmw (upv 3 x26004 (upv 2 x5 Fmw)) (vB 1 g26006 (vB 0 g26005 Amw)) Bmw Dmw) ++ (uX7 cs (qm 21) qr1 Fr1 Ar1 Br1 Dr1)))))) → va_S A0 s.heap H locs → lv_has ls 8 [(0, .ref adm), (3, .ref (qm 21)), (4, .int x113_4), (5, .int x113_5), (6, .int x40_6)] → W p l e (rmk 4 0 0) s m args below meth c H locs 0 0 (MQ below ((QDi G (fun (r : Int32) (u : Int32 × Int32 × (Nat → Int32) × (Nat → Int32)) => True) (fun u : Int32 × Int32 × (Nat → Int32) × (Nat → Int32) => ((uX10 cs adm qm Fm Am Bm Dm) ++ ((uX8 cs (qm 3) qms Fms Ams Bms Dms) ++ ((uX3 cs (qms 0) qmh Fmh Amh Bmh Dmh) ++ ((uX5 cs (qm 6) qmn Fmn Amn Bmn Dmn) ++ ((wX5 cs (qm 7) qmw (upd (upd Fmw 2 u.1) 3 u.2.1) (vA (vA Amw 0 u.2.2.1) 1 u.2.2.2) Bmw Dmw) ++ (uX7 cs (qm 21) qr1 Fr1 Ar1 Br1 Dr1)))))))) A0) args s 0 0 A0) (F0 m 113 ls []) := by
            intro x113_4 x113_5 H locs ls hx113_4 hx113_5 hP hD hS hl
            obtain ⟨v63001, ev63001⟩ : ∃ z : Int32, z = x40_6 + 1 := ⟨_, rfl⟩
            have tv63001 : v63001.toInt = x40_6.toInt + 1 := by rw [ev63001]; exact addT rfl (by decide) (by omega)
            refine lv_iinc (v := v63001) (lv' := [(6, .int v63001), (0, .ref adm), (3, .ref (qm 21)), (4, .int x113_4), (5, .int x113_5)]) hx hb dX10_stop_113 hl (k := 4) rfl (by rw [ev63001]; rfl) (by decide) rfl (fun ls hl => ?_)
            refine lv_goto (tgt := 40) hx hb dX10_stop_116 (by decide) ?_
            exact ih40 x113_4 x113_5 v63001 x26004 g26005 g26006 H locs ls (by omega) (by omega) (by omega) (by omega) hP hD hS (lv_sub hl [1, 2, 3, 4, 0] rfl)
          refine lv_icmp_le (tgt := 113) hx hb dX10_stop_100 (by decide) (fun c26011 => ?_) (fun c26011 => ?_)
          · have zc26011 := leK rfl rfl c26011
            exact B113 x40_4 x40_5 H locs ls (by omega) (by omega) hP hD hS (lv_sub hl [1, 2, 3, 4, 5] rfl)
          · have zc26011 := nleK rfl rfl c26011
            refine lv_iload hx hb dX10_stop_103 (lv_at hl 0 rfl) ?_
            refine lv_istore (lv' := [(4, .int r26010), (7, .int r26010), (0, .ref adm), (3, .ref (qm 21)), (5, .int x40_5), (6, .int x40_6)]) hx hb dX10_stop_105 hl (by decide) rfl (fun ls hl => ?_)
            refine lv_iload hx hb dX10_stop_107 (lv_at hl 5 rfl) ?_
            refine lv_iconst (v := 1) hx hb dX10_stop_109 (by decide) ?_
            refine lv_iadd hx hb dX10_stop_110 ?_
            refine lv_topi (fun v26012 ev26012 => ?_)
            have tv26012 : v26012.toInt = x40_6.toInt + 1 := by rw [ev26012]; exact addT rfl (show (1 : Int32).toInt = 1 by decide) (by omega)
            refine lv_istore (lv' := [(5, .int v26012), (4, .int r26010), (7, .int r26010), (0, .ref adm), (3, .ref (qm 21)), (6, .int x40_6)]) hx hb dX10_stop_111 hl (by decide) rfl (fun ls hl => ?_)
            exact B113 r26010 v26012 H locs ls (by omega) (by omega) hP hD hS (lv_sub hl [3, 4, 1, 0, 5] rfl)
    exact B40 _ 0 0 0 x6 g7 (Amw 1) H locs ls (Nat.lt_succ_self _) (by decide) (by decide) (by decide) hP hD hS (lv_sub hl [5, 3, 2, 1, 0] rfl)
  · have zc4 := neK rfl (show (0 : Int32).toInt = 0 by decide) c4
    refine lv_iload_n hx hb dX10_stop_11 rfl (lv_at hl 0 rfl) ?_
    exact retDi ((Fmw 2), (Fmw 3), (Amw 0), (Amw 1)) hx hb hr hlk hP hD hS dX10_stop_12 (trivial) (Nat.le_of_ble_eq_true rfl) (Nat.le_of_ble_eq_true rfl)

set_option maxRecDepth 100000 in
set_option maxHeartbeats 16000000 in
theorem sX10_stop_2 (l : Launch) (G : va_G) (cs : Nat → ClassId) (adm : Nat) (qm : Nat → Nat) (Fm : Nat → Int32) (Am : Nat → Nat → Int32) (Bm : Nat → Nat → Int64) (Dm : Int64) (hIm : IX10 Fm Am) (qms : Nat → Nat) (Fms : Nat → Int32) (Ams : Nat → Nat → Int32) (Bms : Nat → Nat → Int64) (Dms : Int64) (hIms : IX8 Fms Ams) (qmh : Nat → Nat) (Fmh : Nat → Int32) (Amh : Nat → Nat → Int32) (Bmh : Nat → Nat → Int64) (Dmh : Int64) (hImh : IX3 Fmh Amh) (qmn : Nat → Nat) (Fmn : Nat → Int32) (Amn : Nat → Nat → Int32) (Bmn : Nat → Nat → Int64) (Dmn : Int64) (hImn : IX5 Fmn Amn) (qmw : Nat → Nat) (Fmw : Nat → Int32) (Amw : Nat → Nat → Int32) (Bmw : Nat → Nat → Int64) (Dmw : Int64) (hImw : IX5 Fmw Amw) (qr2 : Nat → Nat) (Fr2 : Nat → Int32) (Ar2 : Nat → Nat → Int32) (Br2 : Nat → Nat → Int64) (Dr2 : Int64) (hIr2 : IX7 Fr2 Ar2) : ∀ sz : Nat, Met l yX10_stop (wk yX10_stop cX10_stop 8 (some .int)) (rmk 4 0 0) (PreD G (TY cs) [.ref adm, .int 2] ((uX10 cs adm qm Fm Am Bm Dm) ++ ((uX8 cs (qm 3) qms Fms Ams Bms Dms) ++ ((uX3 cs (qms 0) qmh Fmh Amh Bmh Dmh) ++ ((uX5 cs (qm 6) qmn Fmn Amn Bmn Dmn) ++ ((uX5 cs (qm 7) qmw Fmw Amw Bmw Dmw) ++ (uX7 cs (qm 22) qr2 Fr2 Ar2 Br2 Dr2)))))) sz) ((QDi G (fun (r : Int32) (u : Int32 × Int32 × (Nat → Int32) × (Nat → Int32)) => True) (fun u : Int32 × Int32 × (Nat → Int32) × (Nat → Int32) => ((uX10 cs adm qm Fm Am Bm Dm) ++ ((uX8 cs (qm 3) qms Fms Ams Bms Dms) ++ ((uX3 cs (qms 0) qmh Fmh Amh Bmh Dmh) ++ ((uX5 cs (qm 6) qmn Fmn Amn Bmn Dmn) ++ ((wX5 cs (qm 7) qmw (upd (upd Fmw 2 u.1) 3 u.2.1) (vA (vA Amw 0 u.2.2.1) 1 u.2.2.2) Bmw Dmw) ++ (uX7 cs (qm 22) qr2 Fr2 Ar2 Br2 Dr2)))))))) (va_A ((uX10 cs adm qm Fm Am Bm Dm) ++ ((uX8 cs (qm 3) qms Fms Ams Bms Dms) ++ ((uX3 cs (qms 0) qmh Fmh Amh Bmh Dmh) ++ ((uX5 cs (qm 6) qmn Fmn Amn Bmn Dmn) ++ ((uX5 cs (qm 7) qmw Fmw Amw Bmw Dmw) ++ (uX7 cs (qm 22) qr2 Fr2 Ar2 Br2 Dr2)))))) sz)) 0 0 (va_A ((uX10 cs adm qm Fm Am Bm Dm) ++ ((uX8 cs (qm 3) qms Fms Ams Bms Dms) ++ ((uX3 cs (qms 0) qmh Fmh Amh Bmh Dmh) ++ ((uX5 cs (qm 6) qmn Fmn Amn Bmn Dmn) ++ ((uX5 cs (qm 7) qmw Fmw Amw Bmw Dmw) ++ (uX7 cs (qm 22) qr2 Fr2 Ar2 Br2 Dr2)))))) sz) := by
  refine mkD (Qc := (QDi G (fun (r : Int32) (u : Int32 × Int32 × (Nat → Int32) × (Nat → Int32)) => True) (fun u : Int32 × Int32 × (Nat → Int32) × (Nat → Int32) => ((uX10 cs adm qm Fm Am Bm Dm) ++ ((uX8 cs (qm 3) qms Fms Ams Bms Dms) ++ ((uX3 cs (qms 0) qmh Fmh Amh Bmh Dmh) ++ ((uX5 cs (qm 6) qmn Fmn Amn Bmn Dmn) ++ ((wX5 cs (qm 7) qmw (upd (upd Fmw 2 u.1) 3 u.2.1) (vA (vA Amw 0 u.2.2.1) 1 u.2.2.2) Bmw Dmw) ++ (uX7 cs (qm 22) qr2 Fr2 Ar2 Br2 Dr2))))))))) (by decide) (by simp [lg_sl, Value.category]) ?_
  intro p e s m args below meth c ls A0 hx hb hml hr hlk hown hmn ht hK hP hD hS hA hl
  have hl : lv_has ls 8 [(0, .ref adm), (1, .int 2)] := hl
  refine lv_aload_n hx hb dX10_stop_0 rfl (lv_at hl 0 rfl) ?_
  refine lv_iload_n hx hb dX10_stop_1 rfl (lv_at hl 1 rfl) ?_
  refine lv_iconst (v := 1) hx hb dX10_stop_2 (by decide) ?_
  refine behR (runVP (As := [.int 2, .int 1]) (rest := []) ⟨hx, hb, hml, hown, ht⟩ (sX10_askRound_2 l G cs adm qm Fm Am Bm Dm hIm qms Fms Ams Bms Dms hIms qmh Fmh Amh Bmh Dmh hImh qr2 Fr2 Ar2 Br2 Dr2 hIr2 1 (by decide)) okV_RX10_186 ⟨by decide, by decide⟩ hK hP [0, 1, 2, 3, 4, 5, 6, 7, 8, 9, 10, 11, 12, 19, 20] rfl 0 rfl rfl hl.1 rfl (Nat.le_of_ble_eq_true rfl) dX10_stop_3 ⟨by decide, by decide⟩) hP hS hA (fun r1 H locs hr1 hP hS => ?_)
  have kk2 : (2 : Int32).toInt = 2 := by decide
  have kk3 : (1 : Int32).toInt = 1 := by decide
  have hr1 : ((r1.toInt = 0 ∧ (1 : Int32).toInt = 1) ∨ r1.toInt = -2 ∨ r1.toInt = -6) ∧ RWk r1 0 (Br2 0) (-1) ((Fmh 5).toInt - 1) (Fr2 3).toInt := hr1
  refine lv_istore_n (lv' := [(2, .int r1), (0, .ref adm), (1, .int 2)]) hx hb dX10_stop_6 rfl hl (by decide) rfl (fun ls hl => ?_)
  refine lv_iload_n hx hb dX10_stop_7 rfl (lv_at hl 0 rfl) ?_
  refine lv_if_eq (tgt := 13) hx hb dX10_stop_8 (by decide) (fun c4 => ?_) (fun c4 => ?_)
  · have zc4 := eqK rfl (show (0 : Int32).toInt = 0 by decide) c4
    refine lv_aload_n hx hb dX10_stop_13 rfl (lv_at hl 1 rfl) ?_
    refine getF (v := .ref (qm 5)) hx hb ht hown hK hP iTX10 0 5 rfl rfl (by decide) fl_RX10_41 rfl dX10_stop_14 ?_
    refine lv_iload_n hx hb dX10_stop_17 rfl (lv_at hl 2 rfl) ?_
    refine va_aldq hx hb hK.1 hP 2 5 rfl rfl (show ¬ (_ ∨ _) by decide) dX10_stop_18 ?_
    refine W.eq (g2 := F0 m 19 ls [.ref (qm 22)]) rfl ?_
    refine lv_astore_n (lv' := [(3, .ref (qm 22)), (2, .int r1), (0, .ref adm), (1, .int 2)]) hx hb dX10_stop_19 rfl hl (by decide) rfl (fun ls hl => ?_)
    refine lv_aload_n hx hb dX10_stop_20 rfl (lv_at hl 2 rfl) ?_
    refine getF (v := .ref (qm 7)) hx hb ht hown hK hP iTX10 0 7 rfl rfl (by decide) fl_RX10_52 rfl dX10_stop_21 ?_
    refine lv_aload_n hx hb dX10_stop_24 rfl (lv_at hl 2 rfl) ?_
    refine getF (v := .ref (qm 6)) hx hb ht hown hK hP iTX10 0 6 rfl rfl (by decide) fl_RX10_48 rfl dX10_stop_25 ?_
    refine behDw (wr := ((uX10 cs adm qm Fm Am Bm Dm) ++ ((uX8 cs (qm 3) qms Fms Ams Bms Dms) ++ ((uX3 cs (qms 0) qmh Fmh Amh Bmh Dmh) ++ (uX7 cs (qm 22) qr2 Fr2 Ar2 Br2 Dr2))))) (runVD (As := [.ref (qm 6)]) (rest := []) ⟨hx, hb, hml, hown, ht⟩ (sX5_copyFrom l G cs (qm 7) qmw Fmw Amw Bmw Dmw hImw (qm 6) qmn Fmn Amn Bmn Dmn hImn ) okV_RX10_179 ⟨by decide, by decide⟩ hK hP hD [16, 17, 18, 13, 14, 15] rfl (by decide) rfl 16 rfl rfl hl.1 rfl (Nat.le_of_ble_eq_true rfl) dX10_stop_28 ⟨(Nat.le_of_ble_eq_true rfl), (Nat.le_of_ble_eq_true rfl)⟩) hP hD hS hA [16, 17, 18, 13, 14, 15] [0, 1, 2, 3, 4, 5, 6, 7, 8, 9, 10, 11, 12, 19, 20] rfl rfl (by decide) (by decide) (fun u H locs hu hP hD hS => ?_)
    obtain ⟨x5, x6, g7⟩ := u
    have hr8 := hu
    have hP : va_P G vwCl ((uX10 cs adm qm Fm Am Bm Dm) ++ ((uX8 cs (qm 3) qms Fms Ams Bms Dms) ++ ((uX3 cs (qms 0) qmh Fmh Amh Bmh Dmh) ++ ((uX5 cs (qm 6) qmn Fmn Amn Bmn Dmn) ++ ((uX5 cs (qm 7) qmw (upv 3 x6 (upv 2 x5 Fmw)) (vB 0 g7 Amw) Bmw Dmw) ++ (uX7 cs (qm 22) qr2 Fr2 Ar2 Br2 Dr2)))))) H := hP.sub [0, 1, 2, 3, 4, 5, 6, 7, 8, 9, 10, 11, 12, 18, 19, 20, 15, 16, 17, 13, 14] rfl
    have hD : va_D A0 ((uX10 cs adm qm Fm Am Bm Dm) ++ ((uX8 cs (qm 3) qms Fms Ams Bms Dms) ++ ((uX3 cs (qms 0) qmh Fmh Amh Bmh Dmh) ++ ((uX5 cs (qm 6) qmn Fmn Amn Bmn Dmn) ++ ((uX5 cs (qm 7) qmw (upv 3 x6 (upv 2 x5 Fmw)) (vB 0 g7 Amw) Bmw Dmw) ++ (uX7 cs (qm 22) qr2 Fr2 Ar2 Br2 Dr2)))))) := hD.sub [0, 1, 2, 3, 4, 5, 6, 7, 8, 9, 10, 11, 12, 18, 19, 20, 15, 16, 17, 13, 14] (by decide) rfl
    refine lv_iconst (v := 0) hx hb dX10_stop_31 (by decide) ?_
    refine lv_istore (lv' := [(4, .int 0), (3, .ref (qm 22)), (2, .int r1), (0, .ref adm), (1, .int 2)]) hx hb dX10_stop_32 hl (by decide) rfl (fun ls hl => ?_)
    refine lv_iconst (v := 0) hx hb dX10_stop_34 (by decide) ?_
    refine lv_istore (lv' := [(5, .int 0), (4, .int 0), (3, .ref (qm 22)), (2, .int r1), (0, .ref adm), (1, .int 2)]) hx hb dX10_stop_35 hl (by decide) rfl (fun ls hl => ?_)
    refine lv_iconst (v := 0) hx hb dX10_stop_37 (by decide) ?_
    refine lv_istore (lv' := [(6, .int 0), (5, .int 0), (4, .int 0), (3, .ref (qm 22)), (2, .int r1), (0, .ref adm), (1, .int 2)]) hx hb dX10_stop_38 hl (by decide) rfl (fun ls hl => ?_)
    have B40 : ∀ (n : Nat) (x40_4 : Int32) (x40_5 : Int32) (x40_6 : Int32) (fmw3_40 : Int32) (amw0_40 : (Nat → Int32)) (amw1_40 : (Nat → Int32)) (H : Heap) (locs : List Loc) (ls : Array Slot), (60 - x40_6.toInt).toNat < n → (0 : Int) ≤ x40_4.toInt → (0 : Int) ≤ x40_5.toInt ∧ x40_5.toInt ≤ 60 → (0 : Int) ≤ x40_6.toInt ∧ x40_6.toInt ≤ 60 → va_P G vwCl ((uX10 cs adm qm Fm Am Bm Dm) ++ ((uX8 cs (qm 3) qms Fms Ams Bms Dms) ++ ((uX3 cs (qms 0) qmh Fmh Amh Bmh Dmh) ++ ((uX5 cs (qm 6) qmn Fmn Amn Bmn Dmn) ++ ((uX5 cs (qm 7) qmw (upv 3 fmw3_40 (upv 2 x5 Fmw)) (vB 1 amw1_40 (vB 0 amw0_40 Amw)) Bmw Dmw) ++ (uX7 cs (qm 22) qr2 Fr2 Ar2 Br2 Dr2)))))) H → va_D A0 ((uX10 cs adm qm Fm Am Bm Dm) ++ ((uX8 cs (qm 3) qms Fms Ams Bms Dms) ++ ((uX3 cs (qms 0) qmh Fmh Amh Bmh Dmh) ++ ((uX5 cs (qm 6) qmn Fmn Amn Bmn Dmn) ++ ((uX5 cs (qm 7) qmw (upv 3 fmw3_40 (upv 2 x5 Fmw)) (vB 1 amw1_40 (vB 0 amw0_40 Amw)) Bmw Dmw) ++ (uX7 cs (qm 22) qr2 Fr2 Ar2 Br2 Dr2)))))) → va_S A0 s.heap H locs → lv_has ls 8 [(0, .ref adm), (3, .ref (qm 22)), (4, .int x40_4), (5, .int x40_5), (6, .int x40_6)] → W p l e (rmk 4 0 0) s m args below meth c H locs 0 0 (MQ below ((QDi G (fun (r : Int32) (u : Int32 × Int32 × (Nat → Int32) × (Nat → Int32)) => True) (fun u : Int32 × Int32 × (Nat → Int32) × (Nat → Int32) => ((uX10 cs adm qm Fm Am Bm Dm) ++ ((uX8 cs (qm 3) qms Fms Ams Bms Dms) ++ ((uX3 cs (qms 0) qmh Fmh Amh Bmh Dmh) ++ ((uX5 cs (qm 6) qmn Fmn Amn Bmn Dmn) ++ ((wX5 cs (qm 7) qmw (upd (upd Fmw 2 u.1) 3 u.2.1) (vA (vA Amw 0 u.2.2.1) 1 u.2.2.2) Bmw Dmw) ++ (uX7 cs (qm 22) qr2 Fr2 Ar2 Br2 Dr2)))))))) A0) args s 0 0 A0) (F0 m 40 ls []) := by
      intro n
      induction n with
      | zero => intro x40_4 x40_5 x40_6 fmw3_40 amw0_40 amw1_40 H locs ls hmeas hx40_4 hx40_5 hx40_6 hP hD hS hl; exact absurd hmeas (Nat.not_lt_zero _)
      | succ n ih40 =>
        intro x40_4 x40_5 x40_6 fmw3_40 amw0_40 amw1_40 H locs ls hmeas hx40_4 hx40_5 hx40_6 hP hD hS hl
        refine lv_iload hx hb dX10_stop_40 (lv_at hl 4 rfl) ?_
        refine lv_aload_n hx hb dX10_stop_42 rfl (lv_at hl 1 rfl) ?_
        refine getF (v := .int (Fr2 3)) hx hb ht hown hK hP iTX7 19 3 rfl rfl (by decide) fl_RX10_194 rfl dX10_stop_43 ?_
        have zf26001 : (0 : Int) ≤ (Fr2 3).toInt ∧ (Fr2 3).toInt ≤ 60 := hIr2.1 3
        refine lv_icmp_ge (tgt := 119) hx hb dX10_stop_46 (by decide) (fun c26002 => ?_) (fun c26002 => ?_)
        · have zc26002 := leK rfl rfl c26002
          refine lv_iload hx hb dX10_stop_119 (lv_at hl 3 rfl) ?_
          exact retDi (x5, fmw3_40, amw0_40, amw1_40) hx hb hr hlk hP hD hS dX10_stop_121 (trivial) (Nat.le_of_ble_eq_true rfl) (Nat.le_of_ble_eq_true rfl)
        · have zc26002 := nleK rfl rfl c26002
          refine lv_aload_n hx hb dX10_stop_49 rfl (lv_at hl 0 rfl) ?_
          refine getF (v := .ref (qm 7)) hx hb ht hown hK hP iTX10 0 7 rfl rfl (by decide) fl_RX10_52 rfl dX10_stop_50 ?_
          refine lv_aload_n hx hb dX10_stop_53 rfl (lv_at hl 0 rfl) ?_
          refine getF (v := .ref (qm 3)) hx hb ht hown hK hP iTX10 0 3 rfl rfl (by decide) fl_RX10_31 rfl dX10_stop_54 ?_
          refine getF (v := .ref (qms 0)) hx hb ht hown hK hP iTX8 3 0 rfl rfl (by decide) fl_RX10_98 rfl dX10_stop_57 ?_
          refine lv_aload_n hx hb dX10_stop_60 rfl (lv_at hl 1 rfl) ?_
          refine lv_iload hx hb dX10_stop_61 (lv_at hl 4 rfl) ?_
          refine behR (runVP (As := [.int x40_6]) (rest := [.ref (qms 0), .ref (qm 7)]) ⟨hx, hb, hml, hown, ht⟩ (sX7_roomAt l G cs (qm 22) qr2 Fr2 Ar2 Br2 Dr2 hIr2 x40_6 ) okV_RX10_195 ⟨by decide, by decide⟩ hK hP [19, 20] rfl 19 rfl rfl hl.1 rfl (Nat.le_of_ble_eq_true rfl) dX10_stop_63 ⟨by decide, by decide⟩) hP hS hA (fun r26003 H locs hr26003 hP hS => ?_)
          have hr26003 : RAt r26003 x40_6 (Br2 0) (Fr2 3).toInt := hr26003
          have z5r26003 : (0 : Int) ≤ (Fmh 5).toInt ∧ (Fmh 5).toInt ≤ 7 := hImh.1 5
          have zbr26003 := RWr hr26003 (hr1.2 (by omega)) (by omega) (by omega) (by omega) (by omega)
          refine lv_iconst (v := 0) hx hb dX10_stop_66 (by decide) ?_
          refine behDi (wr := ((uX10 cs adm qm Fm Am Bm Dm) ++ ((uX8 cs (qm 3) qms Fms Ams Bms Dms) ++ ((uX5 cs (qm 6) qmn Fmn Amn Bmn Dmn) ++ (uX7 cs (qm 22) qr2 Fr2 Ar2 Br2 Dr2))))) (runVD (As := [.ref (qms 0), .int r26003, .int 0]) (rest := []) ⟨hx, hb, hml, hown, ht⟩ (sX5_live l G cs (qm 7) qmw (upv 3 fmw3_40 (upv 2 x5 Fmw)) (vB 1 amw1_40 (vB 0 amw0_40 Amw)) Bmw Dmw (IB_av (k := 1) (IB_av (k := 0) (IB_pv (k := 3) (IB_pv (k := 2) hImw (i32b _)) (i32b _)) (AJ_full _)) (AJ_full _)) (qms 0) qmh Fmh Amh Bmh Dmh hImh r26003 0 (by decide)) okV_RX10_175 ⟨by decide, by decide⟩ hK hP hD [16, 17, 18, 5, 6, 7, 8, 9, 10, 11, 12] rfl (by decide) rfl 16 rfl rfl hl.1 rfl (Nat.le_of_ble_eq_true rfl) dX10_stop_67 ⟨(Nat.le_of_ble_eq_true rfl), (Nat.le_of_ble_eq_true rfl)⟩) hP hD hS hA [16, 17, 18, 5, 6, 7, 8, 9, 10, 11, 12] [0, 1, 2, 3, 4, 13, 14, 15, 19, 20] rfl rfl (by decide) (by decide) (fun r9 u H locs hu hP hD hS => ?_)
          obtain ⟨x26004, g26005, g26006⟩ := u
          obtain ⟨r26007, rfl⟩ : ∃ z, z = r9 := ⟨_, rfl⟩
          have hr26007 := hu
          have hP : va_P G vwCl ((uX10 cs adm qm Fm Am Bm Dm) ++ ((uX8 cs (qm 3) qms Fms Ams Bms Dms) ++ ((uX3 cs (qms 0) qmh Fmh Amh Bmh Dmh) ++ ((uX5 cs (qm 6) qmn Fmn Amn Bmn Dmn) ++ ((uX5 cs (qm 7) qmw (upv 3 x26004 (upv 2 x5 Fmw)) (vB 1 g26006 (vB 0 g26005 Amw)) Bmw Dmw) ++ (uX7 cs (qm 22) qr2 Fr2 Ar2 Br2 Dr2)))))) H := hP.sub [0, 1, 2, 3, 4, 13, 14, 15, 16, 17, 18, 19, 20, 5, 6, 7, 10, 11, 12, 8, 9] rfl
          have hD : va_D A0 ((uX10 cs adm qm Fm Am Bm Dm) ++ ((uX8 cs (qm 3) qms Fms Ams Bms Dms) ++ ((uX3 cs (qms 0) qmh Fmh Amh Bmh Dmh) ++ ((uX5 cs (qm 6) qmn Fmn Amn Bmn Dmn) ++ ((uX5 cs (qm 7) qmw (upv 3 x26004 (upv 2 x5 Fmw)) (vB 1 g26006 (vB 0 g26005 Amw)) Bmw Dmw) ++ (uX7 cs (qm 22) qr2 Fr2 Ar2 Br2 Dr2)))))) := hD.sub [0, 1, 2, 3, 4, 13, 14, 15, 16, 17, 18, 19, 20, 5, 6, 7, 10, 11, 12, 8, 9] (by decide) rfl
          refine lv_pop hx hb dX10_stop_70 rfl ?_
          refine lv_aload_n hx hb dX10_stop_71 rfl (lv_at hl 0 rfl) ?_
          refine lv_aload_n hx hb dX10_stop_72 rfl (lv_at hl 0 rfl) ?_
          refine getF (v := .ref (qm 7)) hx hb ht hown hK hP iTX10 0 7 rfl rfl (by decide) fl_RX10_52 rfl dX10_stop_73 ?_
          refine getF (v := .int x26004) hx hb ht hown hK hP iTX5 16 3 rfl rfl (by decide) fl_RX10_156 rfl dX10_stop_76 ?_
          refine lv_aload_n hx hb dX10_stop_79 rfl (lv_at hl 0 rfl) ?_
          refine getF (v := .ref (qm 6)) hx hb ht hown hK hP iTX10 0 6 rfl rfl (by decide) fl_RX10_48 rfl dX10_stop_80 ?_
          refine getF (v := .int (Fmn 3)) hx hb ht hown hK hP iTX5 13 3 rfl rfl (by decide) fl_RX10_156 rfl dX10_stop_83 ?_
          refine lv_isub hx hb dX10_stop_86 ?_
          refine lv_topi (fun v26008 ev26008 => ?_)
          refine lv_iload hx hb dX10_stop_87 (lv_at hl 4 rfl) ?_
          refine lv_iconst (v := 1) hx hb dX10_stop_89 (by decide) ?_
          refine lv_iadd hx hb dX10_stop_90 ?_
          refine lv_topi (fun v26009 ev26009 => ?_)
          have tv26009 : v26009.toInt = x40_6.toInt + 1 := by rw [ev26009]; exact addT rfl (show (1 : Int32).toInt = 1 by decide) (by omega)
          refine behR (runVP (As := [.int v26008, .int v26009]) (rest := []) ⟨hx, hb, hml, hown, ht⟩ (sX10_gainOf l G cs adm qm Fm Am Bm Dm hIm qms Fms Ams Bms Dms hIms qmh Fmh Amh Bmh Dmh hImh v26008 v26009 ) okV_RX10_202 ⟨by decide, by decide⟩ hK hP [0, 1, 2, 3, 4, 5, 6, 7, 8, 9, 10, 11, 12] rfl 0 rfl rfl hl.1 rfl (Nat.le_of_ble_eq_true rfl) dX10_stop_91 ⟨by decide, by decide⟩) hP hS hA (fun r26010 H locs hr26010 hP hS => ?_)
          refine lv_istore (lv' := [(7, .int r26010), (0, .ref adm), (3, .ref (qm 22)), (4, .int x40_4), (5, .int x40_5), (6, .int x40_6)]) hx hb dX10_stop_94 hl (by decide) rfl (fun ls hl => ?_)
          refine lv_iload hx hb dX10_stop_96 (lv_at hl 0 rfl) ?_
          refine lv_iload hx hb dX10_stop_98 (lv_at hl 3 rfl) ?_
          have B113 : ∀ (x113_4 : Int32) (x113_5 : Int32) (H : Heap) (locs : List Loc) (ls : Array Slot), (0 : Int) ≤ x113_4.toInt → (0 : Int) ≤ x113_5.toInt ∧ x113_5.toInt ≤ 60 → va_P G vwCl ((uX10 cs adm qm Fm Am Bm Dm) ++ ((uX8 cs (qm 3) qms Fms Ams Bms Dms) ++ ((uX3 cs (qms 0) qmh Fmh Amh Bmh Dmh) ++ ((uX5 cs (qm 6) qmn Fmn Amn Bmn Dmn) ++ ((uX5 cs (qm 7) qmw (upv 3 x26004 (upv 2 x5 Fmw)) (vB 1 g26006 (vB 0 g26005 Amw)) Bmw Dmw) ++ (uX7 cs (qm 22) qr2 Fr2 Ar2 Br2 Dr2)))))) H → va_D A0 ((uX10 cs adm qm Fm Am Bm Dm) ++ ((uX8 cs (qm 3) qms Fms Ams Bms Dms) ++ ((uX3 cs (qms 0) qmh Fmh Amh Bmh Dmh) ++ ((uX5 cs (qm 6) qmn Fmn Amn Bmn Dmn) ++ ((uX5 cs (qm 7) qmw (upv 3 x26004 (upv 2 x5 Fmw)) (vB 1 g26006 (vB 0 g26005 Amw)) Bmw Dmw) ++ (uX7 cs (qm 22) qr2 Fr2 Ar2 Br2 Dr2)))))) → va_S A0 s.heap H locs → lv_has ls 8 [(0, .ref adm), (3, .ref (qm 22)), (4, .int x113_4), (5, .int x113_5), (6, .int x40_6)] → W p l e (rmk 4 0 0) s m args below meth c H locs 0 0 (MQ below ((QDi G (fun (r : Int32) (u : Int32 × Int32 × (Nat → Int32) × (Nat → Int32)) => True) (fun u : Int32 × Int32 × (Nat → Int32) × (Nat → Int32) => ((uX10 cs adm qm Fm Am Bm Dm) ++ ((uX8 cs (qm 3) qms Fms Ams Bms Dms) ++ ((uX3 cs (qms 0) qmh Fmh Amh Bmh Dmh) ++ ((uX5 cs (qm 6) qmn Fmn Amn Bmn Dmn) ++ ((wX5 cs (qm 7) qmw (upd (upd Fmw 2 u.1) 3 u.2.1) (vA (vA Amw 0 u.2.2.1) 1 u.2.2.2) Bmw Dmw) ++ (uX7 cs (qm 22) qr2 Fr2 Ar2 Br2 Dr2)))))))) A0) args s 0 0 A0) (F0 m 113 ls []) := by
            intro x113_4 x113_5 H locs ls hx113_4 hx113_5 hP hD hS hl
            obtain ⟨v63001, ev63001⟩ : ∃ z : Int32, z = x40_6 + 1 := ⟨_, rfl⟩
            have tv63001 : v63001.toInt = x40_6.toInt + 1 := by rw [ev63001]; exact addT rfl (by decide) (by omega)
            refine lv_iinc (v := v63001) (lv' := [(6, .int v63001), (0, .ref adm), (3, .ref (qm 22)), (4, .int x113_4), (5, .int x113_5)]) hx hb dX10_stop_113 hl (k := 4) rfl (by rw [ev63001]; rfl) (by decide) rfl (fun ls hl => ?_)
            refine lv_goto (tgt := 40) hx hb dX10_stop_116 (by decide) ?_
            exact ih40 x113_4 x113_5 v63001 x26004 g26005 g26006 H locs ls (by omega) (by omega) (by omega) (by omega) hP hD hS (lv_sub hl [1, 2, 3, 4, 0] rfl)
          refine lv_icmp_le (tgt := 113) hx hb dX10_stop_100 (by decide) (fun c26011 => ?_) (fun c26011 => ?_)
          · have zc26011 := leK rfl rfl c26011
            exact B113 x40_4 x40_5 H locs ls (by omega) (by omega) hP hD hS (lv_sub hl [1, 2, 3, 4, 5] rfl)
          · have zc26011 := nleK rfl rfl c26011
            refine lv_iload hx hb dX10_stop_103 (lv_at hl 0 rfl) ?_
            refine lv_istore (lv' := [(4, .int r26010), (7, .int r26010), (0, .ref adm), (3, .ref (qm 22)), (5, .int x40_5), (6, .int x40_6)]) hx hb dX10_stop_105 hl (by decide) rfl (fun ls hl => ?_)
            refine lv_iload hx hb dX10_stop_107 (lv_at hl 5 rfl) ?_
            refine lv_iconst (v := 1) hx hb dX10_stop_109 (by decide) ?_
            refine lv_iadd hx hb dX10_stop_110 ?_
            refine lv_topi (fun v26012 ev26012 => ?_)
            have tv26012 : v26012.toInt = x40_6.toInt + 1 := by rw [ev26012]; exact addT rfl (show (1 : Int32).toInt = 1 by decide) (by omega)
            refine lv_istore (lv' := [(5, .int v26012), (4, .int r26010), (7, .int r26010), (0, .ref adm), (3, .ref (qm 22)), (6, .int x40_6)]) hx hb dX10_stop_111 hl (by decide) rfl (fun ls hl => ?_)
            exact B113 r26010 v26012 H locs ls (by omega) (by omega) hP hD hS (lv_sub hl [3, 4, 1, 0, 5] rfl)
    exact B40 _ 0 0 0 x6 g7 (Amw 1) H locs ls (Nat.lt_succ_self _) (by decide) (by decide) (by decide) hP hD hS (lv_sub hl [5, 3, 2, 1, 0] rfl)
  · have zc4 := neK rfl (show (0 : Int32).toInt = 0 by decide) c4
    refine lv_iload_n hx hb dX10_stop_11 rfl (lv_at hl 0 rfl) ?_
    exact retDi ((Fmw 2), (Fmw 3), (Amw 0), (Amw 1)) hx hb hr hlk hP hD hS dX10_stop_12 (trivial) (Nat.le_of_ble_eq_true rfl) (Nat.le_of_ble_eq_true rfl)

set_option maxRecDepth 100000 in
set_option maxHeartbeats 16000000 in
theorem sX10_stop_3 (l : Launch) (G : va_G) (cs : Nat → ClassId) (adm : Nat) (qm : Nat → Nat) (Fm : Nat → Int32) (Am : Nat → Nat → Int32) (Bm : Nat → Nat → Int64) (Dm : Int64) (hIm : IX10 Fm Am) (qms : Nat → Nat) (Fms : Nat → Int32) (Ams : Nat → Nat → Int32) (Bms : Nat → Nat → Int64) (Dms : Int64) (hIms : IX8 Fms Ams) (qmh : Nat → Nat) (Fmh : Nat → Int32) (Amh : Nat → Nat → Int32) (Bmh : Nat → Nat → Int64) (Dmh : Int64) (hImh : IX3 Fmh Amh) (qmn : Nat → Nat) (Fmn : Nat → Int32) (Amn : Nat → Nat → Int32) (Bmn : Nat → Nat → Int64) (Dmn : Int64) (hImn : IX5 Fmn Amn) (qmw : Nat → Nat) (Fmw : Nat → Int32) (Amw : Nat → Nat → Int32) (Bmw : Nat → Nat → Int64) (Dmw : Int64) (hImw : IX5 Fmw Amw) (qr3 : Nat → Nat) (Fr3 : Nat → Int32) (Ar3 : Nat → Nat → Int32) (Br3 : Nat → Nat → Int64) (Dr3 : Int64) (hIr3 : IX7 Fr3 Ar3) : ∀ sz : Nat, Met l yX10_stop (wk yX10_stop cX10_stop 8 (some .int)) (rmk 4 0 0) (PreD G (TY cs) [.ref adm, .int 3] ((uX10 cs adm qm Fm Am Bm Dm) ++ ((uX8 cs (qm 3) qms Fms Ams Bms Dms) ++ ((uX3 cs (qms 0) qmh Fmh Amh Bmh Dmh) ++ ((uX5 cs (qm 6) qmn Fmn Amn Bmn Dmn) ++ ((uX5 cs (qm 7) qmw Fmw Amw Bmw Dmw) ++ (uX7 cs (qm 23) qr3 Fr3 Ar3 Br3 Dr3)))))) sz) ((QDi G (fun (r : Int32) (u : Int32 × Int32 × (Nat → Int32) × (Nat → Int32)) => True) (fun u : Int32 × Int32 × (Nat → Int32) × (Nat → Int32) => ((uX10 cs adm qm Fm Am Bm Dm) ++ ((uX8 cs (qm 3) qms Fms Ams Bms Dms) ++ ((uX3 cs (qms 0) qmh Fmh Amh Bmh Dmh) ++ ((uX5 cs (qm 6) qmn Fmn Amn Bmn Dmn) ++ ((wX5 cs (qm 7) qmw (upd (upd Fmw 2 u.1) 3 u.2.1) (vA (vA Amw 0 u.2.2.1) 1 u.2.2.2) Bmw Dmw) ++ (uX7 cs (qm 23) qr3 Fr3 Ar3 Br3 Dr3)))))))) (va_A ((uX10 cs adm qm Fm Am Bm Dm) ++ ((uX8 cs (qm 3) qms Fms Ams Bms Dms) ++ ((uX3 cs (qms 0) qmh Fmh Amh Bmh Dmh) ++ ((uX5 cs (qm 6) qmn Fmn Amn Bmn Dmn) ++ ((uX5 cs (qm 7) qmw Fmw Amw Bmw Dmw) ++ (uX7 cs (qm 23) qr3 Fr3 Ar3 Br3 Dr3)))))) sz)) 0 0 (va_A ((uX10 cs adm qm Fm Am Bm Dm) ++ ((uX8 cs (qm 3) qms Fms Ams Bms Dms) ++ ((uX3 cs (qms 0) qmh Fmh Amh Bmh Dmh) ++ ((uX5 cs (qm 6) qmn Fmn Amn Bmn Dmn) ++ ((uX5 cs (qm 7) qmw Fmw Amw Bmw Dmw) ++ (uX7 cs (qm 23) qr3 Fr3 Ar3 Br3 Dr3)))))) sz) := by
  refine mkD (Qc := (QDi G (fun (r : Int32) (u : Int32 × Int32 × (Nat → Int32) × (Nat → Int32)) => True) (fun u : Int32 × Int32 × (Nat → Int32) × (Nat → Int32) => ((uX10 cs adm qm Fm Am Bm Dm) ++ ((uX8 cs (qm 3) qms Fms Ams Bms Dms) ++ ((uX3 cs (qms 0) qmh Fmh Amh Bmh Dmh) ++ ((uX5 cs (qm 6) qmn Fmn Amn Bmn Dmn) ++ ((wX5 cs (qm 7) qmw (upd (upd Fmw 2 u.1) 3 u.2.1) (vA (vA Amw 0 u.2.2.1) 1 u.2.2.2) Bmw Dmw) ++ (uX7 cs (qm 23) qr3 Fr3 Ar3 Br3 Dr3))))))))) (by decide) (by simp [lg_sl, Value.category]) ?_
  intro p e s m args below meth c ls A0 hx hb hml hr hlk hown hmn ht hK hP hD hS hA hl
  have hl : lv_has ls 8 [(0, .ref adm), (1, .int 3)] := hl
  refine lv_aload_n hx hb dX10_stop_0 rfl (lv_at hl 0 rfl) ?_
  refine lv_iload_n hx hb dX10_stop_1 rfl (lv_at hl 1 rfl) ?_
  refine lv_iconst (v := 1) hx hb dX10_stop_2 (by decide) ?_
  refine behR (runVP (As := [.int 3, .int 1]) (rest := []) ⟨hx, hb, hml, hown, ht⟩ (sX10_askRound_3 l G cs adm qm Fm Am Bm Dm hIm qms Fms Ams Bms Dms hIms qmh Fmh Amh Bmh Dmh hImh qr3 Fr3 Ar3 Br3 Dr3 hIr3 1 (by decide)) okV_RX10_186 ⟨by decide, by decide⟩ hK hP [0, 1, 2, 3, 4, 5, 6, 7, 8, 9, 10, 11, 12, 19, 20] rfl 0 rfl rfl hl.1 rfl (Nat.le_of_ble_eq_true rfl) dX10_stop_3 ⟨by decide, by decide⟩) hP hS hA (fun r1 H locs hr1 hP hS => ?_)
  have kk2 : (3 : Int32).toInt = 3 := by decide
  have kk3 : (1 : Int32).toInt = 1 := by decide
  have hr1 : ((r1.toInt = 0 ∧ (1 : Int32).toInt = 1) ∨ r1.toInt = -2 ∨ r1.toInt = -6) ∧ RWk r1 0 (Br3 0) (-1) ((Fmh 5).toInt - 1) (Fr3 3).toInt := hr1
  refine lv_istore_n (lv' := [(2, .int r1), (0, .ref adm), (1, .int 3)]) hx hb dX10_stop_6 rfl hl (by decide) rfl (fun ls hl => ?_)
  refine lv_iload_n hx hb dX10_stop_7 rfl (lv_at hl 0 rfl) ?_
  refine lv_if_eq (tgt := 13) hx hb dX10_stop_8 (by decide) (fun c4 => ?_) (fun c4 => ?_)
  · have zc4 := eqK rfl (show (0 : Int32).toInt = 0 by decide) c4
    refine lv_aload_n hx hb dX10_stop_13 rfl (lv_at hl 1 rfl) ?_
    refine getF (v := .ref (qm 5)) hx hb ht hown hK hP iTX10 0 5 rfl rfl (by decide) fl_RX10_41 rfl dX10_stop_14 ?_
    refine lv_iload_n hx hb dX10_stop_17 rfl (lv_at hl 2 rfl) ?_
    refine va_aldq hx hb hK.1 hP 2 5 rfl rfl (show ¬ (_ ∨ _) by decide) dX10_stop_18 ?_
    refine W.eq (g2 := F0 m 19 ls [.ref (qm 23)]) rfl ?_
    refine lv_astore_n (lv' := [(3, .ref (qm 23)), (2, .int r1), (0, .ref adm), (1, .int 3)]) hx hb dX10_stop_19 rfl hl (by decide) rfl (fun ls hl => ?_)
    refine lv_aload_n hx hb dX10_stop_20 rfl (lv_at hl 2 rfl) ?_
    refine getF (v := .ref (qm 7)) hx hb ht hown hK hP iTX10 0 7 rfl rfl (by decide) fl_RX10_52 rfl dX10_stop_21 ?_
    refine lv_aload_n hx hb dX10_stop_24 rfl (lv_at hl 2 rfl) ?_
    refine getF (v := .ref (qm 6)) hx hb ht hown hK hP iTX10 0 6 rfl rfl (by decide) fl_RX10_48 rfl dX10_stop_25 ?_
    refine behDw (wr := ((uX10 cs adm qm Fm Am Bm Dm) ++ ((uX8 cs (qm 3) qms Fms Ams Bms Dms) ++ ((uX3 cs (qms 0) qmh Fmh Amh Bmh Dmh) ++ (uX7 cs (qm 23) qr3 Fr3 Ar3 Br3 Dr3))))) (runVD (As := [.ref (qm 6)]) (rest := []) ⟨hx, hb, hml, hown, ht⟩ (sX5_copyFrom l G cs (qm 7) qmw Fmw Amw Bmw Dmw hImw (qm 6) qmn Fmn Amn Bmn Dmn hImn ) okV_RX10_179 ⟨by decide, by decide⟩ hK hP hD [16, 17, 18, 13, 14, 15] rfl (by decide) rfl 16 rfl rfl hl.1 rfl (Nat.le_of_ble_eq_true rfl) dX10_stop_28 ⟨(Nat.le_of_ble_eq_true rfl), (Nat.le_of_ble_eq_true rfl)⟩) hP hD hS hA [16, 17, 18, 13, 14, 15] [0, 1, 2, 3, 4, 5, 6, 7, 8, 9, 10, 11, 12, 19, 20] rfl rfl (by decide) (by decide) (fun u H locs hu hP hD hS => ?_)
    obtain ⟨x5, x6, g7⟩ := u
    have hr8 := hu
    have hP : va_P G vwCl ((uX10 cs adm qm Fm Am Bm Dm) ++ ((uX8 cs (qm 3) qms Fms Ams Bms Dms) ++ ((uX3 cs (qms 0) qmh Fmh Amh Bmh Dmh) ++ ((uX5 cs (qm 6) qmn Fmn Amn Bmn Dmn) ++ ((uX5 cs (qm 7) qmw (upv 3 x6 (upv 2 x5 Fmw)) (vB 0 g7 Amw) Bmw Dmw) ++ (uX7 cs (qm 23) qr3 Fr3 Ar3 Br3 Dr3)))))) H := hP.sub [0, 1, 2, 3, 4, 5, 6, 7, 8, 9, 10, 11, 12, 18, 19, 20, 15, 16, 17, 13, 14] rfl
    have hD : va_D A0 ((uX10 cs adm qm Fm Am Bm Dm) ++ ((uX8 cs (qm 3) qms Fms Ams Bms Dms) ++ ((uX3 cs (qms 0) qmh Fmh Amh Bmh Dmh) ++ ((uX5 cs (qm 6) qmn Fmn Amn Bmn Dmn) ++ ((uX5 cs (qm 7) qmw (upv 3 x6 (upv 2 x5 Fmw)) (vB 0 g7 Amw) Bmw Dmw) ++ (uX7 cs (qm 23) qr3 Fr3 Ar3 Br3 Dr3)))))) := hD.sub [0, 1, 2, 3, 4, 5, 6, 7, 8, 9, 10, 11, 12, 18, 19, 20, 15, 16, 17, 13, 14] (by decide) rfl
    refine lv_iconst (v := 0) hx hb dX10_stop_31 (by decide) ?_
    refine lv_istore (lv' := [(4, .int 0), (3, .ref (qm 23)), (2, .int r1), (0, .ref adm), (1, .int 3)]) hx hb dX10_stop_32 hl (by decide) rfl (fun ls hl => ?_)
    refine lv_iconst (v := 0) hx hb dX10_stop_34 (by decide) ?_
    refine lv_istore (lv' := [(5, .int 0), (4, .int 0), (3, .ref (qm 23)), (2, .int r1), (0, .ref adm), (1, .int 3)]) hx hb dX10_stop_35 hl (by decide) rfl (fun ls hl => ?_)
    refine lv_iconst (v := 0) hx hb dX10_stop_37 (by decide) ?_
    refine lv_istore (lv' := [(6, .int 0), (5, .int 0), (4, .int 0), (3, .ref (qm 23)), (2, .int r1), (0, .ref adm), (1, .int 3)]) hx hb dX10_stop_38 hl (by decide) rfl (fun ls hl => ?_)
    have B40 : ∀ (n : Nat) (x40_4 : Int32) (x40_5 : Int32) (x40_6 : Int32) (fmw3_40 : Int32) (amw0_40 : (Nat → Int32)) (amw1_40 : (Nat → Int32)) (H : Heap) (locs : List Loc) (ls : Array Slot), (60 - x40_6.toInt).toNat < n → (0 : Int) ≤ x40_4.toInt → (0 : Int) ≤ x40_5.toInt ∧ x40_5.toInt ≤ 60 → (0 : Int) ≤ x40_6.toInt ∧ x40_6.toInt ≤ 60 → va_P G vwCl ((uX10 cs adm qm Fm Am Bm Dm) ++ ((uX8 cs (qm 3) qms Fms Ams Bms Dms) ++ ((uX3 cs (qms 0) qmh Fmh Amh Bmh Dmh) ++ ((uX5 cs (qm 6) qmn Fmn Amn Bmn Dmn) ++ ((uX5 cs (qm 7) qmw (upv 3 fmw3_40 (upv 2 x5 Fmw)) (vB 1 amw1_40 (vB 0 amw0_40 Amw)) Bmw Dmw) ++ (uX7 cs (qm 23) qr3 Fr3 Ar3 Br3 Dr3)))))) H → va_D A0 ((uX10 cs adm qm Fm Am Bm Dm) ++ ((uX8 cs (qm 3) qms Fms Ams Bms Dms) ++ ((uX3 cs (qms 0) qmh Fmh Amh Bmh Dmh) ++ ((uX5 cs (qm 6) qmn Fmn Amn Bmn Dmn) ++ ((uX5 cs (qm 7) qmw (upv 3 fmw3_40 (upv 2 x5 Fmw)) (vB 1 amw1_40 (vB 0 amw0_40 Amw)) Bmw Dmw) ++ (uX7 cs (qm 23) qr3 Fr3 Ar3 Br3 Dr3)))))) → va_S A0 s.heap H locs → lv_has ls 8 [(0, .ref adm), (3, .ref (qm 23)), (4, .int x40_4), (5, .int x40_5), (6, .int x40_6)] → W p l e (rmk 4 0 0) s m args below meth c H locs 0 0 (MQ below ((QDi G (fun (r : Int32) (u : Int32 × Int32 × (Nat → Int32) × (Nat → Int32)) => True) (fun u : Int32 × Int32 × (Nat → Int32) × (Nat → Int32) => ((uX10 cs adm qm Fm Am Bm Dm) ++ ((uX8 cs (qm 3) qms Fms Ams Bms Dms) ++ ((uX3 cs (qms 0) qmh Fmh Amh Bmh Dmh) ++ ((uX5 cs (qm 6) qmn Fmn Amn Bmn Dmn) ++ ((wX5 cs (qm 7) qmw (upd (upd Fmw 2 u.1) 3 u.2.1) (vA (vA Amw 0 u.2.2.1) 1 u.2.2.2) Bmw Dmw) ++ (uX7 cs (qm 23) qr3 Fr3 Ar3 Br3 Dr3)))))))) A0) args s 0 0 A0) (F0 m 40 ls []) := by
      intro n
      induction n with
      | zero => intro x40_4 x40_5 x40_6 fmw3_40 amw0_40 amw1_40 H locs ls hmeas hx40_4 hx40_5 hx40_6 hP hD hS hl; exact absurd hmeas (Nat.not_lt_zero _)
      | succ n ih40 =>
        intro x40_4 x40_5 x40_6 fmw3_40 amw0_40 amw1_40 H locs ls hmeas hx40_4 hx40_5 hx40_6 hP hD hS hl
        refine lv_iload hx hb dX10_stop_40 (lv_at hl 4 rfl) ?_
        refine lv_aload_n hx hb dX10_stop_42 rfl (lv_at hl 1 rfl) ?_
        refine getF (v := .int (Fr3 3)) hx hb ht hown hK hP iTX7 19 3 rfl rfl (by decide) fl_RX10_194 rfl dX10_stop_43 ?_
        have zf26001 : (0 : Int) ≤ (Fr3 3).toInt ∧ (Fr3 3).toInt ≤ 60 := hIr3.1 3
        refine lv_icmp_ge (tgt := 119) hx hb dX10_stop_46 (by decide) (fun c26002 => ?_) (fun c26002 => ?_)
        · have zc26002 := leK rfl rfl c26002
          refine lv_iload hx hb dX10_stop_119 (lv_at hl 3 rfl) ?_
          exact retDi (x5, fmw3_40, amw0_40, amw1_40) hx hb hr hlk hP hD hS dX10_stop_121 (trivial) (Nat.le_of_ble_eq_true rfl) (Nat.le_of_ble_eq_true rfl)
        · have zc26002 := nleK rfl rfl c26002
          refine lv_aload_n hx hb dX10_stop_49 rfl (lv_at hl 0 rfl) ?_
          refine getF (v := .ref (qm 7)) hx hb ht hown hK hP iTX10 0 7 rfl rfl (by decide) fl_RX10_52 rfl dX10_stop_50 ?_
          refine lv_aload_n hx hb dX10_stop_53 rfl (lv_at hl 0 rfl) ?_
          refine getF (v := .ref (qm 3)) hx hb ht hown hK hP iTX10 0 3 rfl rfl (by decide) fl_RX10_31 rfl dX10_stop_54 ?_
          refine getF (v := .ref (qms 0)) hx hb ht hown hK hP iTX8 3 0 rfl rfl (by decide) fl_RX10_98 rfl dX10_stop_57 ?_
          refine lv_aload_n hx hb dX10_stop_60 rfl (lv_at hl 1 rfl) ?_
          refine lv_iload hx hb dX10_stop_61 (lv_at hl 4 rfl) ?_
          refine behR (runVP (As := [.int x40_6]) (rest := [.ref (qms 0), .ref (qm 7)]) ⟨hx, hb, hml, hown, ht⟩ (sX7_roomAt l G cs (qm 23) qr3 Fr3 Ar3 Br3 Dr3 hIr3 x40_6 ) okV_RX10_195 ⟨by decide, by decide⟩ hK hP [19, 20] rfl 19 rfl rfl hl.1 rfl (Nat.le_of_ble_eq_true rfl) dX10_stop_63 ⟨by decide, by decide⟩) hP hS hA (fun r26003 H locs hr26003 hP hS => ?_)
          have hr26003 : RAt r26003 x40_6 (Br3 0) (Fr3 3).toInt := hr26003
          have z5r26003 : (0 : Int) ≤ (Fmh 5).toInt ∧ (Fmh 5).toInt ≤ 7 := hImh.1 5
          have zbr26003 := RWr hr26003 (hr1.2 (by omega)) (by omega) (by omega) (by omega) (by omega)
          refine lv_iconst (v := 0) hx hb dX10_stop_66 (by decide) ?_
          refine behDi (wr := ((uX10 cs adm qm Fm Am Bm Dm) ++ ((uX8 cs (qm 3) qms Fms Ams Bms Dms) ++ ((uX5 cs (qm 6) qmn Fmn Amn Bmn Dmn) ++ (uX7 cs (qm 23) qr3 Fr3 Ar3 Br3 Dr3))))) (runVD (As := [.ref (qms 0), .int r26003, .int 0]) (rest := []) ⟨hx, hb, hml, hown, ht⟩ (sX5_live l G cs (qm 7) qmw (upv 3 fmw3_40 (upv 2 x5 Fmw)) (vB 1 amw1_40 (vB 0 amw0_40 Amw)) Bmw Dmw (IB_av (k := 1) (IB_av (k := 0) (IB_pv (k := 3) (IB_pv (k := 2) hImw (i32b _)) (i32b _)) (AJ_full _)) (AJ_full _)) (qms 0) qmh Fmh Amh Bmh Dmh hImh r26003 0 (by decide)) okV_RX10_175 ⟨by decide, by decide⟩ hK hP hD [16, 17, 18, 5, 6, 7, 8, 9, 10, 11, 12] rfl (by decide) rfl 16 rfl rfl hl.1 rfl (Nat.le_of_ble_eq_true rfl) dX10_stop_67 ⟨(Nat.le_of_ble_eq_true rfl), (Nat.le_of_ble_eq_true rfl)⟩) hP hD hS hA [16, 17, 18, 5, 6, 7, 8, 9, 10, 11, 12] [0, 1, 2, 3, 4, 13, 14, 15, 19, 20] rfl rfl (by decide) (by decide) (fun r9 u H locs hu hP hD hS => ?_)
          obtain ⟨x26004, g26005, g26006⟩ := u
          obtain ⟨r26007, rfl⟩ : ∃ z, z = r9 := ⟨_, rfl⟩
          have hr26007 := hu
          have hP : va_P G vwCl ((uX10 cs adm qm Fm Am Bm Dm) ++ ((uX8 cs (qm 3) qms Fms Ams Bms Dms) ++ ((uX3 cs (qms 0) qmh Fmh Amh Bmh Dmh) ++ ((uX5 cs (qm 6) qmn Fmn Amn Bmn Dmn) ++ ((uX5 cs (qm 7) qmw (upv 3 x26004 (upv 2 x5 Fmw)) (vB 1 g26006 (vB 0 g26005 Amw)) Bmw Dmw) ++ (uX7 cs (qm 23) qr3 Fr3 Ar3 Br3 Dr3)))))) H := hP.sub [0, 1, 2, 3, 4, 13, 14, 15, 16, 17, 18, 19, 20, 5, 6, 7, 10, 11, 12, 8, 9] rfl
          have hD : va_D A0 ((uX10 cs adm qm Fm Am Bm Dm) ++ ((uX8 cs (qm 3) qms Fms Ams Bms Dms) ++ ((uX3 cs (qms 0) qmh Fmh Amh Bmh Dmh) ++ ((uX5 cs (qm 6) qmn Fmn Amn Bmn Dmn) ++ ((uX5 cs (qm 7) qmw (upv 3 x26004 (upv 2 x5 Fmw)) (vB 1 g26006 (vB 0 g26005 Amw)) Bmw Dmw) ++ (uX7 cs (qm 23) qr3 Fr3 Ar3 Br3 Dr3)))))) := hD.sub [0, 1, 2, 3, 4, 13, 14, 15, 16, 17, 18, 19, 20, 5, 6, 7, 10, 11, 12, 8, 9] (by decide) rfl
          refine lv_pop hx hb dX10_stop_70 rfl ?_
          refine lv_aload_n hx hb dX10_stop_71 rfl (lv_at hl 0 rfl) ?_
          refine lv_aload_n hx hb dX10_stop_72 rfl (lv_at hl 0 rfl) ?_
          refine getF (v := .ref (qm 7)) hx hb ht hown hK hP iTX10 0 7 rfl rfl (by decide) fl_RX10_52 rfl dX10_stop_73 ?_
          refine getF (v := .int x26004) hx hb ht hown hK hP iTX5 16 3 rfl rfl (by decide) fl_RX10_156 rfl dX10_stop_76 ?_
          refine lv_aload_n hx hb dX10_stop_79 rfl (lv_at hl 0 rfl) ?_
          refine getF (v := .ref (qm 6)) hx hb ht hown hK hP iTX10 0 6 rfl rfl (by decide) fl_RX10_48 rfl dX10_stop_80 ?_
          refine getF (v := .int (Fmn 3)) hx hb ht hown hK hP iTX5 13 3 rfl rfl (by decide) fl_RX10_156 rfl dX10_stop_83 ?_
          refine lv_isub hx hb dX10_stop_86 ?_
          refine lv_topi (fun v26008 ev26008 => ?_)
          refine lv_iload hx hb dX10_stop_87 (lv_at hl 4 rfl) ?_
          refine lv_iconst (v := 1) hx hb dX10_stop_89 (by decide) ?_
          refine lv_iadd hx hb dX10_stop_90 ?_
          refine lv_topi (fun v26009 ev26009 => ?_)
          have tv26009 : v26009.toInt = x40_6.toInt + 1 := by rw [ev26009]; exact addT rfl (show (1 : Int32).toInt = 1 by decide) (by omega)
          refine behR (runVP (As := [.int v26008, .int v26009]) (rest := []) ⟨hx, hb, hml, hown, ht⟩ (sX10_gainOf l G cs adm qm Fm Am Bm Dm hIm qms Fms Ams Bms Dms hIms qmh Fmh Amh Bmh Dmh hImh v26008 v26009 ) okV_RX10_202 ⟨by decide, by decide⟩ hK hP [0, 1, 2, 3, 4, 5, 6, 7, 8, 9, 10, 11, 12] rfl 0 rfl rfl hl.1 rfl (Nat.le_of_ble_eq_true rfl) dX10_stop_91 ⟨by decide, by decide⟩) hP hS hA (fun r26010 H locs hr26010 hP hS => ?_)
          refine lv_istore (lv' := [(7, .int r26010), (0, .ref adm), (3, .ref (qm 23)), (4, .int x40_4), (5, .int x40_5), (6, .int x40_6)]) hx hb dX10_stop_94 hl (by decide) rfl (fun ls hl => ?_)
          refine lv_iload hx hb dX10_stop_96 (lv_at hl 0 rfl) ?_
          refine lv_iload hx hb dX10_stop_98 (lv_at hl 3 rfl) ?_
          have B113 : ∀ (x113_4 : Int32) (x113_5 : Int32) (H : Heap) (locs : List Loc) (ls : Array Slot), (0 : Int) ≤ x113_4.toInt → (0 : Int) ≤ x113_5.toInt ∧ x113_5.toInt ≤ 60 → va_P G vwCl ((uX10 cs adm qm Fm Am Bm Dm) ++ ((uX8 cs (qm 3) qms Fms Ams Bms Dms) ++ ((uX3 cs (qms 0) qmh Fmh Amh Bmh Dmh) ++ ((uX5 cs (qm 6) qmn Fmn Amn Bmn Dmn) ++ ((uX5 cs (qm 7) qmw (upv 3 x26004 (upv 2 x5 Fmw)) (vB 1 g26006 (vB 0 g26005 Amw)) Bmw Dmw) ++ (uX7 cs (qm 23) qr3 Fr3 Ar3 Br3 Dr3)))))) H → va_D A0 ((uX10 cs adm qm Fm Am Bm Dm) ++ ((uX8 cs (qm 3) qms Fms Ams Bms Dms) ++ ((uX3 cs (qms 0) qmh Fmh Amh Bmh Dmh) ++ ((uX5 cs (qm 6) qmn Fmn Amn Bmn Dmn) ++ ((uX5 cs (qm 7) qmw (upv 3 x26004 (upv 2 x5 Fmw)) (vB 1 g26006 (vB 0 g26005 Amw)) Bmw Dmw) ++ (uX7 cs (qm 23) qr3 Fr3 Ar3 Br3 Dr3)))))) → va_S A0 s.heap H locs → lv_has ls 8 [(0, .ref adm), (3, .ref (qm 23)), (4, .int x113_4), (5, .int x113_5), (6, .int x40_6)] → W p l e (rmk 4 0 0) s m args below meth c H locs 0 0 (MQ below ((QDi G (fun (r : Int32) (u : Int32 × Int32 × (Nat → Int32) × (Nat → Int32)) => True) (fun u : Int32 × Int32 × (Nat → Int32) × (Nat → Int32) => ((uX10 cs adm qm Fm Am Bm Dm) ++ ((uX8 cs (qm 3) qms Fms Ams Bms Dms) ++ ((uX3 cs (qms 0) qmh Fmh Amh Bmh Dmh) ++ ((uX5 cs (qm 6) qmn Fmn Amn Bmn Dmn) ++ ((wX5 cs (qm 7) qmw (upd (upd Fmw 2 u.1) 3 u.2.1) (vA (vA Amw 0 u.2.2.1) 1 u.2.2.2) Bmw Dmw) ++ (uX7 cs (qm 23) qr3 Fr3 Ar3 Br3 Dr3)))))))) A0) args s 0 0 A0) (F0 m 113 ls []) := by
            intro x113_4 x113_5 H locs ls hx113_4 hx113_5 hP hD hS hl
            obtain ⟨v63001, ev63001⟩ : ∃ z : Int32, z = x40_6 + 1 := ⟨_, rfl⟩
            have tv63001 : v63001.toInt = x40_6.toInt + 1 := by rw [ev63001]; exact addT rfl (by decide) (by omega)
            refine lv_iinc (v := v63001) (lv' := [(6, .int v63001), (0, .ref adm), (3, .ref (qm 23)), (4, .int x113_4), (5, .int x113_5)]) hx hb dX10_stop_113 hl (k := 4) rfl (by rw [ev63001]; rfl) (by decide) rfl (fun ls hl => ?_)
            refine lv_goto (tgt := 40) hx hb dX10_stop_116 (by decide) ?_
            exact ih40 x113_4 x113_5 v63001 x26004 g26005 g26006 H locs ls (by omega) (by omega) (by omega) (by omega) hP hD hS (lv_sub hl [1, 2, 3, 4, 0] rfl)
          refine lv_icmp_le (tgt := 113) hx hb dX10_stop_100 (by decide) (fun c26011 => ?_) (fun c26011 => ?_)
          · have zc26011 := leK rfl rfl c26011
            exact B113 x40_4 x40_5 H locs ls (by omega) (by omega) hP hD hS (lv_sub hl [1, 2, 3, 4, 5] rfl)
          · have zc26011 := nleK rfl rfl c26011
            refine lv_iload hx hb dX10_stop_103 (lv_at hl 0 rfl) ?_
            refine lv_istore (lv' := [(4, .int r26010), (7, .int r26010), (0, .ref adm), (3, .ref (qm 23)), (5, .int x40_5), (6, .int x40_6)]) hx hb dX10_stop_105 hl (by decide) rfl (fun ls hl => ?_)
            refine lv_iload hx hb dX10_stop_107 (lv_at hl 5 rfl) ?_
            refine lv_iconst (v := 1) hx hb dX10_stop_109 (by decide) ?_
            refine lv_iadd hx hb dX10_stop_110 ?_
            refine lv_topi (fun v26012 ev26012 => ?_)
            have tv26012 : v26012.toInt = x40_6.toInt + 1 := by rw [ev26012]; exact addT rfl (show (1 : Int32).toInt = 1 by decide) (by omega)
            refine lv_istore (lv' := [(5, .int v26012), (4, .int r26010), (7, .int r26010), (0, .ref adm), (3, .ref (qm 23)), (6, .int x40_6)]) hx hb dX10_stop_111 hl (by decide) rfl (fun ls hl => ?_)
            exact B113 r26010 v26012 H locs ls (by omega) (by omega) hP hD hS (lv_sub hl [3, 4, 1, 0, 5] rfl)
    exact B40 _ 0 0 0 x6 g7 (Amw 1) H locs ls (Nat.lt_succ_self _) (by decide) (by decide) (by decide) hP hD hS (lv_sub hl [5, 3, 2, 1, 0] rfl)
  · have zc4 := neK rfl (show (0 : Int32).toInt = 0 by decide) c4
    refine lv_iload_n hx hb dX10_stop_11 rfl (lv_at hl 0 rfl) ?_
    exact retDi ((Fmw 2), (Fmw 3), (Amw 0), (Amw 1)) hx hb hr hlk hP hD hS dX10_stop_12 (trivial) (Nat.le_of_ble_eq_true rfl) (Nat.le_of_ble_eq_true rfl)

set_option maxRecDepth 100000 in
set_option maxHeartbeats 16000000 in
theorem sX10_stop_lo (l : Launch) (G : va_G) (cs : Nat → ClassId) (adm : Nat) (qm : Nat → Nat) (Fm : Nat → Int32) (Am : Nat → Nat → Int32) (Bm : Nat → Nat → Int64) (Dm : Int64) (hIm : IX10 Fm Am) (qms : Nat → Nat) (Fms : Nat → Int32) (Ams : Nat → Nat → Int32) (Bms : Nat → Nat → Int64) (Dms : Int64) (hIms : IX8 Fms Ams) (qmh : Nat → Nat) (Fmh : Nat → Int32) (Amh : Nat → Nat → Int32) (Bmh : Nat → Nat → Int64) (Dmh : Int64) (hImh : IX3 Fmh Amh) (qmn : Nat → Nat) (Fmn : Nat → Int32) (Amn : Nat → Nat → Int32) (Bmn : Nat → Nat → Int64) (Dmn : Int64) (hImn : IX5 Fmn Amn) (qmw : Nat → Nat) (Fmw : Nat → Int32) (Amw : Nat → Nat → Int32) (Bmw : Nat → Nat → Int64) (Dmw : Int64) (hImw : IX5 Fmw Amw) (a1 : Int32) (ha1 : (-2147483648 : Int) ≤ a1.toInt ∧ a1.toInt ≤ -1) : ∀ sz : Nat, Met l yX10_stop (wk yX10_stop cX10_stop 8 (some .int)) (rmk 3 0 0) (PreD G (TY cs) [.ref adm, .int a1] ((uX10 cs adm qm Fm Am Bm Dm) ++ ((uX8 cs (qm 3) qms Fms Ams Bms Dms) ++ ((uX3 cs (qms 0) qmh Fmh Amh Bmh Dmh) ++ ((uX5 cs (qm 6) qmn Fmn Amn Bmn Dmn) ++ (uX5 cs (qm 7) qmw Fmw Amw Bmw Dmw))))) sz) ((QDi G (fun (r : Int32) (u : Unit) => True) (fun u : Unit => ((uX10 cs adm qm Fm Am Bm Dm) ++ ((uX8 cs (qm 3) qms Fms Ams Bms Dms) ++ ((uX3 cs (qms 0) qmh Fmh Amh Bmh Dmh) ++ ((uX5 cs (qm 6) qmn Fmn Amn Bmn Dmn) ++ (uX5 cs (qm 7) qmw Fmw Amw Bmw Dmw))))))) (va_A ((uX10 cs adm qm Fm Am Bm Dm) ++ ((uX8 cs (qm 3) qms Fms Ams Bms Dms) ++ ((uX3 cs (qms 0) qmh Fmh Amh Bmh Dmh) ++ ((uX5 cs (qm 6) qmn Fmn Amn Bmn Dmn) ++ (uX5 cs (qm 7) qmw Fmw Amw Bmw Dmw))))) sz)) 0 0 (va_A ((uX10 cs adm qm Fm Am Bm Dm) ++ ((uX8 cs (qm 3) qms Fms Ams Bms Dms) ++ ((uX3 cs (qms 0) qmh Fmh Amh Bmh Dmh) ++ ((uX5 cs (qm 6) qmn Fmn Amn Bmn Dmn) ++ (uX5 cs (qm 7) qmw Fmw Amw Bmw Dmw))))) sz) := by
  refine mkD (Qc := (QDi G (fun (r : Int32) (u : Unit) => True) (fun u : Unit => ((uX10 cs adm qm Fm Am Bm Dm) ++ ((uX8 cs (qm 3) qms Fms Ams Bms Dms) ++ ((uX3 cs (qms 0) qmh Fmh Amh Bmh Dmh) ++ ((uX5 cs (qm 6) qmn Fmn Amn Bmn Dmn) ++ (uX5 cs (qm 7) qmw Fmw Amw Bmw Dmw)))))))) (by decide) (by simp [lg_sl, Value.category]) ?_
  intro p e s m args below meth c ls A0 hx hb hml hr hlk hown hmn ht hK hP hD hS hA hl
  have hl : lv_has ls 8 [(0, .ref adm), (1, .int a1)] := hl
  refine lv_aload_n hx hb dX10_stop_0 rfl (lv_at hl 0 rfl) ?_
  refine lv_iload_n hx hb dX10_stop_1 rfl (lv_at hl 1 rfl) ?_
  refine lv_iconst (v := 1) hx hb dX10_stop_2 (by decide) ?_
  have bb1 := i32b a1
  refine behR (runVP (As := [.int a1, .int 1]) (rest := []) ⟨hx, hb, hml, hown, ht⟩ (sX10_askRound_lo l G cs adm qm Fm Am Bm Dm hIm qms Fms Ams Bms Dms hIms qmh Fmh Amh Bmh Dmh hImh a1 1 (by omega) (by decide)) okV_RX10_186 ⟨by decide, by decide⟩ hK hP [0, 1, 2, 3, 4, 5, 6, 7, 8, 9, 10, 11, 12] rfl 0 rfl rfl hl.1 rfl (Nat.le_of_ble_eq_true rfl) dX10_stop_3 ⟨by decide, by decide⟩) hP hS hA (fun r2 H locs hr2 hP hS => ?_)
  have kk3 : (1 : Int32).toInt = 1 := by decide
  have hr2 : r2.toInt = -2 := hr2
  refine lv_istore_n (lv' := [(2, .int r2), (0, .ref adm), (1, .int a1)]) hx hb dX10_stop_6 rfl hl (by decide) rfl (fun ls hl => ?_)
  refine lv_iload_n hx hb dX10_stop_7 rfl (lv_at hl 0 rfl) ?_
  refine lv_if_eq (tgt := 13) hx hb dX10_stop_8 (by decide) (fun c4 => False.elim (by have zz := eqK rfl (show (0 : Int32).toInt = 0 by decide) c4; omega)) (fun c4 => ?_)
  refine lv_iload_n hx hb dX10_stop_11 rfl (lv_at hl 0 rfl) ?_
  exact retDi () hx hb hr hlk hP hD hS dX10_stop_12 (trivial) (Nat.le_of_ble_eq_true rfl) (Nat.le_of_ble_eq_true rfl)

