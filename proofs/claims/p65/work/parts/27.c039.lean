set_option maxRecDepth 100000 in
set_option maxHeartbeats 16000000 in
theorem sX10_penny_hi (l : Launch) (G : va_G) (cs : Nat → ClassId) (adm : Nat) (qm : Nat → Nat) (Fm : Nat → Int32) (Am : Nat → Nat → Int32) (Bm : Nat → Nat → Int64) (Dm : Int64) (hIm : IX10 Fm Am) (qms : Nat → Nat) (Fms : Nat → Int32) (Ams : Nat → Nat → Int32) (Bms : Nat → Nat → Int64) (Dms : Int64) (hIms : IX8 Fms Ams) (qmh : Nat → Nat) (Fmh : Nat → Int32) (Amh : Nat → Nat → Int32) (Bmh : Nat → Nat → Int64) (Dmh : Int64) (hImh : IX3 Fmh Amh) (qmn : Nat → Nat) (Fmn : Nat → Int32) (Amn : Nat → Nat → Int32) (Bmn : Nat → Nat → Int64) (Dmn : Int64) (hImn : IX5 Fmn Amn) (qmw : Nat → Nat) (Fmw : Nat → Int32) (Amw : Nat → Nat → Int32) (Bmw : Nat → Nat → Int64) (Dmw : Int64) (hImw : IX5 Fmw Amw) (a1 : Int32) (ha1 : (4 : Int) ≤ a1.toInt ∧ a1.toInt ≤ 2147483647) : ∀ sz : Nat, Met l yX10_penny (wk yX10_penny cX10_penny 9 (some .int)) (rmk 3 0 0) (PreD G (TY cs) [.ref adm, .int a1] ((uX10 cs adm qm Fm Am Bm Dm) ++ ((uX8 cs (qm 3) qms Fms Ams Bms Dms) ++ ((uX3 cs (qms 0) qmh Fmh Amh Bmh Dmh) ++ ((uX5 cs (qm 6) qmn Fmn Amn Bmn Dmn) ++ (uX5 cs (qm 7) qmw Fmw Amw Bmw Dmw))))) sz) ((QDi G (fun (r : Int32) (u : Unit) => True) (fun u : Unit => ((uX10 cs adm qm Fm Am Bm Dm) ++ ((uX8 cs (qm 3) qms Fms Ams Bms Dms) ++ ((uX3 cs (qms 0) qmh Fmh Amh Bmh Dmh) ++ ((uX5 cs (qm 6) qmn Fmn Amn Bmn Dmn) ++ (uX5 cs (qm 7) qmw Fmw Amw Bmw Dmw))))))) (va_A ((uX10 cs adm qm Fm Am Bm Dm) ++ ((uX8 cs (qm 3) qms Fms Ams Bms Dms) ++ ((uX3 cs (qms 0) qmh Fmh Amh Bmh Dmh) ++ ((uX5 cs (qm 6) qmn Fmn Amn Bmn Dmn) ++ (uX5 cs (qm 7) qmw Fmw Amw Bmw Dmw))))) sz)) 0 0 (va_A ((uX10 cs adm qm Fm Am Bm Dm) ++ ((uX8 cs (qm 3) qms Fms Ams Bms Dms) ++ ((uX3 cs (qms 0) qmh Fmh Amh Bmh Dmh) ++ ((uX5 cs (qm 6) qmn Fmn Amn Bmn Dmn) ++ (uX5 cs (qm 7) qmw Fmw Amw Bmw Dmw))))) sz) := by
  refine mkD (Qc := (QDi G (fun (r : Int32) (u : Unit) => True) (fun u : Unit => ((uX10 cs adm qm Fm Am Bm Dm) ++ ((uX8 cs (qm 3) qms Fms Ams Bms Dms) ++ ((uX3 cs (qms 0) qmh Fmh Amh Bmh Dmh) ++ ((uX5 cs (qm 6) qmn Fmn Amn Bmn Dmn) ++ (uX5 cs (qm 7) qmw Fmw Amw Bmw Dmw)))))))) (by decide) (by simp [lg_sl, Value.category]) ?_
  intro p e s m args below meth c ls A0 hx hb hml hr hlk hown hmn ht hK hP hD hS hA hl
  have hl : lv_has ls 9 [(0, .ref adm), (1, .int a1)] := hl
  refine lv_aload_n hx hb dX10_penny_0 rfl (lv_at hl 0 rfl) ?_
  refine lv_iload_n hx hb dX10_penny_1 rfl (lv_at hl 1 rfl) ?_
  refine lv_iconst (v := 1) hx hb dX10_penny_2 (by decide) ?_
  have bb1 := i32b a1
  refine behR (runVP (As := [.int a1, .int 1]) (rest := []) ⟨hx, hb, hml, hown, ht⟩ (sX10_askRound_hi l G cs adm qm Fm Am Bm Dm hIm qms Fms Ams Bms Dms hIms qmh Fmh Amh Bmh Dmh hImh a1 1 (by omega) (by decide)) okV_RX10_186 ⟨by decide, by decide⟩ hK hP [0, 1, 2, 3, 4, 5, 6, 7, 8, 9, 10, 11, 12] rfl 0 rfl rfl hl.1 rfl (Nat.le_of_ble_eq_true rfl) dX10_penny_3 ⟨by decide, by decide⟩) hP hS hA (fun r2 H locs hr2 hP hS => ?_)
  have kk3 : (1 : Int32).toInt = 1 := by decide
  have hr2 : r2.toInt = -2 := hr2
  refine lv_istore_n (lv' := [(2, .int r2), (0, .ref adm), (1, .int a1)]) hx hb dX10_penny_6 rfl hl (by decide) rfl (fun ls hl => ?_)
  refine lv_iload_n hx hb dX10_penny_7 rfl (lv_at hl 0 rfl) ?_
  refine lv_if_eq (tgt := 13) hx hb dX10_penny_8 (by decide) (fun c4 => False.elim (by have zz := eqK rfl (show (0 : Int32).toInt = 0 by decide) c4; omega)) (fun c4 => ?_)
  refine lv_iload_n hx hb dX10_penny_11 rfl (lv_at hl 0 rfl) ?_
  exact retDi () hx hb hr hlk hP hD hS dX10_penny_12 (trivial) (Nat.le_of_ble_eq_true rfl) (Nat.le_of_ble_eq_true rfl)

set_option maxRecDepth 100000 in
set_option maxHeartbeats 16000000 in
theorem sX10_hangs_0 (l : Launch) (G : va_G) (cs : Nat → ClassId) (adm : Nat) (qm : Nat → Nat) (Fm : Nat → Int32) (Am : Nat → Nat → Int32) (Bm : Nat → Nat → Int64) (Dm : Int64) (hIm : IX10 Fm Am) (qms : Nat → Nat) (Fms : Nat → Int32) (Ams : Nat → Nat → Int32) (Bms : Nat → Nat → Int64) (Dms : Int64) (hIms : IX8 Fms Ams) (qmh : Nat → Nat) (Fmh : Nat → Int32) (Amh : Nat → Nat → Int32) (Bmh : Nat → Nat → Int64) (Dmh : Int64) (hImh : IX3 Fmh Amh) (qmn : Nat → Nat) (Fmn : Nat → Int32) (Amn : Nat → Nat → Int32) (Bmn : Nat → Nat → Int64) (Dmn : Int64) (hImn : IX5 Fmn Amn) (qmw : Nat → Nat) (Fmw : Nat → Int32) (Amw : Nat → Nat → Int32) (Bmw : Nat → Nat → Int64) (Dmw : Int64) (hImw : IX5 Fmw Amw) (qr0 : Nat → Nat) (Fr0 : Nat → Int32) (Ar0 : Nat → Nat → Int32) (Br0 : Nat → Nat → Int64) (Dr0 : Int64) (hIr0 : IX7 Fr0 Ar0) : ∀ sz : Nat, Met l yX10_hangs (wk yX10_hangs cX10_hangs 6 (some .int)) (rmk 4 0 0) (PreD G (TY cs) [.ref adm, .int 0] ((uX10 cs adm qm Fm Am Bm Dm) ++ ((uX8 cs (qm 3) qms Fms Ams Bms Dms) ++ ((uX3 cs (qms 0) qmh Fmh Amh Bmh Dmh) ++ ((uX5 cs (qm 6) qmn Fmn Amn Bmn Dmn) ++ ((uX5 cs (qm 7) qmw Fmw Amw Bmw Dmw) ++ (uX7 cs (qm 20) qr0 Fr0 Ar0 Br0 Dr0)))))) sz) ((QDi G (fun (r : Int32) (u : Int32 × Int32 × (Nat → Int32) × (Nat → Int32)) => True) (fun u : Int32 × Int32 × (Nat → Int32) × (Nat → Int32) => ((uX10 cs adm qm Fm Am Bm Dm) ++ ((uX8 cs (qm 3) qms Fms Ams Bms Dms) ++ ((uX3 cs (qms 0) qmh Fmh Amh Bmh Dmh) ++ ((uX5 cs (qm 6) qmn Fmn Amn Bmn Dmn) ++ ((wX5 cs (qm 7) qmw (upd (upd Fmw 2 u.1) 3 u.2.1) (vA (vA Amw 0 u.2.2.1) 1 u.2.2.2) Bmw Dmw) ++ (uX7 cs (qm 20) qr0 Fr0 Ar0 Br0 Dr0)))))))) (va_A ((uX10 cs adm qm Fm Am Bm Dm) ++ ((uX8 cs (qm 3) qms Fms Ams Bms Dms) ++ ((uX3 cs (qms 0) qmh Fmh Amh Bmh Dmh) ++ ((uX5 cs (qm 6) qmn Fmn Amn Bmn Dmn) ++ ((uX5 cs (qm 7) qmw Fmw Amw Bmw Dmw) ++ (uX7 cs (qm 20) qr0 Fr0 Ar0 Br0 Dr0)))))) sz)) 0 0 (va_A ((uX10 cs adm qm Fm Am Bm Dm) ++ ((uX8 cs (qm 3) qms Fms Ams Bms Dms) ++ ((uX3 cs (qms 0) qmh Fmh Amh Bmh Dmh) ++ ((uX5 cs (qm 6) qmn Fmn Amn Bmn Dmn) ++ ((uX5 cs (qm 7) qmw Fmw Amw Bmw Dmw) ++ (uX7 cs (qm 20) qr0 Fr0 Ar0 Br0 Dr0)))))) sz) := by
  refine mkD (Qc := (QDi G (fun (r : Int32) (u : Int32 × Int32 × (Nat → Int32) × (Nat → Int32)) => True) (fun u : Int32 × Int32 × (Nat → Int32) × (Nat → Int32) => ((uX10 cs adm qm Fm Am Bm Dm) ++ ((uX8 cs (qm 3) qms Fms Ams Bms Dms) ++ ((uX3 cs (qms 0) qmh Fmh Amh Bmh Dmh) ++ ((uX5 cs (qm 6) qmn Fmn Amn Bmn Dmn) ++ ((wX5 cs (qm 7) qmw (upd (upd Fmw 2 u.1) 3 u.2.1) (vA (vA Amw 0 u.2.2.1) 1 u.2.2.2) Bmw Dmw) ++ (uX7 cs (qm 20) qr0 Fr0 Ar0 Br0 Dr0))))))))) (by decide) (by simp [lg_sl, Value.category]) ?_
  intro p e s m args below meth c ls A0 hx hb hml hr hlk hown hmn ht hK hP hD hS hA hl
  have hl : lv_has ls 6 [(0, .ref adm), (1, .int 0)] := hl
  refine lv_aload_n hx hb dX10_hangs_0 rfl (lv_at hl 0 rfl) ?_
  refine lv_iload_n hx hb dX10_hangs_1 rfl (lv_at hl 1 rfl) ?_
  refine lv_iconst (v := 1) hx hb dX10_hangs_2 (by decide) ?_
  refine behR (runVP (As := [.int 0, .int 1]) (rest := []) ⟨hx, hb, hml, hown, ht⟩ (sX10_askRound_0 l G cs adm qm Fm Am Bm Dm hIm qms Fms Ams Bms Dms hIms qmh Fmh Amh Bmh Dmh hImh qr0 Fr0 Ar0 Br0 Dr0 hIr0 1 (by decide)) okV_RX10_186 ⟨by decide, by decide⟩ hK hP [0, 1, 2, 3, 4, 5, 6, 7, 8, 9, 10, 11, 12, 19, 20] rfl 0 rfl rfl hl.1 rfl (Nat.le_of_ble_eq_true rfl) dX10_hangs_3 ⟨by decide, by decide⟩) hP hS hA (fun r1 H locs hr1 hP hS => ?_)
  have kk2 : (0 : Int32).toInt = 0 := by decide
  have kk3 : (1 : Int32).toInt = 1 := by decide
  have hr1 : ((r1.toInt = 0 ∧ (1 : Int32).toInt = 1) ∨ r1.toInt = -2 ∨ r1.toInt = -6) ∧ RWk r1 0 (Br0 0) (-1) ((Fmh 5).toInt - 1) (Fr0 3).toInt := hr1
  refine lv_istore_n (lv' := [(2, .int r1), (0, .ref adm), (1, .int 0)]) hx hb dX10_hangs_6 rfl hl (by decide) rfl (fun ls hl => ?_)
  refine lv_iload_n hx hb dX10_hangs_7 rfl (lv_at hl 0 rfl) ?_
  refine lv_if_eq (tgt := 13) hx hb dX10_hangs_8 (by decide) (fun c4 => ?_) (fun c4 => ?_)
  · have zc4 := eqK rfl (show (0 : Int32).toInt = 0 by decide) c4
    refine lv_aload_n hx hb dX10_hangs_13 rfl (lv_at hl 1 rfl) ?_
    refine getF (v := .ref (qm 5)) hx hb ht hown hK hP iTX10 0 5 rfl rfl (by decide) fl_RX10_41 rfl dX10_hangs_14 ?_
    refine lv_iload_n hx hb dX10_hangs_17 rfl (lv_at hl 2 rfl) ?_
    refine va_aldq hx hb hK.1 hP 2 5 rfl rfl (show ¬ (_ ∨ _) by decide) dX10_hangs_18 ?_
    refine W.eq (g2 := F0 m 19 ls [.ref (qm 20)]) rfl ?_
    refine lv_astore_n (lv' := [(3, .ref (qm 20)), (2, .int r1), (0, .ref adm), (1, .int 0)]) hx hb dX10_hangs_19 rfl hl (by decide) rfl (fun ls hl => ?_)
    refine lv_aload_n hx hb dX10_hangs_20 rfl (lv_at hl 2 rfl) ?_
    refine getF (v := .ref (qm 7)) hx hb ht hown hK hP iTX10 0 7 rfl rfl (by decide) fl_RX10_52 rfl dX10_hangs_21 ?_
    refine lv_aload_n hx hb dX10_hangs_24 rfl (lv_at hl 2 rfl) ?_
    refine getF (v := .ref (qm 6)) hx hb ht hown hK hP iTX10 0 6 rfl rfl (by decide) fl_RX10_48 rfl dX10_hangs_25 ?_
    refine behDw (wr := ((uX10 cs adm qm Fm Am Bm Dm) ++ ((uX8 cs (qm 3) qms Fms Ams Bms Dms) ++ ((uX3 cs (qms 0) qmh Fmh Amh Bmh Dmh) ++ (uX7 cs (qm 20) qr0 Fr0 Ar0 Br0 Dr0))))) (runVD (As := [.ref (qm 6)]) (rest := []) ⟨hx, hb, hml, hown, ht⟩ (sX5_copyFrom l G cs (qm 7) qmw Fmw Amw Bmw Dmw hImw (qm 6) qmn Fmn Amn Bmn Dmn hImn ) okV_RX10_179 ⟨by decide, by decide⟩ hK hP hD [16, 17, 18, 13, 14, 15] rfl (by decide) rfl 16 rfl rfl hl.1 rfl (Nat.le_of_ble_eq_true rfl) dX10_hangs_28 ⟨(Nat.le_of_ble_eq_true rfl), (Nat.le_of_ble_eq_true rfl)⟩) hP hD hS hA [16, 17, 18, 13, 14, 15] [0, 1, 2, 3, 4, 5, 6, 7, 8, 9, 10, 11, 12, 19, 20] rfl rfl (by decide) (by decide) (fun u H locs hu hP hD hS => ?_)
    obtain ⟨x5, x6, g7⟩ := u
    have hr8 := hu
    have hP : va_P G vwCl ((uX10 cs adm qm Fm Am Bm Dm) ++ ((uX8 cs (qm 3) qms Fms Ams Bms Dms) ++ ((uX3 cs (qms 0) qmh Fmh Amh Bmh Dmh) ++ ((uX5 cs (qm 6) qmn Fmn Amn Bmn Dmn) ++ ((uX5 cs (qm 7) qmw (upv 3 x6 (upv 2 x5 Fmw)) (vB 0 g7 Amw) Bmw Dmw) ++ (uX7 cs (qm 20) qr0 Fr0 Ar0 Br0 Dr0)))))) H := hP.sub [0, 1, 2, 3, 4, 5, 6, 7, 8, 9, 10, 11, 12, 18, 19, 20, 15, 16, 17, 13, 14] rfl
    have hD : va_D A0 ((uX10 cs adm qm Fm Am Bm Dm) ++ ((uX8 cs (qm 3) qms Fms Ams Bms Dms) ++ ((uX3 cs (qms 0) qmh Fmh Amh Bmh Dmh) ++ ((uX5 cs (qm 6) qmn Fmn Amn Bmn Dmn) ++ ((uX5 cs (qm 7) qmw (upv 3 x6 (upv 2 x5 Fmw)) (vB 0 g7 Amw) Bmw Dmw) ++ (uX7 cs (qm 20) qr0 Fr0 Ar0 Br0 Dr0)))))) := hD.sub [0, 1, 2, 3, 4, 5, 6, 7, 8, 9, 10, 11, 12, 18, 19, 20, 15, 16, 17, 13, 14] (by decide) rfl
    refine lv_iconst (v := 0) hx hb dX10_hangs_31 (by decide) ?_
    refine lv_istore (lv' := [(4, .int 0), (3, .ref (qm 20)), (2, .int r1), (0, .ref adm), (1, .int 0)]) hx hb dX10_hangs_32 hl (by decide) rfl (fun ls hl => ?_)
    have B34 : ∀ (n : Nat) (x34_4 : Int32) (fmw3_34 : Int32) (amw0_34 : (Nat → Int32)) (amw1_34 : (Nat → Int32)) (H : Heap) (locs : List Loc) (ls : Array Slot), (60 - x34_4.toInt).toNat < n → (0 : Int) ≤ x34_4.toInt ∧ x34_4.toInt ≤ 60 → va_P G vwCl ((uX10 cs adm qm Fm Am Bm Dm) ++ ((uX8 cs (qm 3) qms Fms Ams Bms Dms) ++ ((uX3 cs (qms 0) qmh Fmh Amh Bmh Dmh) ++ ((uX5 cs (qm 6) qmn Fmn Amn Bmn Dmn) ++ ((uX5 cs (qm 7) qmw (upv 3 fmw3_34 (upv 2 x5 Fmw)) (vB 1 amw1_34 (vB 0 amw0_34 Amw)) Bmw Dmw) ++ (uX7 cs (qm 20) qr0 Fr0 Ar0 Br0 Dr0)))))) H → va_D A0 ((uX10 cs adm qm Fm Am Bm Dm) ++ ((uX8 cs (qm 3) qms Fms Ams Bms Dms) ++ ((uX3 cs (qms 0) qmh Fmh Amh Bmh Dmh) ++ ((uX5 cs (qm 6) qmn Fmn Amn Bmn Dmn) ++ ((uX5 cs (qm 7) qmw (upv 3 fmw3_34 (upv 2 x5 Fmw)) (vB 1 amw1_34 (vB 0 amw0_34 Amw)) Bmw Dmw) ++ (uX7 cs (qm 20) qr0 Fr0 Ar0 Br0 Dr0)))))) → va_S A0 s.heap H locs → lv_has ls 6 [(0, .ref adm), (3, .ref (qm 20)), (4, .int x34_4)] → W p l e (rmk 4 0 0) s m args below meth c H locs 0 0 (MQ below ((QDi G (fun (r : Int32) (u : Int32 × Int32 × (Nat → Int32) × (Nat → Int32)) => True) (fun u : Int32 × Int32 × (Nat → Int32) × (Nat → Int32) => ((uX10 cs adm qm Fm Am Bm Dm) ++ ((uX8 cs (qm 3) qms Fms Ams Bms Dms) ++ ((uX3 cs (qms 0) qmh Fmh Amh Bmh Dmh) ++ ((uX5 cs (qm 6) qmn Fmn Amn Bmn Dmn) ++ ((wX5 cs (qm 7) qmw (upd (upd Fmw 2 u.1) 3 u.2.1) (vA (vA Amw 0 u.2.2.1) 1 u.2.2.2) Bmw Dmw) ++ (uX7 cs (qm 20) qr0 Fr0 Ar0 Br0 Dr0)))))))) A0) args s 0 0 A0) (F0 m 34 ls []) := by
      intro n
      induction n with
      | zero => intro x34_4 fmw3_34 amw0_34 amw1_34 H locs ls hmeas hx34_4 hP hD hS hl; exact absurd hmeas (Nat.not_lt_zero _)
      | succ n ih34 =>
        intro x34_4 fmw3_34 amw0_34 amw1_34 H locs ls hmeas hx34_4 hP hD hS hl
        refine lv_iload hx hb dX10_hangs_34 (lv_at hl 2 rfl) ?_
        refine lv_aload_n hx hb dX10_hangs_36 rfl (lv_at hl 1 rfl) ?_
        refine getF (v := .int (Fr0 3)) hx hb ht hown hK hP iTX7 19 3 rfl rfl (by decide) fl_RX10_194 rfl dX10_hangs_37 ?_
        have zf22001 : (0 : Int) ≤ (Fr0 3).toInt ∧ (Fr0 3).toInt ≤ 60 := hIr0.1 3
        refine lv_icmp_ge (tgt := 94) hx hb dX10_hangs_40 (by decide) (fun c22002 => ?_) (fun c22002 => ?_)
        · have zc22002 := leK rfl rfl c22002
          refine lv_iconst (v := (-1)) hx hb dX10_hangs_94 (by decide) ?_
          exact retDi (x5, fmw3_34, amw0_34, amw1_34) hx hb hr hlk hP hD hS dX10_hangs_95 (trivial) (Nat.le_of_ble_eq_true rfl) (Nat.le_of_ble_eq_true rfl)
        · have zc22002 := nleK rfl rfl c22002
          refine lv_aload_n hx hb dX10_hangs_43 rfl (lv_at hl 0 rfl) ?_
          refine getF (v := .ref (qm 7)) hx hb ht hown hK hP iTX10 0 7 rfl rfl (by decide) fl_RX10_52 rfl dX10_hangs_44 ?_
          refine lv_aload_n hx hb dX10_hangs_47 rfl (lv_at hl 0 rfl) ?_
          refine getF (v := .ref (qm 3)) hx hb ht hown hK hP iTX10 0 3 rfl rfl (by decide) fl_RX10_31 rfl dX10_hangs_48 ?_
          refine getF (v := .ref (qms 0)) hx hb ht hown hK hP iTX8 3 0 rfl rfl (by decide) fl_RX10_98 rfl dX10_hangs_51 ?_
          refine lv_aload_n hx hb dX10_hangs_54 rfl (lv_at hl 1 rfl) ?_
          refine lv_iload hx hb dX10_hangs_55 (lv_at hl 2 rfl) ?_
          refine behR (runVP (As := [.int x34_4]) (rest := [.ref (qms 0), .ref (qm 7)]) ⟨hx, hb, hml, hown, ht⟩ (sX7_roomAt l G cs (qm 20) qr0 Fr0 Ar0 Br0 Dr0 hIr0 x34_4 ) okV_RX10_195 ⟨by decide, by decide⟩ hK hP [19, 20] rfl 19 rfl rfl hl.1 rfl (Nat.le_of_ble_eq_true rfl) dX10_hangs_57 ⟨by decide, by decide⟩) hP hS hA (fun r22003 H locs hr22003 hP hS => ?_)
          have hr22003 : RAt r22003 x34_4 (Br0 0) (Fr0 3).toInt := hr22003
          have z5r22003 : (0 : Int) ≤ (Fmh 5).toInt ∧ (Fmh 5).toInt ≤ 7 := hImh.1 5
          have zbr22003 := RWr hr22003 (hr1.2 (by omega)) (by omega) (by omega) (by omega) (by omega)
          refine lv_iconst (v := 0) hx hb dX10_hangs_60 (by decide) ?_
          refine behDi (wr := ((uX10 cs adm qm Fm Am Bm Dm) ++ ((uX8 cs (qm 3) qms Fms Ams Bms Dms) ++ ((uX5 cs (qm 6) qmn Fmn Amn Bmn Dmn) ++ (uX7 cs (qm 20) qr0 Fr0 Ar0 Br0 Dr0))))) (runVD (As := [.ref (qms 0), .int r22003, .int 0]) (rest := []) ⟨hx, hb, hml, hown, ht⟩ (sX5_live l G cs (qm 7) qmw (upv 3 fmw3_34 (upv 2 x5 Fmw)) (vB 1 amw1_34 (vB 0 amw0_34 Amw)) Bmw Dmw (IB_av (k := 1) (IB_av (k := 0) (IB_pv (k := 3) (IB_pv (k := 2) hImw (i32b _)) (i32b _)) (AJ_full _)) (AJ_full _)) (qms 0) qmh Fmh Amh Bmh Dmh hImh r22003 0 (by decide)) okV_RX10_175 ⟨by decide, by decide⟩ hK hP hD [16, 17, 18, 5, 6, 7, 8, 9, 10, 11, 12] rfl (by decide) rfl 16 rfl rfl hl.1 rfl (Nat.le_of_ble_eq_true rfl) dX10_hangs_61 ⟨(Nat.le_of_ble_eq_true rfl), (Nat.le_of_ble_eq_true rfl)⟩) hP hD hS hA [16, 17, 18, 5, 6, 7, 8, 9, 10, 11, 12] [0, 1, 2, 3, 4, 13, 14, 15, 19, 20] rfl rfl (by decide) (by decide) (fun r9 u H locs hu hP hD hS => ?_)
          obtain ⟨x22004, g22005, g22006⟩ := u
          obtain ⟨r22007, rfl⟩ : ∃ z, z = r9 := ⟨_, rfl⟩
          have hr22007 := hu
          have hP : va_P G vwCl ((uX10 cs adm qm Fm Am Bm Dm) ++ ((uX8 cs (qm 3) qms Fms Ams Bms Dms) ++ ((uX3 cs (qms 0) qmh Fmh Amh Bmh Dmh) ++ ((uX5 cs (qm 6) qmn Fmn Amn Bmn Dmn) ++ ((uX5 cs (qm 7) qmw (upv 3 x22004 (upv 2 x5 Fmw)) (vB 1 g22006 (vB 0 g22005 Amw)) Bmw Dmw) ++ (uX7 cs (qm 20) qr0 Fr0 Ar0 Br0 Dr0)))))) H := hP.sub [0, 1, 2, 3, 4, 13, 14, 15, 16, 17, 18, 19, 20, 5, 6, 7, 10, 11, 12, 8, 9] rfl
          have hD : va_D A0 ((uX10 cs adm qm Fm Am Bm Dm) ++ ((uX8 cs (qm 3) qms Fms Ams Bms Dms) ++ ((uX3 cs (qms 0) qmh Fmh Amh Bmh Dmh) ++ ((uX5 cs (qm 6) qmn Fmn Amn Bmn Dmn) ++ ((uX5 cs (qm 7) qmw (upv 3 x22004 (upv 2 x5 Fmw)) (vB 1 g22006 (vB 0 g22005 Amw)) Bmw Dmw) ++ (uX7 cs (qm 20) qr0 Fr0 Ar0 Br0 Dr0)))))) := hD.sub [0, 1, 2, 3, 4, 13, 14, 15, 16, 17, 18, 19, 20, 5, 6, 7, 10, 11, 12, 8, 9] (by decide) rfl
          refine lv_istore (lv' := [(5, .int r22007), (0, .ref adm), (3, .ref (qm 20)), (4, .int x34_4)]) hx hb dX10_hangs_64 hl (by decide) rfl (fun ls hl => ?_)
          refine lv_aload_n hx hb dX10_hangs_66 rfl (lv_at hl 1 rfl) ?_
          refine lv_iload hx hb dX10_hangs_67 (lv_at hl 0 rfl) ?_
          refine behR (runVP (As := [.int r22007]) (rest := []) ⟨hx, hb, hml, hown, ht⟩ (sX10_worthOf l G cs adm qm Fm Am Bm Dm hIm qms Fms Ams Bms Dms hIms qmh Fmh Amh Bmh Dmh hImh r22007 ) okV_RX10_232 ⟨by decide, by decide⟩ hK hP [0, 1, 2, 3, 4, 5, 6, 7, 8, 9, 10, 11, 12] rfl 0 rfl rfl hl.1 rfl (Nat.le_of_ble_eq_true rfl) dX10_hangs_69 ⟨by decide, by decide⟩) hP hS hA (fun r22008 H locs hr22008 hP hS => ?_)
          refine lv_aload_n hx hb dX10_hangs_72 rfl (lv_at hl 1 rfl) ?_
          refine getF (v := .ref (qm 3)) hx hb ht hown hK hP iTX10 0 3 rfl rfl (by decide) fl_RX10_31 rfl dX10_hangs_73 ?_
          refine getF (v := .ref (qms 0)) hx hb ht hown hK hP iTX8 3 0 rfl rfl (by decide) fl_RX10_98 rfl dX10_hangs_76 ?_
          refine getF (v := .int (Fmh 4)) hx hb ht hown hK hP iTX3 5 4 rfl rfl (by decide) fl_RX10_235 rfl dX10_hangs_79 ?_
          refine lv_icmp_ge (tgt := 88) hx hb dX10_hangs_82 (by decide) (fun c22009 => ?_) (fun c22009 => ?_)
          · have zc22009 := leK rfl rfl c22009
            obtain ⟨v22010, ev22010⟩ : ∃ z : Int32, z = x34_4 + 1 := ⟨_, rfl⟩
            have tv22010 : v22010.toInt = x34_4.toInt + 1 := by rw [ev22010]; exact addT rfl (by decide) (by omega)
            refine lv_iinc (v := v22010) (lv' := [(4, .int v22010), (5, .int r22007), (0, .ref adm), (3, .ref (qm 20))]) hx hb dX10_hangs_88 hl (k := 3) rfl (by rw [ev22010]; rfl) (by decide) rfl (fun ls hl => ?_)
            refine lv_goto (tgt := 34) hx hb dX10_hangs_91 (by decide) ?_
            exact ih34 v22010 x22004 g22005 g22006 H locs ls (by omega) (by omega) hP hD hS (lv_sub hl [2, 3, 0] rfl)
          · have zc22009 := nleK rfl rfl c22009
            refine lv_iload hx hb dX10_hangs_85 (lv_at hl 3 rfl) ?_
            exact retDi (x5, x22004, g22005, g22006) hx hb hr hlk hP hD hS dX10_hangs_87 (trivial) (Nat.le_of_ble_eq_true rfl) (Nat.le_of_ble_eq_true rfl)
    exact B34 _ 0 x6 g7 (Amw 1) H locs ls (Nat.lt_succ_self _) (by decide) hP hD hS (lv_sub hl [3, 1, 0] rfl)
  · have zc4 := neK rfl (show (0 : Int32).toInt = 0 by decide) c4
    refine lv_iload_n hx hb dX10_hangs_11 rfl (lv_at hl 0 rfl) ?_
    exact retDi ((Fmw 2), (Fmw 3), (Amw 0), (Amw 1)) hx hb hr hlk hP hD hS dX10_hangs_12 (trivial) (Nat.le_of_ble_eq_true rfl) (Nat.le_of_ble_eq_true rfl)

set_option maxRecDepth 100000 in
set_option maxHeartbeats 16000000 in
theorem sX10_hangs_1 (l : Launch) (G : va_G) (cs : Nat → ClassId) (adm : Nat) (qm : Nat → Nat) (Fm : Nat → Int32) (Am : Nat → Nat → Int32) (Bm : Nat → Nat → Int64) (Dm : Int64) (hIm : IX10 Fm Am) (qms : Nat → Nat) (Fms : Nat → Int32) (Ams : Nat → Nat → Int32) (Bms : Nat → Nat → Int64) (Dms : Int64) (hIms : IX8 Fms Ams) (qmh : Nat → Nat) (Fmh : Nat → Int32) (Amh : Nat → Nat → Int32) (Bmh : Nat → Nat → Int64) (Dmh : Int64) (hImh : IX3 Fmh Amh) (qmn : Nat → Nat) (Fmn : Nat → Int32) (Amn : Nat → Nat → Int32) (Bmn : Nat → Nat → Int64) (Dmn : Int64) (hImn : IX5 Fmn Amn) (qmw : Nat → Nat) (Fmw : Nat → Int32) (Amw : Nat → Nat → Int32) (Bmw : Nat → Nat → Int64) (Dmw : Int64) (hImw : IX5 Fmw Amw) (qr1 : Nat → Nat) (Fr1 : Nat → Int32) (Ar1 : Nat → Nat → Int32) (Br1 : Nat → Nat → Int64) (Dr1 : Int64) (hIr1 : IX7 Fr1 Ar1) : ∀ sz : Nat, Met l yX10_hangs (wk yX10_hangs cX10_hangs 6 (some .int)) (rmk 4 0 0) (PreD G (TY cs) [.ref adm, .int 1] ((uX10 cs adm qm Fm Am Bm Dm) ++ ((uX8 cs (qm 3) qms Fms Ams Bms Dms) ++ ((uX3 cs (qms 0) qmh Fmh Amh Bmh Dmh) ++ ((uX5 cs (qm 6) qmn Fmn Amn Bmn Dmn) ++ ((uX5 cs (qm 7) qmw Fmw Amw Bmw Dmw) ++ (uX7 cs (qm 21) qr1 Fr1 Ar1 Br1 Dr1)))))) sz) ((QDi G (fun (r : Int32) (u : Int32 × Int32 × (Nat → Int32) × (Nat → Int32)) => True) (fun u : Int32 × Int32 × (Nat → Int32) × (Nat → Int32) => ((uX10 cs adm qm Fm Am Bm Dm) ++ ((uX8 cs (qm 3) qms Fms Ams Bms Dms) ++ ((uX3 cs (qms 0) qmh Fmh Amh Bmh Dmh) ++ ((uX5 cs (qm 6) qmn Fmn Amn Bmn Dmn) ++ ((wX5 cs (qm 7) qmw (upd (upd Fmw 2 u.1) 3 u.2.1) (vA (vA Amw 0 u.2.2.1) 1 u.2.2.2) Bmw Dmw) ++ (uX7 cs (qm 21) qr1 Fr1 Ar1 Br1 Dr1)))))))) (va_A ((uX10 cs adm qm Fm Am Bm Dm) ++ ((uX8 cs (qm 3) qms Fms Ams Bms Dms) ++ ((uX3 cs (qms 0) qmh Fmh Amh Bmh Dmh) ++ ((uX5 cs (qm 6) qmn Fmn Amn Bmn Dmn) ++ ((uX5 cs (qm 7) qmw Fmw Amw Bmw Dmw) ++ (uX7 cs (qm 21) qr1 Fr1 Ar1 Br1 Dr1)))))) sz)) 0 0 (va_A ((uX10 cs adm qm Fm Am Bm Dm) ++ ((uX8 cs (qm 3) qms Fms Ams Bms Dms) ++ ((uX3 cs (qms 0) qmh Fmh Amh Bmh Dmh) ++ ((uX5 cs (qm 6) qmn Fmn Amn Bmn Dmn) ++ ((uX5 cs (qm 7) qmw Fmw Amw Bmw Dmw) ++ (uX7 cs (qm 21) qr1 Fr1 Ar1 Br1 Dr1)))))) sz) := by
  refine mkD (Qc := (QDi G (fun (r : Int32) (u : Int32 × Int32 × (Nat → Int32) × (Nat → Int32)) => True) (fun u : Int32 × Int32 × (Nat → Int32) × (Nat → Int32) => ((uX10 cs adm qm Fm Am Bm Dm) ++ ((uX8 cs (qm 3) qms Fms Ams Bms Dms) ++ ((uX3 cs (qms 0) qmh Fmh Amh Bmh Dmh) ++ ((uX5 cs (qm 6) qmn Fmn Amn Bmn Dmn) ++ ((wX5 cs (qm 7) qmw (upd (upd Fmw 2 u.1) 3 u.2.1) (vA (vA Amw 0 u.2.2.1) 1 u.2.2.2) Bmw Dmw) ++ (uX7 cs (qm 21) qr1 Fr1 Ar1 Br1 Dr1))))))))) (by decide) (by simp [lg_sl, Value.category]) ?_
  intro p e s m args below meth c ls A0 hx hb hml hr hlk hown hmn ht hK hP hD hS hA hl
  have hl : lv_has ls 6 [(0, .ref adm), (1, .int 1)] := hl
  refine lv_aload_n hx hb dX10_hangs_0 rfl (lv_at hl 0 rfl) ?_
  refine lv_iload_n hx hb dX10_hangs_1 rfl (lv_at hl 1 rfl) ?_
  refine lv_iconst (v := 1) hx hb dX10_hangs_2 (by decide) ?_
  refine behR (runVP (As := [.int 1, .int 1]) (rest := []) ⟨hx, hb, hml, hown, ht⟩ (sX10_askRound_1 l G cs adm qm Fm Am Bm Dm hIm qms Fms Ams Bms Dms hIms qmh Fmh Amh Bmh Dmh hImh qr1 Fr1 Ar1 Br1 Dr1 hIr1 1 (by decide)) okV_RX10_186 ⟨by decide, by decide⟩ hK hP [0, 1, 2, 3, 4, 5, 6, 7, 8, 9, 10, 11, 12, 19, 20] rfl 0 rfl rfl hl.1 rfl (Nat.le_of_ble_eq_true rfl) dX10_hangs_3 ⟨by decide, by decide⟩) hP hS hA (fun r1 H locs hr1 hP hS => ?_)
  have kk2 : (1 : Int32).toInt = 1 := by decide
  have kk3 : (1 : Int32).toInt = 1 := by decide
  have hr1 : ((r1.toInt = 0 ∧ (1 : Int32).toInt = 1) ∨ r1.toInt = -2 ∨ r1.toInt = -6) ∧ RWk r1 0 (Br1 0) (-1) ((Fmh 5).toInt - 1) (Fr1 3).toInt := hr1
  refine lv_istore_n (lv' := [(2, .int r1), (0, .ref adm), (1, .int 1)]) hx hb dX10_hangs_6 rfl hl (by decide) rfl (fun ls hl => ?_)
  refine lv_iload_n hx hb dX10_hangs_7 rfl (lv_at hl 0 rfl) ?_
  refine lv_if_eq (tgt := 13) hx hb dX10_hangs_8 (by decide) (fun c4 => ?_) (fun c4 => ?_)
  · have zc4 := eqK rfl (show (0 : Int32).toInt = 0 by decide) c4
    refine lv_aload_n hx hb dX10_hangs_13 rfl (lv_at hl 1 rfl) ?_
    refine getF (v := .ref (qm 5)) hx hb ht hown hK hP iTX10 0 5 rfl rfl (by decide) fl_RX10_41 rfl dX10_hangs_14 ?_
    refine lv_iload_n hx hb dX10_hangs_17 rfl (lv_at hl 2 rfl) ?_
    refine va_aldq hx hb hK.1 hP 2 5 rfl rfl (show ¬ (_ ∨ _) by decide) dX10_hangs_18 ?_
    refine W.eq (g2 := F0 m 19 ls [.ref (qm 21)]) rfl ?_
    refine lv_astore_n (lv' := [(3, .ref (qm 21)), (2, .int r1), (0, .ref adm), (1, .int 1)]) hx hb dX10_hangs_19 rfl hl (by decide) rfl (fun ls hl => ?_)
    refine lv_aload_n hx hb dX10_hangs_20 rfl (lv_at hl 2 rfl) ?_
    refine getF (v := .ref (qm 7)) hx hb ht hown hK hP iTX10 0 7 rfl rfl (by decide) fl_RX10_52 rfl dX10_hangs_21 ?_
    refine lv_aload_n hx hb dX10_hangs_24 rfl (lv_at hl 2 rfl) ?_
    refine getF (v := .ref (qm 6)) hx hb ht hown hK hP iTX10 0 6 rfl rfl (by decide) fl_RX10_48 rfl dX10_hangs_25 ?_
    refine behDw (wr := ((uX10 cs adm qm Fm Am Bm Dm) ++ ((uX8 cs (qm 3) qms Fms Ams Bms Dms) ++ ((uX3 cs (qms 0) qmh Fmh Amh Bmh Dmh) ++ (uX7 cs (qm 21) qr1 Fr1 Ar1 Br1 Dr1))))) (runVD (As := [.ref (qm 6)]) (rest := []) ⟨hx, hb, hml, hown, ht⟩ (sX5_copyFrom l G cs (qm 7) qmw Fmw Amw Bmw Dmw hImw (qm 6) qmn Fmn Amn Bmn Dmn hImn ) okV_RX10_179 ⟨by decide, by decide⟩ hK hP hD [16, 17, 18, 13, 14, 15] rfl (by decide) rfl 16 rfl rfl hl.1 rfl (Nat.le_of_ble_eq_true rfl) dX10_hangs_28 ⟨(Nat.le_of_ble_eq_true rfl), (Nat.le_of_ble_eq_true rfl)⟩) hP hD hS hA [16, 17, 18, 13, 14, 15] [0, 1, 2, 3, 4, 5, 6, 7, 8, 9, 10, 11, 12, 19, 20] rfl rfl (by decide) (by decide) (fun u H locs hu hP hD hS => ?_)
    obtain ⟨x5, x6, g7⟩ := u
    have hr8 := hu
    have hP : va_P G vwCl ((uX10 cs adm qm Fm Am Bm Dm) ++ ((uX8 cs (qm 3) qms Fms Ams Bms Dms) ++ ((uX3 cs (qms 0) qmh Fmh Amh Bmh Dmh) ++ ((uX5 cs (qm 6) qmn Fmn Amn Bmn Dmn) ++ ((uX5 cs (qm 7) qmw (upv 3 x6 (upv 2 x5 Fmw)) (vB 0 g7 Amw) Bmw Dmw) ++ (uX7 cs (qm 21) qr1 Fr1 Ar1 Br1 Dr1)))))) H := hP.sub [0, 1, 2, 3, 4, 5, 6, 7, 8, 9, 10, 11, 12, 18, 19, 20, 15, 16, 17, 13, 14] rfl
    have hD : va_D A0 ((uX10 cs adm qm Fm Am Bm Dm) ++ ((uX8 cs (qm 3) qms Fms Ams Bms Dms) ++ ((uX3 cs (qms 0) qmh Fmh Amh Bmh Dmh) ++ ((uX5 cs (qm 6) qmn Fmn Amn Bmn Dmn) ++ ((uX5 cs (qm 7) qmw (upv 3 x6 (upv 2 x5 Fmw)) (vB 0 g7 Amw) Bmw Dmw) ++ (uX7 cs (qm 21) qr1 Fr1 Ar1 Br1 Dr1)))))) := hD.sub [0, 1, 2, 3, 4, 5, 6, 7, 8, 9, 10, 11, 12, 18, 19, 20, 15, 16, 17, 13, 14] (by decide) rfl
    refine lv_iconst (v := 0) hx hb dX10_hangs_31 (by decide) ?_
    refine lv_istore (lv' := [(4, .int 0), (3, .ref (qm 21)), (2, .int r1), (0, .ref adm), (1, .int 1)]) hx hb dX10_hangs_32 hl (by decide) rfl (fun ls hl => ?_)
    have B34 : ∀ (n : Nat) (x34_4 : Int32) (fmw3_34 : Int32) (amw0_34 : (Nat → Int32)) (amw1_34 : (Nat → Int32)) (H : Heap) (locs : List Loc) (ls : Array Slot), (60 - x34_4.toInt).toNat < n → (0 : Int) ≤ x34_4.toInt ∧ x34_4.toInt ≤ 60 → va_P G vwCl ((uX10 cs adm qm Fm Am Bm Dm) ++ ((uX8 cs (qm 3) qms Fms Ams Bms Dms) ++ ((uX3 cs (qms 0) qmh Fmh Amh Bmh Dmh) ++ ((uX5 cs (qm 6) qmn Fmn Amn Bmn Dmn) ++ ((uX5 cs (qm 7) qmw (upv 3 fmw3_34 (upv 2 x5 Fmw)) (vB 1 amw1_34 (vB 0 amw0_34 Amw)) Bmw Dmw) ++ (uX7 cs (qm 21) qr1 Fr1 Ar1 Br1 Dr1)))))) H → va_D A0 ((uX10 cs adm qm Fm Am Bm Dm) ++ ((uX8 cs (qm 3) qms Fms Ams Bms Dms) ++ ((uX3 cs (qms 0) qmh Fmh Amh Bmh Dmh) ++ ((uX5 cs (qm 6) qmn Fmn Amn Bmn Dmn) ++ ((uX5 cs (qm 7) qmw (upv 3 fmw3_34 (upv 2 x5 Fmw)) (vB 1 amw1_34 (vB 0 amw0_34 Amw)) Bmw Dmw) ++ (uX7 cs (qm 21) qr1 Fr1 Ar1 Br1 Dr1)))))) → va_S A0 s.heap H locs → lv_has ls 6 [(0, .ref adm), (3, .ref (qm 21)), (4, .int x34_4)] → W p l e (rmk 4 0 0) s m args below meth c H locs 0 0 (MQ below ((QDi G (fun (r : Int32) (u : Int32 × Int32 × (Nat → Int32) × (Nat → Int32)) => True) (fun u : Int32 × Int32 × (Nat → Int32) × (Nat → Int32) => ((uX10 cs adm qm Fm Am Bm Dm) ++ ((uX8 cs (qm 3) qms Fms Ams Bms Dms) ++ ((uX3 cs (qms 0) qmh Fmh Amh Bmh Dmh) ++ ((uX5 cs (qm 6) qmn Fmn Amn Bmn Dmn) ++ ((wX5 cs (qm 7) qmw (upd (upd Fmw 2 u.1) 3 u.2.1) (vA (vA Amw 0 u.2.2.1) 1 u.2.2.2) Bmw Dmw) ++ (uX7 cs (qm 21) qr1 Fr1 Ar1 Br1 Dr1)))))))) A0) args s 0 0 A0) (F0 m 34 ls []) := by
      intro n
      induction n with
      | zero => intro x34_4 fmw3_34 amw0_34 amw1_34 H locs ls hmeas hx34_4 hP hD hS hl; exact absurd hmeas (Nat.not_lt_zero _)
      | succ n ih34 =>
        intro x34_4 fmw3_34 amw0_34 amw1_34 H locs ls hmeas hx34_4 hP hD hS hl
        refine lv_iload hx hb dX10_hangs_34 (lv_at hl 2 rfl) ?_
        refine lv_aload_n hx hb dX10_hangs_36 rfl (lv_at hl 1 rfl) ?_
        refine getF (v := .int (Fr1 3)) hx hb ht hown hK hP iTX7 19 3 rfl rfl (by decide) fl_RX10_194 rfl dX10_hangs_37 ?_
        have zf22001 : (0 : Int) ≤ (Fr1 3).toInt ∧ (Fr1 3).toInt ≤ 60 := hIr1.1 3
        refine lv_icmp_ge (tgt := 94) hx hb dX10_hangs_40 (by decide) (fun c22002 => ?_) (fun c22002 => ?_)
        · have zc22002 := leK rfl rfl c22002
          refine lv_iconst (v := (-1)) hx hb dX10_hangs_94 (by decide) ?_
          exact retDi (x5, fmw3_34, amw0_34, amw1_34) hx hb hr hlk hP hD hS dX10_hangs_95 (trivial) (Nat.le_of_ble_eq_true rfl) (Nat.le_of_ble_eq_true rfl)
        · have zc22002 := nleK rfl rfl c22002
          refine lv_aload_n hx hb dX10_hangs_43 rfl (lv_at hl 0 rfl) ?_
          refine getF (v := .ref (qm 7)) hx hb ht hown hK hP iTX10 0 7 rfl rfl (by decide) fl_RX10_52 rfl dX10_hangs_44 ?_
          refine lv_aload_n hx hb dX10_hangs_47 rfl (lv_at hl 0 rfl) ?_
          refine getF (v := .ref (qm 3)) hx hb ht hown hK hP iTX10 0 3 rfl rfl (by decide) fl_RX10_31 rfl dX10_hangs_48 ?_
          refine getF (v := .ref (qms 0)) hx hb ht hown hK hP iTX8 3 0 rfl rfl (by decide) fl_RX10_98 rfl dX10_hangs_51 ?_
          refine lv_aload_n hx hb dX10_hangs_54 rfl (lv_at hl 1 rfl) ?_
          refine lv_iload hx hb dX10_hangs_55 (lv_at hl 2 rfl) ?_
          refine behR (runVP (As := [.int x34_4]) (rest := [.ref (qms 0), .ref (qm 7)]) ⟨hx, hb, hml, hown, ht⟩ (sX7_roomAt l G cs (qm 21) qr1 Fr1 Ar1 Br1 Dr1 hIr1 x34_4 ) okV_RX10_195 ⟨by decide, by decide⟩ hK hP [19, 20] rfl 19 rfl rfl hl.1 rfl (Nat.le_of_ble_eq_true rfl) dX10_hangs_57 ⟨by decide, by decide⟩) hP hS hA (fun r22003 H locs hr22003 hP hS => ?_)
          have hr22003 : RAt r22003 x34_4 (Br1 0) (Fr1 3).toInt := hr22003
          have z5r22003 : (0 : Int) ≤ (Fmh 5).toInt ∧ (Fmh 5).toInt ≤ 7 := hImh.1 5
          have zbr22003 := RWr hr22003 (hr1.2 (by omega)) (by omega) (by omega) (by omega) (by omega)
          refine lv_iconst (v := 0) hx hb dX10_hangs_60 (by decide) ?_
          refine behDi (wr := ((uX10 cs adm qm Fm Am Bm Dm) ++ ((uX8 cs (qm 3) qms Fms Ams Bms Dms) ++ ((uX5 cs (qm 6) qmn Fmn Amn Bmn Dmn) ++ (uX7 cs (qm 21) qr1 Fr1 Ar1 Br1 Dr1))))) (runVD (As := [.ref (qms 0), .int r22003, .int 0]) (rest := []) ⟨hx, hb, hml, hown, ht⟩ (sX5_live l G cs (qm 7) qmw (upv 3 fmw3_34 (upv 2 x5 Fmw)) (vB 1 amw1_34 (vB 0 amw0_34 Amw)) Bmw Dmw (IB_av (k := 1) (IB_av (k := 0) (IB_pv (k := 3) (IB_pv (k := 2) hImw (i32b _)) (i32b _)) (AJ_full _)) (AJ_full _)) (qms 0) qmh Fmh Amh Bmh Dmh hImh r22003 0 (by decide)) okV_RX10_175 ⟨by decide, by decide⟩ hK hP hD [16, 17, 18, 5, 6, 7, 8, 9, 10, 11, 12] rfl (by decide) rfl 16 rfl rfl hl.1 rfl (Nat.le_of_ble_eq_true rfl) dX10_hangs_61 ⟨(Nat.le_of_ble_eq_true rfl), (Nat.le_of_ble_eq_true rfl)⟩) hP hD hS hA [16, 17, 18, 5, 6, 7, 8, 9, 10, 11, 12] [0, 1, 2, 3, 4, 13, 14, 15, 19, 20] rfl rfl (by decide) (by decide) (fun r9 u H locs hu hP hD hS => ?_)
          obtain ⟨x22004, g22005, g22006⟩ := u
          obtain ⟨r22007, rfl⟩ : ∃ z, z = r9 := ⟨_, rfl⟩
          have hr22007 := hu
          have hP : va_P G vwCl ((uX10 cs adm qm Fm Am Bm Dm) ++ ((uX8 cs (qm 3) qms Fms Ams Bms Dms) ++ ((uX3 cs (qms 0) qmh Fmh Amh Bmh Dmh) ++ ((uX5 cs (qm 6) qmn Fmn Amn Bmn Dmn) ++ ((uX5 cs (qm 7) qmw (upv 3 x22004 (upv 2 x5 Fmw)) (vB 1 g22006 (vB 0 g22005 Amw)) Bmw Dmw) ++ (uX7 cs (qm 21) qr1 Fr1 Ar1 Br1 Dr1)))))) H := hP.sub [0, 1, 2, 3, 4, 13, 14, 15, 16, 17, 18, 19, 20, 5, 6, 7, 10, 11, 12, 8, 9] rfl
          have hD : va_D A0 ((uX10 cs adm qm Fm Am Bm Dm) ++ ((uX8 cs (qm 3) qms Fms Ams Bms Dms) ++ ((uX3 cs (qms 0) qmh Fmh Amh Bmh Dmh) ++ ((uX5 cs (qm 6) qmn Fmn Amn Bmn Dmn) ++ ((uX5 cs (qm 7) qmw (upv 3 x22004 (upv 2 x5 Fmw)) (vB 1 g22006 (vB 0 g22005 Amw)) Bmw Dmw) ++ (uX7 cs (qm 21) qr1 Fr1 Ar1 Br1 Dr1)))))) := hD.sub [0, 1, 2, 3, 4, 13, 14, 15, 16, 17, 18, 19, 20, 5, 6, 7, 10, 11, 12, 8, 9] (by decide) rfl
          refine lv_istore (lv' := [(5, .int r22007), (0, .ref adm), (3, .ref (qm 21)), (4, .int x34_4)]) hx hb dX10_hangs_64 hl (by decide) rfl (fun ls hl => ?_)
          refine lv_aload_n hx hb dX10_hangs_66 rfl (lv_at hl 1 rfl) ?_
          refine lv_iload hx hb dX10_hangs_67 (lv_at hl 0 rfl) ?_
          refine behR (runVP (As := [.int r22007]) (rest := []) ⟨hx, hb, hml, hown, ht⟩ (sX10_worthOf l G cs adm qm Fm Am Bm Dm hIm qms Fms Ams Bms Dms hIms qmh Fmh Amh Bmh Dmh hImh r22007 ) okV_RX10_232 ⟨by decide, by decide⟩ hK hP [0, 1, 2, 3, 4, 5, 6, 7, 8, 9, 10, 11, 12] rfl 0 rfl rfl hl.1 rfl (Nat.le_of_ble_eq_true rfl) dX10_hangs_69 ⟨by decide, by decide⟩) hP hS hA (fun r22008 H locs hr22008 hP hS => ?_)
          refine lv_aload_n hx hb dX10_hangs_72 rfl (lv_at hl 1 rfl) ?_
          refine getF (v := .ref (qm 3)) hx hb ht hown hK hP iTX10 0 3 rfl rfl (by decide) fl_RX10_31 rfl dX10_hangs_73 ?_
          refine getF (v := .ref (qms 0)) hx hb ht hown hK hP iTX8 3 0 rfl rfl (by decide) fl_RX10_98 rfl dX10_hangs_76 ?_
          refine getF (v := .int (Fmh 4)) hx hb ht hown hK hP iTX3 5 4 rfl rfl (by decide) fl_RX10_235 rfl dX10_hangs_79 ?_
          refine lv_icmp_ge (tgt := 88) hx hb dX10_hangs_82 (by decide) (fun c22009 => ?_) (fun c22009 => ?_)
          · have zc22009 := leK rfl rfl c22009
            obtain ⟨v22010, ev22010⟩ : ∃ z : Int32, z = x34_4 + 1 := ⟨_, rfl⟩
            have tv22010 : v22010.toInt = x34_4.toInt + 1 := by rw [ev22010]; exact addT rfl (by decide) (by omega)
            refine lv_iinc (v := v22010) (lv' := [(4, .int v22010), (5, .int r22007), (0, .ref adm), (3, .ref (qm 21))]) hx hb dX10_hangs_88 hl (k := 3) rfl (by rw [ev22010]; rfl) (by decide) rfl (fun ls hl => ?_)
            refine lv_goto (tgt := 34) hx hb dX10_hangs_91 (by decide) ?_
            exact ih34 v22010 x22004 g22005 g22006 H locs ls (by omega) (by omega) hP hD hS (lv_sub hl [2, 3, 0] rfl)
          · have zc22009 := nleK rfl rfl c22009
            refine lv_iload hx hb dX10_hangs_85 (lv_at hl 3 rfl) ?_
            exact retDi (x5, x22004, g22005, g22006) hx hb hr hlk hP hD hS dX10_hangs_87 (trivial) (Nat.le_of_ble_eq_true rfl) (Nat.le_of_ble_eq_true rfl)
    exact B34 _ 0 x6 g7 (Amw 1) H locs ls (Nat.lt_succ_self _) (by decide) hP hD hS (lv_sub hl [3, 1, 0] rfl)
  · have zc4 := neK rfl (show (0 : Int32).toInt = 0 by decide) c4
    refine lv_iload_n hx hb dX10_hangs_11 rfl (lv_at hl 0 rfl) ?_
    exact retDi ((Fmw 2), (Fmw 3), (Amw 0), (Amw 1)) hx hb hr hlk hP hD hS dX10_hangs_12 (trivial) (Nat.le_of_ble_eq_true rfl) (Nat.le_of_ble_eq_true rfl)

set_option maxRecDepth 100000 in
set_option maxHeartbeats 16000000 in
theorem sX10_hangs_2 (l : Launch) (G : va_G) (cs : Nat → ClassId) (adm : Nat) (qm : Nat → Nat) (Fm : Nat → Int32) (Am : Nat → Nat → Int32) (Bm : Nat → Nat → Int64) (Dm : Int64) (hIm : IX10 Fm Am) (qms : Nat → Nat) (Fms : Nat → Int32) (Ams : Nat → Nat → Int32) (Bms : Nat → Nat → Int64) (Dms : Int64) (hIms : IX8 Fms Ams) (qmh : Nat → Nat) (Fmh : Nat → Int32) (Amh : Nat → Nat → Int32) (Bmh : Nat → Nat → Int64) (Dmh : Int64) (hImh : IX3 Fmh Amh) (qmn : Nat → Nat) (Fmn : Nat → Int32) (Amn : Nat → Nat → Int32) (Bmn : Nat → Nat → Int64) (Dmn : Int64) (hImn : IX5 Fmn Amn) (qmw : Nat → Nat) (Fmw : Nat → Int32) (Amw : Nat → Nat → Int32) (Bmw : Nat → Nat → Int64) (Dmw : Int64) (hImw : IX5 Fmw Amw) (qr2 : Nat → Nat) (Fr2 : Nat → Int32) (Ar2 : Nat → Nat → Int32) (Br2 : Nat → Nat → Int64) (Dr2 : Int64) (hIr2 : IX7 Fr2 Ar2) : ∀ sz : Nat, Met l yX10_hangs (wk yX10_hangs cX10_hangs 6 (some .int)) (rmk 4 0 0) (PreD G (TY cs) [.ref adm, .int 2] ((uX10 cs adm qm Fm Am Bm Dm) ++ ((uX8 cs (qm 3) qms Fms Ams Bms Dms) ++ ((uX3 cs (qms 0) qmh Fmh Amh Bmh Dmh) ++ ((uX5 cs (qm 6) qmn Fmn Amn Bmn Dmn) ++ ((uX5 cs (qm 7) qmw Fmw Amw Bmw Dmw) ++ (uX7 cs (qm 22) qr2 Fr2 Ar2 Br2 Dr2)))))) sz) ((QDi G (fun (r : Int32) (u : Int32 × Int32 × (Nat → Int32) × (Nat → Int32)) => True) (fun u : Int32 × Int32 × (Nat → Int32) × (Nat → Int32) => ((uX10 cs adm qm Fm Am Bm Dm) ++ ((uX8 cs (qm 3) qms Fms Ams Bms Dms) ++ ((uX3 cs (qms 0) qmh Fmh Amh Bmh Dmh) ++ ((uX5 cs (qm 6) qmn Fmn Amn Bmn Dmn) ++ ((wX5 cs (qm 7) qmw (upd (upd Fmw 2 u.1) 3 u.2.1) (vA (vA Amw 0 u.2.2.1) 1 u.2.2.2) Bmw Dmw) ++ (uX7 cs (qm 22) qr2 Fr2 Ar2 Br2 Dr2)))))))) (va_A ((uX10 cs adm qm Fm Am Bm Dm) ++ ((uX8 cs (qm 3) qms Fms Ams Bms Dms) ++ ((uX3 cs (qms 0) qmh Fmh Amh Bmh Dmh) ++ ((uX5 cs (qm 6) qmn Fmn Amn Bmn Dmn) ++ ((uX5 cs (qm 7) qmw Fmw Amw Bmw Dmw) ++ (uX7 cs (qm 22) qr2 Fr2 Ar2 Br2 Dr2)))))) sz)) 0 0 (va_A ((uX10 cs adm qm Fm Am Bm Dm) ++ ((uX8 cs (qm 3) qms Fms Ams Bms Dms) ++ ((uX3 cs (qms 0) qmh Fmh Amh Bmh Dmh) ++ ((uX5 cs (qm 6) qmn Fmn Amn Bmn Dmn) ++ ((uX5 cs (qm 7) qmw Fmw Amw Bmw Dmw) ++ (uX7 cs (qm 22) qr2 Fr2 Ar2 Br2 Dr2)))))) sz) := by
  refine mkD (Qc := (QDi G (fun (r : Int32) (u : Int32 × Int32 × (Nat → Int32) × (Nat → Int32)) => True) (fun u : Int32 × Int32 × (Nat → Int32) × (Nat → Int32) => ((uX10 cs adm qm Fm Am Bm Dm) ++ ((uX8 cs (qm 3) qms Fms Ams Bms Dms) ++ ((uX3 cs (qms 0) qmh Fmh Amh Bmh Dmh) ++ ((uX5 cs (qm 6) qmn Fmn Amn Bmn Dmn) ++ ((wX5 cs (qm 7) qmw (upd (upd Fmw 2 u.1) 3 u.2.1) (vA (vA Amw 0 u.2.2.1) 1 u.2.2.2) Bmw Dmw) ++ (uX7 cs (qm 22) qr2 Fr2 Ar2 Br2 Dr2))))))))) (by decide) (by simp [lg_sl, Value.category]) ?_
  intro p e s m args below meth c ls A0 hx hb hml hr hlk hown hmn ht hK hP hD hS hA hl
  have hl : lv_has ls 6 [(0, .ref adm), (1, .int 2)] := hl
  refine lv_aload_n hx hb dX10_hangs_0 rfl (lv_at hl 0 rfl) ?_
  refine lv_iload_n hx hb dX10_hangs_1 rfl (lv_at hl 1 rfl) ?_
  refine lv_iconst (v := 1) hx hb dX10_hangs_2 (by decide) ?_
  refine behR (runVP (As := [.int 2, .int 1]) (rest := []) ⟨hx, hb, hml, hown, ht⟩ (sX10_askRound_2 l G cs adm qm Fm Am Bm Dm hIm qms Fms Ams Bms Dms hIms qmh Fmh Amh Bmh Dmh hImh qr2 Fr2 Ar2 Br2 Dr2 hIr2 1 (by decide)) okV_RX10_186 ⟨by decide, by decide⟩ hK hP [0, 1, 2, 3, 4, 5, 6, 7, 8, 9, 10, 11, 12, 19, 20] rfl 0 rfl rfl hl.1 rfl (Nat.le_of_ble_eq_true rfl) dX10_hangs_3 ⟨by decide, by decide⟩) hP hS hA (fun r1 H locs hr1 hP hS => ?_)
  have kk2 : (2 : Int32).toInt = 2 := by decide
  have kk3 : (1 : Int32).toInt = 1 := by decide
  have hr1 : ((r1.toInt = 0 ∧ (1 : Int32).toInt = 1) ∨ r1.toInt = -2 ∨ r1.toInt = -6) ∧ RWk r1 0 (Br2 0) (-1) ((Fmh 5).toInt - 1) (Fr2 3).toInt := hr1
  refine lv_istore_n (lv' := [(2, .int r1), (0, .ref adm), (1, .int 2)]) hx hb dX10_hangs_6 rfl hl (by decide) rfl (fun ls hl => ?_)
  refine lv_iload_n hx hb dX10_hangs_7 rfl (lv_at hl 0 rfl) ?_
  refine lv_if_eq (tgt := 13) hx hb dX10_hangs_8 (by decide) (fun c4 => ?_) (fun c4 => ?_)
  · have zc4 := eqK rfl (show (0 : Int32).toInt = 0 by decide) c4
    refine lv_aload_n hx hb dX10_hangs_13 rfl (lv_at hl 1 rfl) ?_
    refine getF (v := .ref (qm 5)) hx hb ht hown hK hP iTX10 0 5 rfl rfl (by decide) fl_RX10_41 rfl dX10_hangs_14 ?_
    refine lv_iload_n hx hb dX10_hangs_17 rfl (lv_at hl 2 rfl) ?_
    refine va_aldq hx hb hK.1 hP 2 5 rfl rfl (show ¬ (_ ∨ _) by decide) dX10_hangs_18 ?_
    refine W.eq (g2 := F0 m 19 ls [.ref (qm 22)]) rfl ?_
    refine lv_astore_n (lv' := [(3, .ref (qm 22)), (2, .int r1), (0, .ref adm), (1, .int 2)]) hx hb dX10_hangs_19 rfl hl (by decide) rfl (fun ls hl => ?_)
    refine lv_aload_n hx hb dX10_hangs_20 rfl (lv_at hl 2 rfl) ?_
    refine getF (v := .ref (qm 7)) hx hb ht hown hK hP iTX10 0 7 rfl rfl (by decide) fl_RX10_52 rfl dX10_hangs_21 ?_
    refine lv_aload_n hx hb dX10_hangs_24 rfl (lv_at hl 2 rfl) ?_
    refine getF (v := .ref (qm 6)) hx hb ht hown hK hP iTX10 0 6 rfl rfl (by decide) fl_RX10_48 rfl dX10_hangs_25 ?_
    refine behDw (wr := ((uX10 cs adm qm Fm Am Bm Dm) ++ ((uX8 cs (qm 3) qms Fms Ams Bms Dms) ++ ((uX3 cs (qms 0) qmh Fmh Amh Bmh Dmh) ++ (uX7 cs (qm 22) qr2 Fr2 Ar2 Br2 Dr2))))) (runVD (As := [.ref (qm 6)]) (rest := []) ⟨hx, hb, hml, hown, ht⟩ (sX5_copyFrom l G cs (qm 7) qmw Fmw Amw Bmw Dmw hImw (qm 6) qmn Fmn Amn Bmn Dmn hImn ) okV_RX10_179 ⟨by decide, by decide⟩ hK hP hD [16, 17, 18, 13, 14, 15] rfl (by decide) rfl 16 rfl rfl hl.1 rfl (Nat.le_of_ble_eq_true rfl) dX10_hangs_28 ⟨(Nat.le_of_ble_eq_true rfl), (Nat.le_of_ble_eq_true rfl)⟩) hP hD hS hA [16, 17, 18, 13, 14, 15] [0, 1, 2, 3, 4, 5, 6, 7, 8, 9, 10, 11, 12, 19, 20] rfl rfl (by decide) (by decide) (fun u H locs hu hP hD hS => ?_)
    obtain ⟨x5, x6, g7⟩ := u
    have hr8 := hu
    have hP : va_P G vwCl ((uX10 cs adm qm Fm Am Bm Dm) ++ ((uX8 cs (qm 3) qms Fms Ams Bms Dms) ++ ((uX3 cs (qms 0) qmh Fmh Amh Bmh Dmh) ++ ((uX5 cs (qm 6) qmn Fmn Amn Bmn Dmn) ++ ((uX5 cs (qm 7) qmw (upv 3 x6 (upv 2 x5 Fmw)) (vB 0 g7 Amw) Bmw Dmw) ++ (uX7 cs (qm 22) qr2 Fr2 Ar2 Br2 Dr2)))))) H := hP.sub [0, 1, 2, 3, 4, 5, 6, 7, 8, 9, 10, 11, 12, 18, 19, 20, 15, 16, 17, 13, 14] rfl
    have hD : va_D A0 ((uX10 cs adm qm Fm Am Bm Dm) ++ ((uX8 cs (qm 3) qms Fms Ams Bms Dms) ++ ((uX3 cs (qms 0) qmh Fmh Amh Bmh Dmh) ++ ((uX5 cs (qm 6) qmn Fmn Amn Bmn Dmn) ++ ((uX5 cs (qm 7) qmw (upv 3 x6 (upv 2 x5 Fmw)) (vB 0 g7 Amw) Bmw Dmw) ++ (uX7 cs (qm 22) qr2 Fr2 Ar2 Br2 Dr2)))))) := hD.sub [0, 1, 2, 3, 4, 5, 6, 7, 8, 9, 10, 11, 12, 18, 19, 20, 15, 16, 17, 13, 14] (by decide) rfl
    refine lv_iconst (v := 0) hx hb dX10_hangs_31 (by decide) ?_
    refine lv_istore (lv' := [(4, .int 0), (3, .ref (qm 22)), (2, .int r1), (0, .ref adm), (1, .int 2)]) hx hb dX10_hangs_32 hl (by decide) rfl (fun ls hl => ?_)
    have B34 : ∀ (n : Nat) (x34_4 : Int32) (fmw3_34 : Int32) (amw0_34 : (Nat → Int32)) (amw1_34 : (Nat → Int32)) (H : Heap) (locs : List Loc) (ls : Array Slot), (60 - x34_4.toInt).toNat < n → (0 : Int) ≤ x34_4.toInt ∧ x34_4.toInt ≤ 60 → va_P G vwCl ((uX10 cs adm qm Fm Am Bm Dm) ++ ((uX8 cs (qm 3) qms Fms Ams Bms Dms) ++ ((uX3 cs (qms 0) qmh Fmh Amh Bmh Dmh) ++ ((uX5 cs (qm 6) qmn Fmn Amn Bmn Dmn) ++ ((uX5 cs (qm 7) qmw (upv 3 fmw3_34 (upv 2 x5 Fmw)) (vB 1 amw1_34 (vB 0 amw0_34 Amw)) Bmw Dmw) ++ (uX7 cs (qm 22) qr2 Fr2 Ar2 Br2 Dr2)))))) H → va_D A0 ((uX10 cs adm qm Fm Am Bm Dm) ++ ((uX8 cs (qm 3) qms Fms Ams Bms Dms) ++ ((uX3 cs (qms 0) qmh Fmh Amh Bmh Dmh) ++ ((uX5 cs (qm 6) qmn Fmn Amn Bmn Dmn) ++ ((uX5 cs (qm 7) qmw (upv 3 fmw3_34 (upv 2 x5 Fmw)) (vB 1 amw1_34 (vB 0 amw0_34 Amw)) Bmw Dmw) ++ (uX7 cs (qm 22) qr2 Fr2 Ar2 Br2 Dr2)))))) → va_S A0 s.heap H locs → lv_has ls 6 [(0, .ref adm), (3, .ref (qm 22)), (4, .int x34_4)] → W p l e (rmk 4 0 0) s m args below meth c H locs 0 0 (MQ below ((QDi G (fun (r : Int32) (u : Int32 × Int32 × (Nat → Int32) × (Nat → Int32)) => True) (fun u : Int32 × Int32 × (Nat → Int32) × (Nat → Int32) => ((uX10 cs adm qm Fm Am Bm Dm) ++ ((uX8 cs (qm 3) qms Fms Ams Bms Dms) ++ ((uX3 cs (qms 0) qmh Fmh Amh Bmh Dmh) ++ ((uX5 cs (qm 6) qmn Fmn Amn Bmn Dmn) ++ ((wX5 cs (qm 7) qmw (upd (upd Fmw 2 u.1) 3 u.2.1) (vA (vA Amw 0 u.2.2.1) 1 u.2.2.2) Bmw Dmw) ++ (uX7 cs (qm 22) qr2 Fr2 Ar2 Br2 Dr2)))))))) A0) args s 0 0 A0) (F0 m 34 ls []) := by
      intro n
      induction n with
      | zero => intro x34_4 fmw3_34 amw0_34 amw1_34 H locs ls hmeas hx34_4 hP hD hS hl; exact absurd hmeas (Nat.not_lt_zero _)
      | succ n ih34 =>
        intro x34_4 fmw3_34 amw0_34 amw1_34 H locs ls hmeas hx34_4 hP hD hS hl
        refine lv_iload hx hb dX10_hangs_34 (lv_at hl 2 rfl) ?_
        refine lv_aload_n hx hb dX10_hangs_36 rfl (lv_at hl 1 rfl) ?_
        refine getF (v := .int (Fr2 3)) hx hb ht hown hK hP iTX7 19 3 rfl rfl (by decide) fl_RX10_194 rfl dX10_hangs_37 ?_
        have zf22001 : (0 : Int) ≤ (Fr2 3).toInt ∧ (Fr2 3).toInt ≤ 60 := hIr2.1 3
        refine lv_icmp_ge (tgt := 94) hx hb dX10_hangs_40 (by decide) (fun c22002 => ?_) (fun c22002 => ?_)
        · have zc22002 := leK rfl rfl c22002
          refine lv_iconst (v := (-1)) hx hb dX10_hangs_94 (by decide) ?_
          exact retDi (x5, fmw3_34, amw0_34, amw1_34) hx hb hr hlk hP hD hS dX10_hangs_95 (trivial) (Nat.le_of_ble_eq_true rfl) (Nat.le_of_ble_eq_true rfl)
        · have zc22002 := nleK rfl rfl c22002
          refine lv_aload_n hx hb dX10_hangs_43 rfl (lv_at hl 0 rfl) ?_
          refine getF (v := .ref (qm 7)) hx hb ht hown hK hP iTX10 0 7 rfl rfl (by decide) fl_RX10_52 rfl dX10_hangs_44 ?_
          refine lv_aload_n hx hb dX10_hangs_47 rfl (lv_at hl 0 rfl) ?_
          refine getF (v := .ref (qm 3)) hx hb ht hown hK hP iTX10 0 3 rfl rfl (by decide) fl_RX10_31 rfl dX10_hangs_48 ?_
          refine getF (v := .ref (qms 0)) hx hb ht hown hK hP iTX8 3 0 rfl rfl (by decide) fl_RX10_98 rfl dX10_hangs_51 ?_
          refine lv_aload_n hx hb dX10_hangs_54 rfl (lv_at hl 1 rfl) ?_
          refine lv_iload hx hb dX10_hangs_55 (lv_at hl 2 rfl) ?_
          refine behR (runVP (As := [.int x34_4]) (rest := [.ref (qms 0), .ref (qm 7)]) ⟨hx, hb, hml, hown, ht⟩ (sX7_roomAt l G cs (qm 22) qr2 Fr2 Ar2 Br2 Dr2 hIr2 x34_4 ) okV_RX10_195 ⟨by decide, by decide⟩ hK hP [19, 20] rfl 19 rfl rfl hl.1 rfl (Nat.le_of_ble_eq_true rfl) dX10_hangs_57 ⟨by decide, by decide⟩) hP hS hA (fun r22003 H locs hr22003 hP hS => ?_)
          have hr22003 : RAt r22003 x34_4 (Br2 0) (Fr2 3).toInt := hr22003
          have z5r22003 : (0 : Int) ≤ (Fmh 5).toInt ∧ (Fmh 5).toInt ≤ 7 := hImh.1 5
          have zbr22003 := RWr hr22003 (hr1.2 (by omega)) (by omega) (by omega) (by omega) (by omega)
          refine lv_iconst (v := 0) hx hb dX10_hangs_60 (by decide) ?_
          refine behDi (wr := ((uX10 cs adm qm Fm Am Bm Dm) ++ ((uX8 cs (qm 3) qms Fms Ams Bms Dms) ++ ((uX5 cs (qm 6) qmn Fmn Amn Bmn Dmn) ++ (uX7 cs (qm 22) qr2 Fr2 Ar2 Br2 Dr2))))) (runVD (As := [.ref (qms 0), .int r22003, .int 0]) (rest := []) ⟨hx, hb, hml, hown, ht⟩ (sX5_live l G cs (qm 7) qmw (upv 3 fmw3_34 (upv 2 x5 Fmw)) (vB 1 amw1_34 (vB 0 amw0_34 Amw)) Bmw Dmw (IB_av (k := 1) (IB_av (k := 0) (IB_pv (k := 3) (IB_pv (k := 2) hImw (i32b _)) (i32b _)) (AJ_full _)) (AJ_full _)) (qms 0) qmh Fmh Amh Bmh Dmh hImh r22003 0 (by decide)) okV_RX10_175 ⟨by decide, by decide⟩ hK hP hD [16, 17, 18, 5, 6, 7, 8, 9, 10, 11, 12] rfl (by decide) rfl 16 rfl rfl hl.1 rfl (Nat.le_of_ble_eq_true rfl) dX10_hangs_61 ⟨(Nat.le_of_ble_eq_true rfl), (Nat.le_of_ble_eq_true rfl)⟩) hP hD hS hA [16, 17, 18, 5, 6, 7, 8, 9, 10, 11, 12] [0, 1, 2, 3, 4, 13, 14, 15, 19, 20] rfl rfl (by decide) (by decide) (fun r9 u H locs hu hP hD hS => ?_)
          obtain ⟨x22004, g22005, g22006⟩ := u
          obtain ⟨r22007, rfl⟩ : ∃ z, z = r9 := ⟨_, rfl⟩
          have hr22007 := hu
          have hP : va_P G vwCl ((uX10 cs adm qm Fm Am Bm Dm) ++ ((uX8 cs (qm 3) qms Fms Ams Bms Dms) ++ ((uX3 cs (qms 0) qmh Fmh Amh Bmh Dmh) ++ ((uX5 cs (qm 6) qmn Fmn Amn Bmn Dmn) ++ ((uX5 cs (qm 7) qmw (upv 3 x22004 (upv 2 x5 Fmw)) (vB 1 g22006 (vB 0 g22005 Amw)) Bmw Dmw) ++ (uX7 cs (qm 22) qr2 Fr2 Ar2 Br2 Dr2)))))) H := hP.sub [0, 1, 2, 3, 4, 13, 14, 15, 16, 17, 18, 19, 20, 5, 6, 7, 10, 11, 12, 8, 9] rfl
          have hD : va_D A0 ((uX10 cs adm qm Fm Am Bm Dm) ++ ((uX8 cs (qm 3) qms Fms Ams Bms Dms) ++ ((uX3 cs (qms 0) qmh Fmh Amh Bmh Dmh) ++ ((uX5 cs (qm 6) qmn Fmn Amn Bmn Dmn) ++ ((uX5 cs (qm 7) qmw (upv 3 x22004 (upv 2 x5 Fmw)) (vB 1 g22006 (vB 0 g22005 Amw)) Bmw Dmw) ++ (uX7 cs (qm 22) qr2 Fr2 Ar2 Br2 Dr2)))))) := hD.sub [0, 1, 2, 3, 4, 13, 14, 15, 16, 17, 18, 19, 20, 5, 6, 7, 10, 11, 12, 8, 9] (by decide) rfl
          refine lv_istore (lv' := [(5, .int r22007), (0, .ref adm), (3, .ref (qm 22)), (4, .int x34_4)]) hx hb dX10_hangs_64 hl (by decide) rfl (fun ls hl => ?_)
          refine lv_aload_n hx hb dX10_hangs_66 rfl (lv_at hl 1 rfl) ?_
          refine lv_iload hx hb dX10_hangs_67 (lv_at hl 0 rfl) ?_
          refine behR (runVP (As := [.int r22007]) (rest := []) ⟨hx, hb, hml, hown, ht⟩ (sX10_worthOf l G cs adm qm Fm Am Bm Dm hIm qms Fms Ams Bms Dms hIms qmh Fmh Amh Bmh Dmh hImh r22007 ) okV_RX10_232 ⟨by decide, by decide⟩ hK hP [0, 1, 2, 3, 4, 5, 6, 7, 8, 9, 10, 11, 12] rfl 0 rfl rfl hl.1 rfl (Nat.le_of_ble_eq_true rfl) dX10_hangs_69 ⟨by decide, by decide⟩) hP hS hA (fun r22008 H locs hr22008 hP hS => ?_)
          refine lv_aload_n hx hb dX10_hangs_72 rfl (lv_at hl 1 rfl) ?_
          refine getF (v := .ref (qm 3)) hx hb ht hown hK hP iTX10 0 3 rfl rfl (by decide) fl_RX10_31 rfl dX10_hangs_73 ?_
          refine getF (v := .ref (qms 0)) hx hb ht hown hK hP iTX8 3 0 rfl rfl (by decide) fl_RX10_98 rfl dX10_hangs_76 ?_
          refine getF (v := .int (Fmh 4)) hx hb ht hown hK hP iTX3 5 4 rfl rfl (by decide) fl_RX10_235 rfl dX10_hangs_79 ?_
          refine lv_icmp_ge (tgt := 88) hx hb dX10_hangs_82 (by decide) (fun c22009 => ?_) (fun c22009 => ?_)
          · have zc22009 := leK rfl rfl c22009
            obtain ⟨v22010, ev22010⟩ : ∃ z : Int32, z = x34_4 + 1 := ⟨_, rfl⟩
            have tv22010 : v22010.toInt = x34_4.toInt + 1 := by rw [ev22010]; exact addT rfl (by decide) (by omega)
            refine lv_iinc (v := v22010) (lv' := [(4, .int v22010), (5, .int r22007), (0, .ref adm), (3, .ref (qm 22))]) hx hb dX10_hangs_88 hl (k := 3) rfl (by rw [ev22010]; rfl) (by decide) rfl (fun ls hl => ?_)
            refine lv_goto (tgt := 34) hx hb dX10_hangs_91 (by decide) ?_
            exact ih34 v22010 x22004 g22005 g22006 H locs ls (by omega) (by omega) hP hD hS (lv_sub hl [2, 3, 0] rfl)
          · have zc22009 := nleK rfl rfl c22009
            refine lv_iload hx hb dX10_hangs_85 (lv_at hl 3 rfl) ?_
            exact retDi (x5, x22004, g22005, g22006) hx hb hr hlk hP hD hS dX10_hangs_87 (trivial) (Nat.le_of_ble_eq_true rfl) (Nat.le_of_ble_eq_true rfl)
    exact B34 _ 0 x6 g7 (Amw 1) H locs ls (Nat.lt_succ_self _) (by decide) hP hD hS (lv_sub hl [3, 1, 0] rfl)
  · have zc4 := neK rfl (show (0 : Int32).toInt = 0 by decide) c4
    refine lv_iload_n hx hb dX10_hangs_11 rfl (lv_at hl 0 rfl) ?_
    exact retDi ((Fmw 2), (Fmw 3), (Amw 0), (Amw 1)) hx hb hr hlk hP hD hS dX10_hangs_12 (trivial) (Nat.le_of_ble_eq_true rfl) (Nat.le_of_ble_eq_true rfl)

set_option maxRecDepth 100000 in
set_option maxHeartbeats 16000000 in
theorem sX10_hangs_3 (l : Launch) (G : va_G) (cs : Nat → ClassId) (adm : Nat) (qm : Nat → Nat) (Fm : Nat → Int32) (Am : Nat → Nat → Int32) (Bm : Nat → Nat → Int64) (Dm : Int64) (hIm : IX10 Fm Am) (qms : Nat → Nat) (Fms : Nat → Int32) (Ams : Nat → Nat → Int32) (Bms : Nat → Nat → Int64) (Dms : Int64) (hIms : IX8 Fms Ams) (qmh : Nat → Nat) (Fmh : Nat → Int32) (Amh : Nat → Nat → Int32) (Bmh : Nat → Nat → Int64) (Dmh : Int64) (hImh : IX3 Fmh Amh) (qmn : Nat → Nat) (Fmn : Nat → Int32) (Amn : Nat → Nat → Int32) (Bmn : Nat → Nat → Int64) (Dmn : Int64) (hImn : IX5 Fmn Amn) (qmw : Nat → Nat) (Fmw : Nat → Int32) (Amw : Nat → Nat → Int32) (Bmw : Nat → Nat → Int64) (Dmw : Int64) (hImw : IX5 Fmw Amw) (qr3 : Nat → Nat) (Fr3 : Nat → Int32) (Ar3 : Nat → Nat → Int32) (Br3 : Nat → Nat → Int64) (Dr3 : Int64) (hIr3 : IX7 Fr3 Ar3) : ∀ sz : Nat, Met l yX10_hangs (wk yX10_hangs cX10_hangs 6 (some .int)) (rmk 4 0 0) (PreD G (TY cs) [.ref adm, .int 3] ((uX10 cs adm qm Fm Am Bm Dm) ++ ((uX8 cs (qm 3) qms Fms Ams Bms Dms) ++ ((uX3 cs (qms 0) qmh Fmh Amh Bmh Dmh) ++ ((uX5 cs (qm 6) qmn Fmn Amn Bmn Dmn) ++ ((uX5 cs (qm 7) qmw Fmw Amw Bmw Dmw) ++ (uX7 cs (qm 23) qr3 Fr3 Ar3 Br3 Dr3)))))) sz) ((QDi G (fun (r : Int32) (u : Int32 × Int32 × (Nat → Int32) × (Nat → Int32)) => True) (fun u : Int32 × Int32 × (Nat → Int32) × (Nat → Int32) => ((uX10 cs adm qm Fm Am Bm Dm) ++ ((uX8 cs (qm 3) qms Fms Ams Bms Dms) ++ ((uX3 cs (qms 0) qmh Fmh Amh Bmh Dmh) ++ ((uX5 cs (qm 6) qmn Fmn Amn Bmn Dmn) ++ ((wX5 cs (qm 7) qmw (upd (upd Fmw 2 u.1) 3 u.2.1) (vA (vA Amw 0 u.2.2.1) 1 u.2.2.2) Bmw Dmw) ++ (uX7 cs (qm 23) qr3 Fr3 Ar3 Br3 Dr3)))))))) (va_A ((uX10 cs adm qm Fm Am Bm Dm) ++ ((uX8 cs (qm 3) qms Fms Ams Bms Dms) ++ ((uX3 cs (qms 0) qmh Fmh Amh Bmh Dmh) ++ ((uX5 cs (qm 6) qmn Fmn Amn Bmn Dmn) ++ ((uX5 cs (qm 7) qmw Fmw Amw Bmw Dmw) ++ (uX7 cs (qm 23) qr3 Fr3 Ar3 Br3 Dr3)))))) sz)) 0 0 (va_A ((uX10 cs adm qm Fm Am Bm Dm) ++ ((uX8 cs (qm 3) qms Fms Ams Bms Dms) ++ ((uX3 cs (qms 0) qmh Fmh Amh Bmh Dmh) ++ ((uX5 cs (qm 6) qmn Fmn Amn Bmn Dmn) ++ ((uX5 cs (qm 7) qmw Fmw Amw Bmw Dmw) ++ (uX7 cs (qm 23) qr3 Fr3 Ar3 Br3 Dr3)))))) sz) := by
  refine mkD (Qc := (QDi G (fun (r : Int32) (u : Int32 × Int32 × (Nat → Int32) × (Nat → Int32)) => True) (fun u : Int32 × Int32 × (Nat → Int32) × (Nat → Int32) => ((uX10 cs adm qm Fm Am Bm Dm) ++ ((uX8 cs (qm 3) qms Fms Ams Bms Dms) ++ ((uX3 cs (qms 0) qmh Fmh Amh Bmh Dmh) ++ ((uX5 cs (qm 6) qmn Fmn Amn Bmn Dmn) ++ ((wX5 cs (qm 7) qmw (upd (upd Fmw 2 u.1) 3 u.2.1) (vA (vA Amw 0 u.2.2.1) 1 u.2.2.2) Bmw Dmw) ++ (uX7 cs (qm 23) qr3 Fr3 Ar3 Br3 Dr3))))))))) (by decide) (by simp [lg_sl, Value.category]) ?_
  intro p e s m args below meth c ls A0 hx hb hml hr hlk hown hmn ht hK hP hD hS hA hl
  have hl : lv_has ls 6 [(0, .ref adm), (1, .int 3)] := hl
  refine lv_aload_n hx hb dX10_hangs_0 rfl (lv_at hl 0 rfl) ?_
  refine lv_iload_n hx hb dX10_hangs_1 rfl (lv_at hl 1 rfl) ?_
  refine lv_iconst (v := 1) hx hb dX10_hangs_2 (by decide) ?_
  refine behR (runVP (As := [.int 3, .int 1]) (rest := []) ⟨hx, hb, hml, hown, ht⟩ (sX10_askRound_3 l G cs adm qm Fm Am Bm Dm hIm qms Fms Ams Bms Dms hIms qmh Fmh Amh Bmh Dmh hImh qr3 Fr3 Ar3 Br3 Dr3 hIr3 1 (by decide)) okV_RX10_186 ⟨by decide, by decide⟩ hK hP [0, 1, 2, 3, 4, 5, 6, 7, 8, 9, 10, 11, 12, 19, 20] rfl 0 rfl rfl hl.1 rfl (Nat.le_of_ble_eq_true rfl) dX10_hangs_3 ⟨by decide, by decide⟩) hP hS hA (fun r1 H locs hr1 hP hS => ?_)
  have kk2 : (3 : Int32).toInt = 3 := by decide
  have kk3 : (1 : Int32).toInt = 1 := by decide
  have hr1 : ((r1.toInt = 0 ∧ (1 : Int32).toInt = 1) ∨ r1.toInt = -2 ∨ r1.toInt = -6) ∧ RWk r1 0 (Br3 0) (-1) ((Fmh 5).toInt - 1) (Fr3 3).toInt := hr1
  refine lv_istore_n (lv' := [(2, .int r1), (0, .ref adm), (1, .int 3)]) hx hb dX10_hangs_6 rfl hl (by decide) rfl (fun ls hl => ?_)
  refine lv_iload_n hx hb dX10_hangs_7 rfl (lv_at hl 0 rfl) ?_
  refine lv_if_eq (tgt := 13) hx hb dX10_hangs_8 (by decide) (fun c4 => ?_) (fun c4 => ?_)
  · have zc4 := eqK rfl (show (0 : Int32).toInt = 0 by decide) c4
    refine lv_aload_n hx hb dX10_hangs_13 rfl (lv_at hl 1 rfl) ?_
    refine getF (v := .ref (qm 5)) hx hb ht hown hK hP iTX10 0 5 rfl rfl (by decide) fl_RX10_41 rfl dX10_hangs_14 ?_
    refine lv_iload_n hx hb dX10_hangs_17 rfl (lv_at hl 2 rfl) ?_
    refine va_aldq hx hb hK.1 hP 2 5 rfl rfl (show ¬ (_ ∨ _) by decide) dX10_hangs_18 ?_
    refine W.eq (g2 := F0 m 19 ls [.ref (qm 23)]) rfl ?_
    refine lv_astore_n (lv' := [(3, .ref (qm 23)), (2, .int r1), (0, .ref adm), (1, .int 3)]) hx hb dX10_hangs_19 rfl hl (by decide) rfl (fun ls hl => ?_)
    refine lv_aload_n hx hb dX10_hangs_20 rfl (lv_at hl 2 rfl) ?_
    refine getF (v := .ref (qm 7)) hx hb ht hown hK hP iTX10 0 7 rfl rfl (by decide) fl_RX10_52 rfl dX10_hangs_21 ?_
    refine lv_aload_n hx hb dX10_hangs_24 rfl (lv_at hl 2 rfl) ?_
    refine getF (v := .ref (qm 6)) hx hb ht hown hK hP iTX10 0 6 rfl rfl (by decide) fl_RX10_48 rfl dX10_hangs_25 ?_
    refine behDw (wr := ((uX10 cs adm qm Fm Am Bm Dm) ++ ((uX8 cs (qm 3) qms Fms Ams Bms Dms) ++ ((uX3 cs (qms 0) qmh Fmh Amh Bmh Dmh) ++ (uX7 cs (qm 23) qr3 Fr3 Ar3 Br3 Dr3))))) (runVD (As := [.ref (qm 6)]) (rest := []) ⟨hx, hb, hml, hown, ht⟩ (sX5_copyFrom l G cs (qm 7) qmw Fmw Amw Bmw Dmw hImw (qm 6) qmn Fmn Amn Bmn Dmn hImn ) okV_RX10_179 ⟨by decide, by decide⟩ hK hP hD [16, 17, 18, 13, 14, 15] rfl (by decide) rfl 16 rfl rfl hl.1 rfl (Nat.le_of_ble_eq_true rfl) dX10_hangs_28 ⟨(Nat.le_of_ble_eq_true rfl), (Nat.le_of_ble_eq_true rfl)⟩) hP hD hS hA [16, 17, 18, 13, 14, 15] [0, 1, 2, 3, 4, 5, 6, 7, 8, 9, 10, 11, 12, 19, 20] rfl rfl (by decide) (by decide) (fun u H locs hu hP hD hS => ?_)
    obtain ⟨x5, x6, g7⟩ := u
    have hr8 := hu
    have hP : va_P G vwCl ((uX10 cs adm qm Fm Am Bm Dm) ++ ((uX8 cs (qm 3) qms Fms Ams Bms Dms) ++ ((uX3 cs (qms 0) qmh Fmh Amh Bmh Dmh) ++ ((uX5 cs (qm 6) qmn Fmn Amn Bmn Dmn) ++ ((uX5 cs (qm 7) qmw (upv 3 x6 (upv 2 x5 Fmw)) (vB 0 g7 Amw) Bmw Dmw) ++ (uX7 cs (qm 23) qr3 Fr3 Ar3 Br3 Dr3)))))) H := hP.sub [0, 1, 2, 3, 4, 5, 6, 7, 8, 9, 10, 11, 12, 18, 19, 20, 15, 16, 17, 13, 14] rfl
    have hD : va_D A0 ((uX10 cs adm qm Fm Am Bm Dm) ++ ((uX8 cs (qm 3) qms Fms Ams Bms Dms) ++ ((uX3 cs (qms 0) qmh Fmh Amh Bmh Dmh) ++ ((uX5 cs (qm 6) qmn Fmn Amn Bmn Dmn) ++ ((uX5 cs (qm 7) qmw (upv 3 x6 (upv 2 x5 Fmw)) (vB 0 g7 Amw) Bmw Dmw) ++ (uX7 cs (qm 23) qr3 Fr3 Ar3 Br3 Dr3)))))) := hD.sub [0, 1, 2, 3, 4, 5, 6, 7, 8, 9, 10, 11, 12, 18, 19, 20, 15, 16, 17, 13, 14] (by decide) rfl
    refine lv_iconst (v := 0) hx hb dX10_hangs_31 (by decide) ?_
    refine lv_istore (lv' := [(4, .int 0), (3, .ref (qm 23)), (2, .int r1), (0, .ref adm), (1, .int 3)]) hx hb dX10_hangs_32 hl (by decide) rfl (fun ls hl => ?_)
    have B34 : ∀ (n : Nat) (x34_4 : Int32) (fmw3_34 : Int32) (amw0_34 : (Nat → Int32)) (amw1_34 : (Nat → Int32)) (H : Heap) (locs : List Loc) (ls : Array Slot), (60 - x34_4.toInt).toNat < n → (0 : Int) ≤ x34_4.toInt ∧ x34_4.toInt ≤ 60 → va_P G vwCl ((uX10 cs adm qm Fm Am Bm Dm) ++ ((uX8 cs (qm 3) qms Fms Ams Bms Dms) ++ ((uX3 cs (qms 0) qmh Fmh Amh Bmh Dmh) ++ ((uX5 cs (qm 6) qmn Fmn Amn Bmn Dmn) ++ ((uX5 cs (qm 7) qmw (upv 3 fmw3_34 (upv 2 x5 Fmw)) (vB 1 amw1_34 (vB 0 amw0_34 Amw)) Bmw Dmw) ++ (uX7 cs (qm 23) qr3 Fr3 Ar3 Br3 Dr3)))))) H → va_D A0 ((uX10 cs adm qm Fm Am Bm Dm) ++ ((uX8 cs (qm 3) qms Fms Ams Bms Dms) ++ ((uX3 cs (qms 0) qmh Fmh Amh Bmh Dmh) ++ ((uX5 cs (qm 6) qmn Fmn Amn Bmn Dmn) ++ ((uX5 cs (qm 7) qmw (upv 3 fmw3_34 (upv 2 x5 Fmw)) (vB 1 amw1_34 (vB 0 amw0_34 Amw)) Bmw Dmw) ++ (uX7 cs (qm 23) qr3 Fr3 Ar3 Br3 Dr3)))))) → va_S A0 s.heap H locs → lv_has ls 6 [(0, .ref adm), (3, .ref (qm 23)), (4, .int x34_4)] → W p l e (rmk 4 0 0) s m args below meth c H locs 0 0 (MQ below ((QDi G (fun (r : Int32) (u : Int32 × Int32 × (Nat → Int32) × (Nat → Int32)) => True) (fun u : Int32 × Int32 × (Nat → Int32) × (Nat → Int32) => ((uX10 cs adm qm Fm Am Bm Dm) ++ ((uX8 cs (qm 3) qms Fms Ams Bms Dms) ++ ((uX3 cs (qms 0) qmh Fmh Amh Bmh Dmh) ++ ((uX5 cs (qm 6) qmn Fmn Amn Bmn Dmn) ++ ((wX5 cs (qm 7) qmw (upd (upd Fmw 2 u.1) 3 u.2.1) (vA (vA Amw 0 u.2.2.1) 1 u.2.2.2) Bmw Dmw) ++ (uX7 cs (qm 23) qr3 Fr3 Ar3 Br3 Dr3)))))))) A0) args s 0 0 A0) (F0 m 34 ls []) := by
      intro n
      induction n with
      | zero => intro x34_4 fmw3_34 amw0_34 amw1_34 H locs ls hmeas hx34_4 hP hD hS hl; exact absurd hmeas (Nat.not_lt_zero _)
      | succ n ih34 =>
        intro x34_4 fmw3_34 amw0_34 amw1_34 H locs ls hmeas hx34_4 hP hD hS hl
        refine lv_iload hx hb dX10_hangs_34 (lv_at hl 2 rfl) ?_
        refine lv_aload_n hx hb dX10_hangs_36 rfl (lv_at hl 1 rfl) ?_
        refine getF (v := .int (Fr3 3)) hx hb ht hown hK hP iTX7 19 3 rfl rfl (by decide) fl_RX10_194 rfl dX10_hangs_37 ?_
        have zf22001 : (0 : Int) ≤ (Fr3 3).toInt ∧ (Fr3 3).toInt ≤ 60 := hIr3.1 3
        refine lv_icmp_ge (tgt := 94) hx hb dX10_hangs_40 (by decide) (fun c22002 => ?_) (fun c22002 => ?_)
        · have zc22002 := leK rfl rfl c22002
          refine lv_iconst (v := (-1)) hx hb dX10_hangs_94 (by decide) ?_
          exact retDi (x5, fmw3_34, amw0_34, amw1_34) hx hb hr hlk hP hD hS dX10_hangs_95 (trivial) (Nat.le_of_ble_eq_true rfl) (Nat.le_of_ble_eq_true rfl)
        · have zc22002 := nleK rfl rfl c22002
          refine lv_aload_n hx hb dX10_hangs_43 rfl (lv_at hl 0 rfl) ?_
          refine getF (v := .ref (qm 7)) hx hb ht hown hK hP iTX10 0 7 rfl rfl (by decide) fl_RX10_52 rfl dX10_hangs_44 ?_
          refine lv_aload_n hx hb dX10_hangs_47 rfl (lv_at hl 0 rfl) ?_
          refine getF (v := .ref (qm 3)) hx hb ht hown hK hP iTX10 0 3 rfl rfl (by decide) fl_RX10_31 rfl dX10_hangs_48 ?_
          refine getF (v := .ref (qms 0)) hx hb ht hown hK hP iTX8 3 0 rfl rfl (by decide) fl_RX10_98 rfl dX10_hangs_51 ?_
          refine lv_aload_n hx hb dX10_hangs_54 rfl (lv_at hl 1 rfl) ?_
          refine lv_iload hx hb dX10_hangs_55 (lv_at hl 2 rfl) ?_
          refine behR (runVP (As := [.int x34_4]) (rest := [.ref (qms 0), .ref (qm 7)]) ⟨hx, hb, hml, hown, ht⟩ (sX7_roomAt l G cs (qm 23) qr3 Fr3 Ar3 Br3 Dr3 hIr3 x34_4 ) okV_RX10_195 ⟨by decide, by decide⟩ hK hP [19, 20] rfl 19 rfl rfl hl.1 rfl (Nat.le_of_ble_eq_true rfl) dX10_hangs_57 ⟨by decide, by decide⟩) hP hS hA (fun r22003 H locs hr22003 hP hS => ?_)
          have hr22003 : RAt r22003 x34_4 (Br3 0) (Fr3 3).toInt := hr22003
          have z5r22003 : (0 : Int) ≤ (Fmh 5).toInt ∧ (Fmh 5).toInt ≤ 7 := hImh.1 5
          have zbr22003 := RWr hr22003 (hr1.2 (by omega)) (by omega) (by omega) (by omega) (by omega)
          refine lv_iconst (v := 0) hx hb dX10_hangs_60 (by decide) ?_
          refine behDi (wr := ((uX10 cs adm qm Fm Am Bm Dm) ++ ((uX8 cs (qm 3) qms Fms Ams Bms Dms) ++ ((uX5 cs (qm 6) qmn Fmn Amn Bmn Dmn) ++ (uX7 cs (qm 23) qr3 Fr3 Ar3 Br3 Dr3))))) (runVD (As := [.ref (qms 0), .int r22003, .int 0]) (rest := []) ⟨hx, hb, hml, hown, ht⟩ (sX5_live l G cs (qm 7) qmw (upv 3 fmw3_34 (upv 2 x5 Fmw)) (vB 1 amw1_34 (vB 0 amw0_34 Amw)) Bmw Dmw (IB_av (k := 1) (IB_av (k := 0) (IB_pv (k := 3) (IB_pv (k := 2) hImw (i32b _)) (i32b _)) (AJ_full _)) (AJ_full _)) (qms 0) qmh Fmh Amh Bmh Dmh hImh r22003 0 (by decide)) okV_RX10_175 ⟨by decide, by decide⟩ hK hP hD [16, 17, 18, 5, 6, 7, 8, 9, 10, 11, 12] rfl (by decide) rfl 16 rfl rfl hl.1 rfl (Nat.le_of_ble_eq_true rfl) dX10_hangs_61 ⟨(Nat.le_of_ble_eq_true rfl), (Nat.le_of_ble_eq_true rfl)⟩) hP hD hS hA [16, 17, 18, 5, 6, 7, 8, 9, 10, 11, 12] [0, 1, 2, 3, 4, 13, 14, 15, 19, 20] rfl rfl (by decide) (by decide) (fun r9 u H locs hu hP hD hS => ?_)
          obtain ⟨x22004, g22005, g22006⟩ := u
          obtain ⟨r22007, rfl⟩ : ∃ z, z = r9 := ⟨_, rfl⟩
          have hr22007 := hu
          have hP : va_P G vwCl ((uX10 cs adm qm Fm Am Bm Dm) ++ ((uX8 cs (qm 3) qms Fms Ams Bms Dms) ++ ((uX3 cs (qms 0) qmh Fmh Amh Bmh Dmh) ++ ((uX5 cs (qm 6) qmn Fmn Amn Bmn Dmn) ++ ((uX5 cs (qm 7) qmw (upv 3 x22004 (upv 2 x5 Fmw)) (vB 1 g22006 (vB 0 g22005 Amw)) Bmw Dmw) ++ (uX7 cs (qm 23) qr3 Fr3 Ar3 Br3 Dr3)))))) H := hP.sub [0, 1, 2, 3, 4, 13, 14, 15, 16, 17, 18, 19, 20, 5, 6, 7, 10, 11, 12, 8, 9] rfl
          have hD : va_D A0 ((uX10 cs adm qm Fm Am Bm Dm) ++ ((uX8 cs (qm 3) qms Fms Ams Bms Dms) ++ ((uX3 cs (qms 0) qmh Fmh Amh Bmh Dmh) ++ ((uX5 cs (qm 6) qmn Fmn Amn Bmn Dmn) ++ ((uX5 cs (qm 7) qmw (upv 3 x22004 (upv 2 x5 Fmw)) (vB 1 g22006 (vB 0 g22005 Amw)) Bmw Dmw) ++ (uX7 cs (qm 23) qr3 Fr3 Ar3 Br3 Dr3)))))) := hD.sub [0, 1, 2, 3, 4, 13, 14, 15, 16, 17, 18, 19, 20, 5, 6, 7, 10, 11, 12, 8, 9] (by decide) rfl
          refine lv_istore (lv' := [(5, .int r22007), (0, .ref adm), (3, .ref (qm 23)), (4, .int x34_4)]) hx hb dX10_hangs_64 hl (by decide) rfl (fun ls hl => ?_)
          refine lv_aload_n hx hb dX10_hangs_66 rfl (lv_at hl 1 rfl) ?_
          refine lv_iload hx hb dX10_hangs_67 (lv_at hl 0 rfl) ?_
          refine behR (runVP (As := [.int r22007]) (rest := []) ⟨hx, hb, hml, hown, ht⟩ (sX10_worthOf l G cs adm qm Fm Am Bm Dm hIm qms Fms Ams Bms Dms hIms qmh Fmh Amh Bmh Dmh hImh r22007 ) okV_RX10_232 ⟨by decide, by decide⟩ hK hP [0, 1, 2, 3, 4, 5, 6, 7, 8, 9, 10, 11, 12] rfl 0 rfl rfl hl.1 rfl (Nat.le_of_ble_eq_true rfl) dX10_hangs_69 ⟨by decide, by decide⟩) hP hS hA (fun r22008 H locs hr22008 hP hS => ?_)
          refine lv_aload_n hx hb dX10_hangs_72 rfl (lv_at hl 1 rfl) ?_
          refine getF (v := .ref (qm 3)) hx hb ht hown hK hP iTX10 0 3 rfl rfl (by decide) fl_RX10_31 rfl dX10_hangs_73 ?_
          refine getF (v := .ref (qms 0)) hx hb ht hown hK hP iTX8 3 0 rfl rfl (by decide) fl_RX10_98 rfl dX10_hangs_76 ?_
          refine getF (v := .int (Fmh 4)) hx hb ht hown hK hP iTX3 5 4 rfl rfl (by decide) fl_RX10_235 rfl dX10_hangs_79 ?_
          refine lv_icmp_ge (tgt := 88) hx hb dX10_hangs_82 (by decide) (fun c22009 => ?_) (fun c22009 => ?_)
          · have zc22009 := leK rfl rfl c22009
            obtain ⟨v22010, ev22010⟩ : ∃ z : Int32, z = x34_4 + 1 := ⟨_, rfl⟩
            have tv22010 : v22010.toInt = x34_4.toInt + 1 := by rw [ev22010]; exact addT rfl (by decide) (by omega)
            refine lv_iinc (v := v22010) (lv' := [(4, .int v22010), (5, .int r22007), (0, .ref adm), (3, .ref (qm 23))]) hx hb dX10_hangs_88 hl (k := 3) rfl (by rw [ev22010]; rfl) (by decide) rfl (fun ls hl => ?_)
            refine lv_goto (tgt := 34) hx hb dX10_hangs_91 (by decide) ?_
            exact ih34 v22010 x22004 g22005 g22006 H locs ls (by omega) (by omega) hP hD hS (lv_sub hl [2, 3, 0] rfl)
          · have zc22009 := nleK rfl rfl c22009
            refine lv_iload hx hb dX10_hangs_85 (lv_at hl 3 rfl) ?_
            exact retDi (x5, x22004, g22005, g22006) hx hb hr hlk hP hD hS dX10_hangs_87 (trivial) (Nat.le_of_ble_eq_true rfl) (Nat.le_of_ble_eq_true rfl)
    exact B34 _ 0 x6 g7 (Amw 1) H locs ls (Nat.lt_succ_self _) (by decide) hP hD hS (lv_sub hl [3, 1, 0] rfl)
  · have zc4 := neK rfl (show (0 : Int32).toInt = 0 by decide) c4
    refine lv_iload_n hx hb dX10_hangs_11 rfl (lv_at hl 0 rfl) ?_
    exact retDi ((Fmw 2), (Fmw 3), (Amw 0), (Amw 1)) hx hb hr hlk hP hD hS dX10_hangs_12 (trivial) (Nat.le_of_ble_eq_true rfl) (Nat.le_of_ble_eq_true rfl)

set_option maxRecDepth 100000 in
set_option maxHeartbeats 16000000 in
theorem sX10_hangs_lo (l : Launch) (G : va_G) (cs : Nat → ClassId) (adm : Nat) (qm : Nat → Nat) (Fm : Nat → Int32) (Am : Nat → Nat → Int32) (Bm : Nat → Nat → Int64) (Dm : Int64) (hIm : IX10 Fm Am) (qms : Nat → Nat) (Fms : Nat → Int32) (Ams : Nat → Nat → Int32) (Bms : Nat → Nat → Int64) (Dms : Int64) (hIms : IX8 Fms Ams) (qmh : Nat → Nat) (Fmh : Nat → Int32) (Amh : Nat → Nat → Int32) (Bmh : Nat → Nat → Int64) (Dmh : Int64) (hImh : IX3 Fmh Amh) (qmn : Nat → Nat) (Fmn : Nat → Int32) (Amn : Nat → Nat → Int32) (Bmn : Nat → Nat → Int64) (Dmn : Int64) (hImn : IX5 Fmn Amn) (qmw : Nat → Nat) (Fmw : Nat → Int32) (Amw : Nat → Nat → Int32) (Bmw : Nat → Nat → Int64) (Dmw : Int64) (hImw : IX5 Fmw Amw) (a1 : Int32) (ha1 : (-2147483648 : Int) ≤ a1.toInt ∧ a1.toInt ≤ -1) : ∀ sz : Nat, Met l yX10_hangs (wk yX10_hangs cX10_hangs 6 (some .int)) (rmk 3 0 0) (PreD G (TY cs) [.ref adm, .int a1] ((uX10 cs adm qm Fm Am Bm Dm) ++ ((uX8 cs (qm 3) qms Fms Ams Bms Dms) ++ ((uX3 cs (qms 0) qmh Fmh Amh Bmh Dmh) ++ ((uX5 cs (qm 6) qmn Fmn Amn Bmn Dmn) ++ (uX5 cs (qm 7) qmw Fmw Amw Bmw Dmw))))) sz) ((QDi G (fun (r : Int32) (u : Unit) => True) (fun u : Unit => ((uX10 cs adm qm Fm Am Bm Dm) ++ ((uX8 cs (qm 3) qms Fms Ams Bms Dms) ++ ((uX3 cs (qms 0) qmh Fmh Amh Bmh Dmh) ++ ((uX5 cs (qm 6) qmn Fmn Amn Bmn Dmn) ++ (uX5 cs (qm 7) qmw Fmw Amw Bmw Dmw))))))) (va_A ((uX10 cs adm qm Fm Am Bm Dm) ++ ((uX8 cs (qm 3) qms Fms Ams Bms Dms) ++ ((uX3 cs (qms 0) qmh Fmh Amh Bmh Dmh) ++ ((uX5 cs (qm 6) qmn Fmn Amn Bmn Dmn) ++ (uX5 cs (qm 7) qmw Fmw Amw Bmw Dmw))))) sz)) 0 0 (va_A ((uX10 cs adm qm Fm Am Bm Dm) ++ ((uX8 cs (qm 3) qms Fms Ams Bms Dms) ++ ((uX3 cs (qms 0) qmh Fmh Amh Bmh Dmh) ++ ((uX5 cs (qm 6) qmn Fmn Amn Bmn Dmn) ++ (uX5 cs (qm 7) qmw Fmw Amw Bmw Dmw))))) sz) := by
  refine mkD (Qc := (QDi G (fun (r : Int32) (u : Unit) => True) (fun u : Unit => ((uX10 cs adm qm Fm Am Bm Dm) ++ ((uX8 cs (qm 3) qms Fms Ams Bms Dms) ++ ((uX3 cs (qms 0) qmh Fmh Amh Bmh Dmh) ++ ((uX5 cs (qm 6) qmn Fmn Amn Bmn Dmn) ++ (uX5 cs (qm 7) qmw Fmw Amw Bmw Dmw)))))))) (by decide) (by simp [lg_sl, Value.category]) ?_
  intro p e s m args below meth c ls A0 hx hb hml hr hlk hown hmn ht hK hP hD hS hA hl
  have hl : lv_has ls 6 [(0, .ref adm), (1, .int a1)] := hl
  refine lv_aload_n hx hb dX10_hangs_0 rfl (lv_at hl 0 rfl) ?_
  refine lv_iload_n hx hb dX10_hangs_1 rfl (lv_at hl 1 rfl) ?_
  refine lv_iconst (v := 1) hx hb dX10_hangs_2 (by decide) ?_
  have bb1 := i32b a1
  refine behR (runVP (As := [.int a1, .int 1]) (rest := []) ⟨hx, hb, hml, hown, ht⟩ (sX10_askRound_lo l G cs adm qm Fm Am Bm Dm hIm qms Fms Ams Bms Dms hIms qmh Fmh Amh Bmh Dmh hImh a1 1 (by omega) (by decide)) okV_RX10_186 ⟨by decide, by decide⟩ hK hP [0, 1, 2, 3, 4, 5, 6, 7, 8, 9, 10, 11, 12] rfl 0 rfl rfl hl.1 rfl (Nat.le_of_ble_eq_true rfl) dX10_hangs_3 ⟨by decide, by decide⟩) hP hS hA (fun r2 H locs hr2 hP hS => ?_)
  have kk3 : (1 : Int32).toInt = 1 := by decide
  have hr2 : r2.toInt = -2 := hr2
  refine lv_istore_n (lv' := [(2, .int r2), (0, .ref adm), (1, .int a1)]) hx hb dX10_hangs_6 rfl hl (by decide) rfl (fun ls hl => ?_)
  refine lv_iload_n hx hb dX10_hangs_7 rfl (lv_at hl 0 rfl) ?_
  refine lv_if_eq (tgt := 13) hx hb dX10_hangs_8 (by decide) (fun c4 => False.elim (by have zz := eqK rfl (show (0 : Int32).toInt = 0 by decide) c4; omega)) (fun c4 => ?_)
  refine lv_iload_n hx hb dX10_hangs_11 rfl (lv_at hl 0 rfl) ?_
  exact retDi () hx hb hr hlk hP hD hS dX10_hangs_12 (trivial) (Nat.le_of_ble_eq_true rfl) (Nat.le_of_ble_eq_true rfl)

