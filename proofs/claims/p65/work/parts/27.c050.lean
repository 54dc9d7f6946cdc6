set_option maxRecDepth 100000 in
set_option maxHeartbeats 16000000 in
theorem sX10_rest (l : Launch) (G : va_G) (cs : Nat → ClassId) (adm : Nat) (qm : Nat → Nat) (Fm : Nat → Int32) (Am : Nat → Nat → Int32) (Bm : Nat → Nat → Int64) (Dm : Int64) (hIm : IX10 Fm Am) (qms : Nat → Nat) (Fms : Nat → Int32) (Ams : Nat → Nat → Int32) (Bms : Nat → Nat → Int64) (Dms : Int64) (hIms : IX8 Fms Ams) (qmh : Nat → Nat) (Fmh : Nat → Int32) (Amh : Nat → Nat → Int32) (Bmh : Nat → Nat → Int64) (Dmh : Int64) (hImh : IX3 Fmh Amh) (qmn : Nat → Nat) (Fmn : Nat → Int32) (Amn : Nat → Nat → Int32) (Bmn : Nat → Nat → Int64) (Dmn : Int64) (hImn : IX5 Fmn Amn) (qmw : Nat → Nat) (Fmw : Nat → Int32) (Amw : Nat → Nat → Int32) (Bmw : Nat → Nat → Int64) (Dmw : Int64) (hImw : IX5 Fmw Amw) : ∀ sz : Nat, Met l yX10_rest (wk yX10_rest cX10_rest 2 (some .int)) (rmk 3 0 0) (PreD G (TY cs) [.ref adm] ((uX10 cs adm qm Fm Am Bm Dm) ++ ((uX8 cs (qm 3) qms Fms Ams Bms Dms) ++ ((uX3 cs (qms 0) qmh Fmh Amh Bmh Dmh) ++ ((uX5 cs (qm 6) qmn Fmn Amn Bmn Dmn) ++ (uX5 cs (qm 7) qmw Fmw Amw Bmw Dmw))))) sz) ((QDi G (fun (r : Int32) (u : Int32 × Int32 × (Nat → Int32) × (Nat → Int32)) => True) (fun u : Int32 × Int32 × (Nat → Int32) × (Nat → Int32) => ((uX10 cs adm qm Fm Am Bm Dm) ++ ((uX8 cs (qm 3) qms Fms Ams Bms Dms) ++ ((uX3 cs (qms 0) qmh Fmh Amh Bmh Dmh) ++ ((uX5 cs (qm 6) qmn Fmn Amn Bmn Dmn) ++ (wX5 cs (qm 7) qmw (upd (upd Fmw 2 u.1) 3 u.2.1) (vA (vA Amw 0 u.2.2.1) 1 u.2.2.2) Bmw Dmw))))))) (va_A ((uX10 cs adm qm Fm Am Bm Dm) ++ ((uX8 cs (qm 3) qms Fms Ams Bms Dms) ++ ((uX3 cs (qms 0) qmh Fmh Amh Bmh Dmh) ++ ((uX5 cs (qm 6) qmn Fmn Amn Bmn Dmn) ++ (uX5 cs (qm 7) qmw Fmw Amw Bmw Dmw))))) sz)) 0 0 (va_A ((uX10 cs adm qm Fm Am Bm Dm) ++ ((uX8 cs (qm 3) qms Fms Ams Bms Dms) ++ ((uX3 cs (qms 0) qmh Fmh Amh Bmh Dmh) ++ ((uX5 cs (qm 6) qmn Fmn Amn Bmn Dmn) ++ (uX5 cs (qm 7) qmw Fmw Amw Bmw Dmw))))) sz) := by
  refine mkD (Qc := (QDi G (fun (r : Int32) (u : Int32 × Int32 × (Nat → Int32) × (Nat → Int32)) => True) (fun u : Int32 × Int32 × (Nat → Int32) × (Nat → Int32) => ((uX10 cs adm qm Fm Am Bm Dm) ++ ((uX8 cs (qm 3) qms Fms Ams Bms Dms) ++ ((uX3 cs (qms 0) qmh Fmh Amh Bmh Dmh) ++ ((uX5 cs (qm 6) qmn Fmn Amn Bmn Dmn) ++ (wX5 cs (qm 7) qmw (upd (upd Fmw 2 u.1) 3 u.2.1) (vA (vA Amw 0 u.2.2.1) 1 u.2.2.2) Bmw Dmw)))))))) (by decide) (by simp [lg_sl, Value.category]) ?_
  intro p e s m args below meth c ls A0 hx hb hml hr hlk hown hmn ht hK hP hD hS hA hl
  have hl : lv_has ls 2 [(0, .ref adm)] := hl
  refine lv_aload_n hx hb dX10_rest_0 rfl (lv_at hl 0 rfl) ?_
  refine behR (runVP (As := []) (rest := []) ⟨hx, hb, hml, hown, ht⟩ (sX10_hasHouse l G cs adm qm Fm Am Bm Dm hIm qms Fms Ams Bms Dms hIms qmh Fmh Amh Bmh Dmh hImh ) okV_RX10_152 ⟨by decide, by decide⟩ hK hP [0, 1, 2, 3, 4, 5, 6, 7, 8, 9, 10, 11, 12] rfl 0 rfl rfl hl.1 rfl (Nat.le_of_ble_eq_true rfl) dX10_rest_1 ⟨by decide, by decide⟩) hP hS hA (fun r1 H locs hr1 hP hS => ?_)
  have hr1 : (0 : Int) ≤ r1.toInt ∧ r1.toInt ≤ 1 := hr1
  refine lv_if_ne (tgt := 10) hx hb dX10_rest_4 (by decide) (fun c2 => ?_) (fun c2 => ?_)
  · have zc2 := neK rfl (show (0 : Int32).toInt = 0 by decide) c2
    refine lv_aload_n hx hb dX10_rest_10 rfl (lv_at hl 0 rfl) ?_
    refine getF (v := .ref (qm 7)) hx hb ht hown hK hP iTX10 0 7 rfl rfl (by decide) fl_RX10_52 rfl dX10_rest_11 ?_
    refine lv_aload_n hx hb dX10_rest_14 rfl (lv_at hl 0 rfl) ?_
    refine getF (v := .ref (qm 6)) hx hb ht hown hK hP iTX10 0 6 rfl rfl (by decide) fl_RX10_48 rfl dX10_rest_15 ?_
    refine behDw (wr := ((uX10 cs adm qm Fm Am Bm Dm) ++ ((uX8 cs (qm 3) qms Fms Ams Bms Dms) ++ (uX3 cs (qms 0) qmh Fmh Amh Bmh Dmh)))) (runVD (As := [.ref (qm 6)]) (rest := []) ⟨hx, hb, hml, hown, ht⟩ (sX5_copyFrom l G cs (qm 7) qmw Fmw Amw Bmw Dmw hImw (qm 6) qmn Fmn Amn Bmn Dmn hImn ) okV_RX10_179 ⟨by decide, by decide⟩ hK hP hD [16, 17, 18, 13, 14, 15] rfl (by decide) rfl 16 rfl rfl hl.1 rfl (Nat.le_of_ble_eq_true rfl) dX10_rest_18 ⟨(Nat.le_of_ble_eq_true rfl), (Nat.le_of_ble_eq_true rfl)⟩) hP hD hS hA [16, 17, 18, 13, 14, 15] [0, 1, 2, 3, 4, 5, 6, 7, 8, 9, 10, 11, 12] rfl rfl (by decide) (by decide) (fun u H locs hu hP hD hS => ?_)
    obtain ⟨x3, x4, g5⟩ := u
    have hr6 := hu
    have hP : va_P G vwCl ((uX10 cs adm qm Fm Am Bm Dm) ++ ((uX8 cs (qm 3) qms Fms Ams Bms Dms) ++ ((uX3 cs (qms 0) qmh Fmh Amh Bmh Dmh) ++ ((uX5 cs (qm 6) qmn Fmn Amn Bmn Dmn) ++ (uX5 cs (qm 7) qmw (upv 3 x4 (upv 2 x3 Fmw)) (vB 0 g5 Amw) Bmw Dmw))))) H := hP.sub [0, 1, 2, 3, 4, 5, 6, 7, 8, 9, 10, 11, 12, 16, 17, 18, 13, 14, 15] rfl
    have hD : va_D A0 ((uX10 cs adm qm Fm Am Bm Dm) ++ ((uX8 cs (qm 3) qms Fms Ams Bms Dms) ++ ((uX3 cs (qms 0) qmh Fmh Amh Bmh Dmh) ++ ((uX5 cs (qm 6) qmn Fmn Amn Bmn Dmn) ++ (uX5 cs (qm 7) qmw (upv 3 x4 (upv 2 x3 Fmw)) (vB 0 g5 Amw) Bmw Dmw))))) := hD.sub [0, 1, 2, 3, 4, 5, 6, 7, 8, 9, 10, 11, 12, 16, 17, 18, 13, 14, 15] (by decide) rfl
    refine lv_iconst (v := 0) hx hb dX10_rest_21 (by decide) ?_
    refine lv_istore_n (lv' := [(1, .int 0), (0, .ref adm)]) hx hb dX10_rest_22 rfl hl (by decide) rfl (fun ls hl => ?_)
    have B23 : ∀ (n : Nat) (x23_1 : Int32) (amw0_23 : (Nat → Int32)) (amw1_23 : (Nat → Int32)) (H : Heap) (locs : List Loc) (ls : Array Slot), (201 - x23_1.toInt).toNat < n → (0 : Int) ≤ x23_1.toInt ∧ x23_1.toInt ≤ 201 → va_P G vwCl ((uX10 cs adm qm Fm Am Bm Dm) ++ ((uX8 cs (qm 3) qms Fms Ams Bms Dms) ++ ((uX3 cs (qms 0) qmh Fmh Amh Bmh Dmh) ++ ((uX5 cs (qm 6) qmn Fmn Amn Bmn Dmn) ++ (uX5 cs (qm 7) qmw (upv 3 x4 (upv 2 x3 Fmw)) (vB 1 amw1_23 (vB 0 amw0_23 Amw)) Bmw Dmw))))) H → va_D A0 ((uX10 cs adm qm Fm Am Bm Dm) ++ ((uX8 cs (qm 3) qms Fms Ams Bms Dms) ++ ((uX3 cs (qms 0) qmh Fmh Amh Bmh Dmh) ++ ((uX5 cs (qm 6) qmn Fmn Amn Bmn Dmn) ++ (uX5 cs (qm 7) qmw (upv 3 x4 (upv 2 x3 Fmw)) (vB 1 amw1_23 (vB 0 amw0_23 Amw)) Bmw Dmw))))) → va_S A0 s.heap H locs → lv_has ls 2 [(0, .ref adm), (1, .int x23_1)] → W p l e (rmk 3 0 0) s m args below meth c H locs 0 0 (MQ below ((QDi G (fun (r : Int32) (u : Int32 × Int32 × (Nat → Int32) × (Nat → Int32)) => True) (fun u : Int32 × Int32 × (Nat → Int32) × (Nat → Int32) => ((uX10 cs adm qm Fm Am Bm Dm) ++ ((uX8 cs (qm 3) qms Fms Ams Bms Dms) ++ ((uX3 cs (qms 0) qmh Fmh Amh Bmh Dmh) ++ ((uX5 cs (qm 6) qmn Fmn Amn Bmn Dmn) ++ (wX5 cs (qm 7) qmw (upd (upd Fmw 2 u.1) 3 u.2.1) (vA (vA Amw 0 u.2.2.1) 1 u.2.2.2) Bmw Dmw))))))) A0) args s 0 0 A0) (F0 m 23 ls []) := by
      intro n
      induction n with
      | zero => intro x23_1 amw0_23 amw1_23 H locs ls hmeas hx23_1 hP hD hS hl; exact absurd hmeas (Nat.not_lt_zero _)
      | succ n ih23 =>
        intro x23_1 amw0_23 amw1_23 H locs ls hmeas hx23_1 hP hD hS hl
        refine lv_iload_n hx hb dX10_rest_23 rfl (lv_at hl 1 rfl) ?_
        refine lv_sipush (v := 200) hx hb dX10_rest_24 (by decide) ?_
        refine lv_icmp_gt (tgt := 56) hx hb dX10_rest_27 (by decide) (fun c13001 => ?_) (fun c13001 => ?_)
        · have zc13001 := ltK (show (200 : Int32).toInt = 200 by decide) rfl c13001
          refine lv_iconst (v := (-1)) hx hb dX10_rest_56 (by decide) ?_
          exact retDi (x3, x4, amw0_23, amw1_23) hx hb hr hlk hP hD hS dX10_rest_57 (trivial) (Nat.le_of_ble_eq_true rfl) (Nat.le_of_ble_eq_true rfl)
        · have zc13001 := nltK (show (200 : Int32).toInt = 200 by decide) rfl c13001
          refine lv_aload_n hx hb dX10_rest_30 rfl (lv_at hl 0 rfl) ?_
          refine getF (v := .ref (qm 7)) hx hb ht hown hK hP iTX10 0 7 rfl rfl (by decide) fl_RX10_52 rfl dX10_rest_31 ?_
          refine lv_aload_n hx hb dX10_rest_34 rfl (lv_at hl 0 rfl) ?_
          refine getF (v := .ref (qm 3)) hx hb ht hown hK hP iTX10 0 3 rfl rfl (by decide) fl_RX10_31 rfl dX10_rest_35 ?_
          refine getF (v := .ref (qms 0)) hx hb ht hown hK hP iTX8 3 0 rfl rfl (by decide) fl_RX10_98 rfl dX10_rest_38 ?_
          refine lv_iconst (v := (-1)) hx hb dX10_rest_41 (by decide) ?_
          refine behDi (wr := ((uX10 cs adm qm Fm Am Bm Dm) ++ ((uX8 cs (qm 3) qms Fms Ams Bms Dms) ++ (uX5 cs (qm 6) qmn Fmn Amn Bmn Dmn)))) (runVD (As := [.ref (qms 0), .int (-1)]) (rest := []) ⟨hx, hb, hml, hown, ht⟩ (sX5_pass l G cs (qm 7) qmw (upv 3 x4 (upv 2 x3 Fmw)) (vB 1 amw1_23 (vB 0 amw0_23 Amw)) Bmw Dmw (IB_av (k := 1) (IB_av (k := 0) (IB_pv (k := 3) (IB_pv (k := 2) hImw (i32b _)) (i32b _)) (AJ_full _)) (AJ_full _)) (qms 0) qmh Fmh Amh Bmh Dmh hImh (-1) ) okV_RX10_182 ⟨by decide, by decide⟩ hK hP hD [16, 17, 18, 5, 6, 7, 8, 9, 10, 11, 12] rfl (by decide) rfl 16 rfl rfl hl.1 rfl (Nat.le_of_ble_eq_true rfl) dX10_rest_42 ⟨(Nat.le_of_ble_eq_true rfl), (Nat.le_of_ble_eq_true rfl)⟩) hP hD hS hA [16, 17, 18, 5, 6, 7, 8, 9, 10, 11, 12] [0, 1, 2, 3, 4, 13, 14, 15] rfl rfl (by decide) (by decide) (fun r9 u H locs hu hP hD hS => ?_)
          obtain ⟨g13002, g13003⟩ := u
          have kk13005 : (-1 : Int32).toInt = (-1) := by decide
          obtain ⟨r13004, rfl⟩ : ∃ z, z = r9 := ⟨_, rfl⟩
          have hr13004 := hu
          have hr13004 : (0 : Int) ≤ r13004.toInt ∧ r13004.toInt ≤ 1 := hr13004
          have hP : va_P G vwCl ((uX10 cs adm qm Fm Am Bm Dm) ++ ((uX8 cs (qm 3) qms Fms Ams Bms Dms) ++ ((uX3 cs (qms 0) qmh Fmh Amh Bmh Dmh) ++ ((uX5 cs (qm 6) qmn Fmn Amn Bmn Dmn) ++ (uX5 cs (qm 7) qmw (upv 3 x4 (upv 2 x3 Fmw)) (vB 1 g13003 (vB 0 g13002 Amw)) Bmw Dmw))))) H := hP.sub [0, 1, 2, 3, 4, 11, 12, 13, 14, 15, 16, 17, 18, 5, 6, 7, 8, 9, 10] rfl
          have hD : va_D A0 ((uX10 cs adm qm Fm Am Bm Dm) ++ ((uX8 cs (qm 3) qms Fms Ams Bms Dms) ++ ((uX3 cs (qms 0) qmh Fmh Amh Bmh Dmh) ++ ((uX5 cs (qm 6) qmn Fmn Amn Bmn Dmn) ++ (uX5 cs (qm 7) qmw (upv 3 x4 (upv 2 x3 Fmw)) (vB 1 g13003 (vB 0 g13002 Amw)) Bmw Dmw))))) := hD.sub [0, 1, 2, 3, 4, 11, 12, 13, 14, 15, 16, 17, 18, 5, 6, 7, 8, 9, 10] (by decide) rfl
          refine lv_if_ne (tgt := 50) hx hb dX10_rest_45 (by decide) (fun c13006 => ?_) (fun c13006 => ?_)
          · have zc13006 := neK rfl (show (0 : Int32).toInt = 0 by decide) c13006
            obtain ⟨v13007, ev13007⟩ : ∃ z : Int32, z = x23_1 + 1 := ⟨_, rfl⟩
            have tv13007 : v13007.toInt = x23_1.toInt + 1 := by rw [ev13007]; exact addT rfl (by decide) (by omega)
            refine lv_iinc (v := v13007) (lv' := [(1, .int v13007), (0, .ref adm)]) hx hb dX10_rest_50 hl (k := 1) rfl (by rw [ev13007]; rfl) (by decide) rfl (fun ls hl => ?_)
            refine lv_goto (tgt := 23) hx hb dX10_rest_53 (by decide) ?_
            exact ih23 v13007 g13002 g13003 H locs ls (by omega) (by omega) hP hD hS (lv_sub hl [1, 0] rfl)
          · have zc13006 := eqK rfl (show (0 : Int32).toInt = 0 by decide) c13006
            refine lv_iload_n hx hb dX10_rest_48 rfl (lv_at hl 1 rfl) ?_
            exact retDi (x3, x4, g13002, g13003) hx hb hr hlk hP hD hS dX10_rest_49 (trivial) (Nat.le_of_ble_eq_true rfl) (Nat.le_of_ble_eq_true rfl)
    exact B23 _ 0 g5 (Amw 1) H locs ls (Nat.lt_succ_self _) (by decide) hP hD hS (lv_sub hl [1, 0] rfl)
  · have zc2 := eqK rfl (show (0 : Int32).toInt = 0 by decide) c2
    refine lv_bipush (v := (-2)) hx hb dX10_rest_7 (by decide) ?_
    exact retDi ((Fmw 2), (Fmw 3), (Amw 0), (Amw 1)) hx hb hr hlk hP hD hS dX10_rest_9 (trivial) (Nat.le_of_ble_eq_true rfl) (Nat.le_of_ble_eq_true rfl)

set_option maxRecDepth 100000 in
set_option maxHeartbeats 16000000 in
theorem sX10_trumpet (l : Launch) (G : va_G) (cs : Nat → ClassId) (adm : Nat) (qm : Nat → Nat) (Fm : Nat → Int32) (Am : Nat → Nat → Int32) (Bm : Nat → Nat → Int64) (Dm : Int64) (hIm : IX10 Fm Am) (qms : Nat → Nat) (Fms : Nat → Int32) (Ams : Nat → Nat → Int32) (Bms : Nat → Nat → Int64) (Dms : Int64) (hIms : IX8 Fms Ams) (qmh : Nat → Nat) (Fmh : Nat → Int32) (Amh : Nat → Nat → Int32) (Bmh : Nat → Nat → Int64) (Dmh : Int64) (hImh : IX3 Fmh Amh) (qmn : Nat → Nat) (Fmn : Nat → Int32) (Amn : Nat → Nat → Int32) (Bmn : Nat → Nat → Int64) (Dmn : Int64) (hImn : IX5 Fmn Amn) : ∀ sz : Nat, Met l yX10_trumpet (wk yX10_trumpet cX10_trumpet 1 (some .int)) (rmk 4 0 0) (PreP G (TY cs) [.ref adm] ((uX10 cs adm qm Fm Am Bm Dm) ++ ((uX8 cs (qm 3) qms Fms Ams Bms Dms) ++ ((uX3 cs (qms 0) qmh Fmh Amh Bmh Dmh) ++ (uX5 cs (qm 6) qmn Fmn Amn Bmn Dmn)))) sz) (QRi (fun r : Int32 => True) sz) 0 0 (fun q => sz ≤ q) := by
  refine mkP (Qc := QRi (fun r : Int32 => True)) (by decide) (by simp [lg_sl, Value.category]) ?_
  intro p e s m args below meth c ls hx hb hml hr hlk hown ht hK hP hS hl
  have hl : lv_has ls 1 [(0, .ref adm)] := hl
  refine lv_aload_n hx hb dX10_trumpet_0 rfl (lv_at hl 0 rfl) ?_
  refine behR (runVP (As := []) (rest := []) ⟨hx, hb, hml, hown, ht⟩ (sX10_hasHouse l G cs adm qm Fm Am Bm Dm hIm qms Fms Ams Bms Dms hIms qmh Fmh Amh Bmh Dmh hImh ) okV_RX10_152 ⟨by decide, by decide⟩ hK hP [0, 1, 2, 3, 4, 5, 6, 7, 8, 9, 10, 11, 12] rfl 0 rfl rfl hl.1 rfl (Nat.le_of_ble_eq_true rfl) dX10_trumpet_1 ⟨by decide, by decide⟩) hP hS (fun _ h => h) (fun r1 H locs hr1 hP hS => ?_)
  have hr1 : (0 : Int) ≤ r1.toInt ∧ r1.toInt ≤ 1 := hr1
  refine lv_if_eq (tgt := 24) hx hb dX10_trumpet_4 (by decide) (fun c2 => ?_) (fun c2 => ?_)
  · have zc2 := eqK rfl (show (0 : Int32).toInt = 0 by decide) c2
    refine lv_bipush (v := (-2)) hx hb dX10_trumpet_24 (by decide) ?_
    exact retRi hx hb hr hlk hS dX10_trumpet_26 (trivial)
  · have zc2 := neK rfl (show (0 : Int32).toInt = 0 by decide) c2
    refine lv_aload_n hx hb dX10_trumpet_7 rfl (lv_at hl 0 rfl) ?_
    refine lv_aload_n hx hb dX10_trumpet_8 rfl (lv_at hl 0 rfl) ?_
    refine getF (v := .ref (qm 3)) hx hb ht hown hK hP iTX10 0 3 rfl rfl (by decide) fl_RX10_31 rfl dX10_trumpet_9 ?_
    refine getF (v := .ref (qms 0)) hx hb ht hown hK hP iTX8 3 0 rfl rfl (by decide) fl_RX10_98 rfl dX10_trumpet_12 ?_
    refine behR (runVP (As := []) (rest := [.ref adm]) ⟨hx, hb, hml, hown, ht⟩ (sX3_allRooms l G cs (qms 0) qmh Fmh Amh Bmh Dmh hImh ) okV_RX10_238 ⟨by decide, by decide⟩ hK hP [5, 6, 7, 8, 9, 10, 11, 12] rfl 5 rfl rfl hl.1 rfl (Nat.le_of_ble_eq_true rfl) dX10_trumpet_15 ⟨by decide, by decide⟩) hP hS (fun _ h => h) (fun r3 H locs hr3 hP hS => ?_)
    have hr3 : (0 : Int) ≤ r3.toInt ∧ r3.toInt ≤ 127 := hr3
    refine behR (runVP (As := [.int r3]) (rest := []) ⟨hx, hb, hml, hown, ht⟩ (sX10_foundAtOnce l G cs adm qm Fm Am Bm Dm hIm qms Fms Ams Bms Dms hIms qmh Fmh Amh Bmh Dmh hImh qmn Fmn Amn Bmn Dmn hImn r3 ) okV_RX10_241 ⟨by decide, by decide⟩ hK hP [0, 1, 2, 3, 4, 5, 6, 7, 8, 9, 10, 11, 12, 13, 14, 15] rfl 0 rfl rfl hl.1 rfl (Nat.le_of_ble_eq_true rfl) dX10_trumpet_18 ⟨by decide, by decide⟩) hP hS (fun _ h => h) (fun r4 H locs hr4 hP hS => ?_)
    refine lv_goto (tgt := 26) hx hb dX10_trumpet_21 (by decide) ?_
    exact retRi hx hb hr hlk hS dX10_trumpet_26 (trivial)

set_option maxRecDepth 100000 in
set_option maxHeartbeats 16000000 in
theorem sX10_quiet (l : Launch) (G : va_G) (cs : Nat → ClassId) (adm : Nat) (qm : Nat → Nat) (Fm : Nat → Int32) (Am : Nat → Nat → Int32) (Bm : Nat → Nat → Int64) (Dm : Int64) (hIm : IX10 Fm Am) (qms : Nat → Nat) (Fms : Nat → Int32) (Ams : Nat → Nat → Int32) (Bms : Nat → Nat → Int64) (Dms : Int64) (hIms : IX8 Fms Ams) (qmh : Nat → Nat) (Fmh : Nat → Int32) (Amh : Nat → Nat → Int32) (Bmh : Nat → Nat → Int64) (Dmh : Int64) (hImh : IX3 Fmh Amh) (qmn : Nat → Nat) (Fmn : Nat → Int32) (Amn : Nat → Nat → Int32) (Bmn : Nat → Nat → Int64) (Dmn : Int64) (hImn : IX5 Fmn Amn) (a1 : Int32) : ∀ sz : Nat, Met l yX10_quiet (wk yX10_quiet cX10_quiet 3 (some .int)) (rmk 5 0 0) (PreP G (TY cs) [.ref adm, .int a1] ((uX10 cs adm qm Fm Am Bm Dm) ++ ((uX8 cs (qm 3) qms Fms Ams Bms Dms) ++ ((uX3 cs (qms 0) qmh Fmh Amh Bmh Dmh) ++ (uX5 cs (qm 6) qmn Fmn Amn Bmn Dmn)))) sz) (QRi (fun r : Int32 => True) sz) 0 0 (fun q => sz ≤ q) := by
  refine mkP (Qc := QRi (fun r : Int32 => True)) (by decide) (by simp [lg_sl, Value.category]) ?_
  intro p e s m args below meth c ls hx hb hml hr hlk hown ht hK hP hS hl
  have hl : lv_has ls 3 [(0, .ref adm), (1, .int a1)] := hl
  refine lv_aload_n hx hb dX10_quiet_0 rfl (lv_at hl 0 rfl) ?_
  refine behR (runVP (As := []) (rest := []) ⟨hx, hb, hml, hown, ht⟩ (sX10_hasHouse l G cs adm qm Fm Am Bm Dm hIm qms Fms Ams Bms Dms hIms qmh Fmh Amh Bmh Dmh hImh ) okV_RX10_152 ⟨by decide, by decide⟩ hK hP [0, 1, 2, 3, 4, 5, 6, 7, 8, 9, 10, 11, 12] rfl 0 rfl rfl hl.1 rfl (Nat.le_of_ble_eq_true rfl) dX10_quiet_1 ⟨by decide, by decide⟩) hP hS (fun _ h => h) (fun r1 H locs hr1 hP hS => ?_)
  have hr1 : (0 : Int) ≤ r1.toInt ∧ r1.toInt ≤ 1 := hr1
  refine lv_if_eq (tgt := 15) hx hb dX10_quiet_4 (by decide) (fun c2 => ?_) (fun c2 => ?_)
  · have zc2 := eqK rfl (show (0 : Int32).toInt = 0 by decide) c2
    refine lv_bipush (v := (-2)) hx hb dX10_quiet_15 (by decide) ?_
    exact retRi hx hb hr hlk hS dX10_quiet_17 (trivial)
  · have zc2 := neK rfl (show (0 : Int32).toInt = 0 by decide) c2
    refine lv_aload_n hx hb dX10_quiet_7 rfl (lv_at hl 0 rfl) ?_
    refine lv_iload_n hx hb dX10_quiet_8 rfl (lv_at hl 1 rfl) ?_
    refine behR (runVP (As := [.int a1]) (rest := []) ⟨hx, hb, hml, hown, ht⟩ (sX10_isPartOfMillion l G cs adm qm Fm Am Bm Dm hIm a1 ) okV_RX10_205 ⟨by decide, by decide⟩ hK hP [0, 1, 2] rfl 0 rfl rfl hl.1 rfl (Nat.le_of_ble_eq_true rfl) dX10_quiet_9 ⟨by decide, by decide⟩) hP hS (fun _ h => h) (fun r3 H locs hr3 hP hS => ?_)
    have hr3 : (r3.toInt = 1 ∧ 0 ≤ a1.toInt ∧ a1.toInt ≤ 1000000) ∨ (r3.toInt = 0 ∧ (a1.toInt < 0 ∨ 1000000 < a1.toInt)) := hr3
    refine lv_if_ne (tgt := 18) hx hb dX10_quiet_12 (by decide) (fun c4 => ?_) (fun c4 => ?_)
    · have zc4 := neK rfl (show (0 : Int32).toInt = 0 by decide) c4
      refine lv_aload_n hx hb dX10_quiet_18 rfl (lv_at hl 0 rfl) ?_
      refine lv_iload_n hx hb dX10_quiet_19 rfl (lv_at hl 1 rfl) ?_
      refine behR (runVP (As := [.int a1]) (rest := []) ⟨hx, hb, hml, hown, ht⟩ (sX10_quietestSet l G cs adm qm Fm Am Bm Dm hIm qms Fms Ams Bms Dms hIms qmh Fmh Amh Bmh Dmh hImh qmn Fmn Amn Bmn Dmn hImn a1 ) okV_RX10_244 ⟨by decide, by decide⟩ hK hP [0, 1, 2, 3, 4, 5, 6, 7, 8, 9, 10, 11, 12, 13, 14, 15] rfl 0 rfl rfl hl.1 rfl (Nat.le_of_ble_eq_true rfl) dX10_quiet_20 ⟨by decide, by decide⟩) hP hS (fun _ h => h) (fun r5 H locs hr5 hP hS => ?_)
      refine lv_istore_n (lv' := [(2, .int r5), (0, .ref adm), (1, .int a1)]) hx hb dX10_quiet_23 rfl hl (by decide) rfl (fun ls hl => ?_)
      refine lv_iload_n hx hb dX10_quiet_24 rfl (lv_at hl 0 rfl) ?_
      refine lv_iconst (v := (-1)) hx hb dX10_quiet_25 (by decide) ?_
      refine lv_icmp_ne (tgt := 33) hx hb dX10_quiet_26 (by decide) (fun c6 => ?_) (fun c6 => ?_)
      · have zc6 := neK rfl (show (-1 : Int32).toInt = (-1) by decide) c6
        refine lv_aload_n hx hb dX10_quiet_33 rfl (lv_at hl 1 rfl) ?_
        refine lv_iload_n hx hb dX10_quiet_34 rfl (lv_at hl 0 rfl) ?_
        refine behR (runVP (As := [.int r5]) (rest := []) ⟨hx, hb, hml, hown, ht⟩ (sX10_peopleOf l G cs adm qm Fm Am Bm Dm hIm qms Fms Ams Bms Dms hIms qmh Fmh Amh Bmh Dmh hImh r5 ) okV_RX10_247 ⟨by decide, by decide⟩ hK hP [0, 1, 2, 3, 4, 5, 6, 7, 8, 9, 10, 11, 12] rfl 0 rfl rfl hl.1 rfl (Nat.le_of_ble_eq_true rfl) dX10_quiet_35 ⟨by decide, by decide⟩) hP hS (fun _ h => h) (fun r7 H locs hr7 hP hS => ?_)
        exact retRi hx hb hr hlk hS dX10_quiet_38 (trivial)
      · have zc6 := eqK rfl (show (-1 : Int32).toInt = (-1) by decide) c6
        refine lv_iconst (v := (-1)) hx hb dX10_quiet_29 (by decide) ?_
        refine lv_goto (tgt := 38) hx hb dX10_quiet_30 (by decide) ?_
        exact retRi hx hb hr hlk hS dX10_quiet_38 (trivial)
    · have zc4 := eqK rfl (show (0 : Int32).toInt = 0 by decide) c4
      refine lv_bipush (v := (-2)) hx hb dX10_quiet_15 (by decide) ?_
      exact retRi hx hb hr hlk hS dX10_quiet_17 (trivial)

set_option maxRecDepth 100000 in
set_option maxHeartbeats 16000000 in
theorem sX10_quietly (l : Launch) (G : va_G) (cs : Nat → ClassId) (adm : Nat) (qm : Nat → Nat) (Fm : Nat → Int32) (Am : Nat → Nat → Int32) (Bm : Nat → Nat → Int64) (Dm : Int64) (hIm : IX10 Fm Am) (qms : Nat → Nat) (Fms : Nat → Int32) (Ams : Nat → Nat → Int32) (Bms : Nat → Nat → Int64) (Dms : Int64) (hIms : IX8 Fms Ams) (qmh : Nat → Nat) (Fmh : Nat → Int32) (Amh : Nat → Nat → Int32) (Bmh : Nat → Nat → Int64) (Dmh : Int64) (hImh : IX3 Fmh Amh) (qmn : Nat → Nat) (Fmn : Nat → Int32) (Amn : Nat → Nat → Int32) (Bmn : Nat → Nat → Int64) (Dmn : Int64) (hImn : IX5 Fmn Amn) (a1 : Int32) : ∀ sz : Nat, Met l yX10_quietly (wk yX10_quietly cX10_quietly 2 (some .int)) (rmk 5 0 0) (PreP G (TY cs) [.ref adm, .int a1] ((uX10 cs adm qm Fm Am Bm Dm) ++ ((uX8 cs (qm 3) qms Fms Ams Bms Dms) ++ ((uX3 cs (qms 0) qmh Fmh Amh Bmh Dmh) ++ (uX5 cs (qm 6) qmn Fmn Amn Bmn Dmn)))) sz) (QRi (fun r : Int32 => True) sz) 0 0 (fun q => sz ≤ q) := by
  refine mkP (Qc := QRi (fun r : Int32 => True)) (by decide) (by simp [lg_sl, Value.category]) ?_
  intro p e s m args below meth c ls hx hb hml hr hlk hown ht hK hP hS hl
  have hl : lv_has ls 2 [(0, .ref adm), (1, .int a1)] := hl
  refine lv_aload_n hx hb dX10_quietly_0 rfl (lv_at hl 0 rfl) ?_
  refine behR (runVP (As := []) (rest := []) ⟨hx, hb, hml, hown, ht⟩ (sX10_hasHouse l G cs adm qm Fm Am Bm Dm hIm qms Fms Ams Bms Dms hIms qmh Fmh Amh Bmh Dmh hImh ) okV_RX10_152 ⟨by decide, by decide⟩ hK hP [0, 1, 2, 3, 4, 5, 6, 7, 8, 9, 10, 11, 12] rfl 0 rfl rfl hl.1 rfl (Nat.le_of_ble_eq_true rfl) dX10_quietly_1 ⟨by decide, by decide⟩) hP hS (fun _ h => h) (fun r1 H locs hr1 hP hS => ?_)
  have hr1 : (0 : Int) ≤ r1.toInt ∧ r1.toInt ≤ 1 := hr1
  refine lv_if_eq (tgt := 15) hx hb dX10_quietly_4 (by decide) (fun c2 => ?_) (fun c2 => ?_)
  · have zc2 := eqK rfl (show (0 : Int32).toInt = 0 by decide) c2
    refine lv_bipush (v := (-2)) hx hb dX10_quietly_15 (by decide) ?_
    exact retRi hx hb hr hlk hS dX10_quietly_17 (trivial)
  · have zc2 := neK rfl (show (0 : Int32).toInt = 0 by decide) c2
    refine lv_aload_n hx hb dX10_quietly_7 rfl (lv_at hl 0 rfl) ?_
    refine lv_iload_n hx hb dX10_quietly_8 rfl (lv_at hl 1 rfl) ?_
    refine behR (runVP (As := [.int a1]) (rest := []) ⟨hx, hb, hml, hown, ht⟩ (sX10_isPartOfMillion l G cs adm qm Fm Am Bm Dm hIm a1 ) okV_RX10_205 ⟨by decide, by decide⟩ hK hP [0, 1, 2] rfl 0 rfl rfl hl.1 rfl (Nat.le_of_ble_eq_true rfl) dX10_quietly_9 ⟨by decide, by decide⟩) hP hS (fun _ h => h) (fun r3 H locs hr3 hP hS => ?_)
    have hr3 : (r3.toInt = 1 ∧ 0 ≤ a1.toInt ∧ a1.toInt ≤ 1000000) ∨ (r3.toInt = 0 ∧ (a1.toInt < 0 ∨ 1000000 < a1.toInt)) := hr3
    refine lv_if_ne (tgt := 18) hx hb dX10_quietly_12 (by decide) (fun c4 => ?_) (fun c4 => ?_)
    · have zc4 := neK rfl (show (0 : Int32).toInt = 0 by decide) c4
      refine lv_aload_n hx hb dX10_quietly_18 rfl (lv_at hl 0 rfl) ?_
      refine lv_iload_n hx hb dX10_quietly_19 rfl (lv_at hl 1 rfl) ?_
      refine behR (runVP (As := [.int a1]) (rest := []) ⟨hx, hb, hml, hown, ht⟩ (sX10_quietestSet l G cs adm qm Fm Am Bm Dm hIm qms Fms Ams Bms Dms hIms qmh Fmh Amh Bmh Dmh hImh qmn Fmn Amn Bmn Dmn hImn a1 ) okV_RX10_244 ⟨by decide, by decide⟩ hK hP [0, 1, 2, 3, 4, 5, 6, 7, 8, 9, 10, 11, 12, 13, 14, 15] rfl 0 rfl rfl hl.1 rfl (Nat.le_of_ble_eq_true rfl) dX10_quietly_20 ⟨by decide, by decide⟩) hP hS (fun _ h => h) (fun r5 H locs hr5 hP hS => ?_)
      exact retRi hx hb hr hlk hS dX10_quietly_23 (trivial)
    · have zc4 := eqK rfl (show (0 : Int32).toInt = 0 by decide) c4
      refine lv_bipush (v := (-2)) hx hb dX10_quietly_15 (by decide) ?_
      exact retRi hx hb hr hlk hS dX10_quietly_17 (trivial)

set_option maxRecDepth 100000 in
set_option maxHeartbeats 16000000 in
theorem sX10_card (l : Launch) (G : va_G) (cs : Nat → ClassId) (adm : Nat) (qm : Nat → Nat) (Fm : Nat → Int32) (Am : Nat → Nat → Int32) (Bm : Nat → Nat → Int64) (Dm : Int64) (hIm : IX10 Fm Am) (qms : Nat → Nat) (Fms : Nat → Int32) (Ams : Nat → Nat → Int32) (Bms : Nat → Nat → Int64) (Dms : Int64) (hIms : IX8 Fms Ams) (qmh : Nat → Nat) (Fmh : Nat → Int32) (Amh : Nat → Nat → Int32) (Bmh : Nat → Nat → Int64) (Dmh : Int64) (hImh : IX3 Fmh Amh) (qmn : Nat → Nat) (Fmn : Nat → Int32) (Amn : Nat → Nat → Int32) (Bmn : Nat → Nat → Int64) (Dmn : Int64) (hImn : IX5 Fmn Amn) (qmw : Nat → Nat) (Fmw : Nat → Int32) (Amw : Nat → Nat → Int32) (Bmw : Nat → Nat → Int64) (Dmw : Int64) (hImw : IX5 Fmw Amw) (a1 : Int32) (a2 : Int32) : ∀ sz : Nat, Met l yX10_card (wk yX10_card cX10_card 3 (some .int)) (rmk 4 0 0) (PreD G (TY cs) [.ref adm, .int a1, .int a2] ((uX10 cs adm qm Fm Am Bm Dm) ++ ((uX8 cs (qm 3) qms Fms Ams Bms Dms) ++ ((uX3 cs (qms 0) qmh Fmh Amh Bmh Dmh) ++ ((uX5 cs (qm 6) qmn Fmn Amn Bmn Dmn) ++ (uX5 cs (qm 7) qmw Fmw Amw Bmw Dmw))))) sz) ((QDi G (fun (r : Int32) (u : Int32 × Int32 × (Nat → Int32) × (Nat → Int32)) => True) (fun u : Int32 × Int32 × (Nat → Int32) × (Nat → Int32) => ((uX10 cs adm qm Fm Am Bm Dm) ++ ((uX8 cs (qm 3) qms Fms Ams Bms Dms) ++ ((uX3 cs (qms 0) qmh Fmh Amh Bmh Dmh) ++ ((uX5 cs (qm 6) qmn Fmn Amn Bmn Dmn) ++ (wX5 cs (qm 7) qmw (upd (upd Fmw 2 u.1) 3 u.2.1) (vA (vA Amw 0 u.2.2.1) 1 u.2.2.2) Bmw Dmw))))))) (va_A ((uX10 cs adm qm Fm Am Bm Dm) ++ ((uX8 cs (qm 3) qms Fms Ams Bms Dms) ++ ((uX3 cs (qms 0) qmh Fmh Amh Bmh Dmh) ++ ((uX5 cs (qm 6) qmn Fmn Amn Bmn Dmn) ++ (uX5 cs (qm 7) qmw Fmw Amw Bmw Dmw))))) sz)) 0 0 (va_A ((uX10 cs adm qm Fm Am Bm Dm) ++ ((uX8 cs (qm 3) qms Fms Ams Bms Dms) ++ ((uX3 cs (qms 0) qmh Fmh Amh Bmh Dmh) ++ ((uX5 cs (qm 6) qmn Fmn Amn Bmn Dmn) ++ (uX5 cs (qm 7) qmw Fmw Amw Bmw Dmw))))) sz) := by
  refine mkD (Qc := (QDi G (fun (r : Int32) (u : Int32 × Int32 × (Nat → Int32) × (Nat → Int32)) => True) (fun u : Int32 × Int32 × (Nat → Int32) × (Nat → Int32) => ((uX10 cs adm qm Fm Am Bm Dm) ++ ((uX8 cs (qm 3) qms Fms Ams Bms Dms) ++ ((uX3 cs (qms 0) qmh Fmh Amh Bmh Dmh) ++ ((uX5 cs (qm 6) qmn Fmn Amn Bmn Dmn) ++ (wX5 cs (qm 7) qmw (upd (upd Fmw 2 u.1) 3 u.2.1) (vA (vA Amw 0 u.2.2.1) 1 u.2.2.2) Bmw Dmw)))))))) (by decide) (by simp [lg_sl, Value.category]) ?_
  intro p e s m args below meth c ls A0 hx hb hml hr hlk hown hmn ht hK hP hD hS hA hl
  have hl : lv_has ls 3 [(0, .ref adm), (1, .int a1), (2, .int a2)] := hl
  refine lv_aload_n hx hb dX10_card_0 rfl (lv_at hl 0 rfl) ?_
  refine lv_iload_n hx hb dX10_card_1 rfl (lv_at hl 1 rfl) ?_
  refine behR (runVP (As := [.int a1]) (rest := []) ⟨hx, hb, hml, hown, ht⟩ (sX10_isRoom l G cs adm qm Fm Am Bm Dm hIm qms Fms Ams Bms Dms hIms qmh Fmh Amh Bmh Dmh hImh a1 ) okV_RX10_120 ⟨by decide, by decide⟩ hK hP [0, 1, 2, 3, 4, 5, 6, 7, 8, 9, 10, 11, 12] rfl 0 rfl rfl hl.1 rfl (Nat.le_of_ble_eq_true rfl) dX10_card_2 ⟨by decide, by decide⟩) hP hS hA (fun r1 H locs hr1 hP hS => ?_)
  have hr1 : (r1.toInt = 1 ∧ 0 ≤ a1.toInt ∧ a1.toInt < (Fmh 5).toInt ∧ a1.toInt ≤ 6) ∨ r1.toInt = 0 := hr1
  refine lv_if_eq (tgt := 19) hx hb dX10_card_5 (by decide) (fun c2 => ?_) (fun c2 => ?_)
  · have zc2 := eqK rfl (show (0 : Int32).toInt = 0 by decide) c2
    refine lv_bipush (v := (-2)) hx hb dX10_card_19 (by decide) ?_
    exact retDi ((Fmw 2), (Fmw 3), (Amw 0), (Amw 1)) hx hb hr hlk hP hD hS dX10_card_21 (trivial) (Nat.le_of_ble_eq_true rfl) (Nat.le_of_ble_eq_true rfl)
  · have zc2 := neK rfl (show (0 : Int32).toInt = 0 by decide) c2
    refine lv_iload_n hx hb dX10_card_8 rfl (lv_at hl 2 rfl) ?_
    refine lv_if_lt (tgt := 19) hx hb dX10_card_9 (by decide) (fun c3 => ?_) (fun c3 => ?_)
    · have zc3 := ltK rfl (show (0 : Int32).toInt = 0 by decide) c3
      refine lv_bipush (v := (-2)) hx hb dX10_card_19 (by decide) ?_
      exact retDi ((Fmw 2), (Fmw 3), (Amw 0), (Amw 1)) hx hb hr hlk hP hD hS dX10_card_21 (trivial) (Nat.le_of_ble_eq_true rfl) (Nat.le_of_ble_eq_true rfl)
    · have zc3 := nltK rfl (show (0 : Int32).toInt = 0 by decide) c3
      refine lv_iload_n hx hb dX10_card_12 rfl (lv_at hl 2 rfl) ?_
      refine lv_sipush (v := 200) hx hb dX10_card_13 (by decide) ?_
      refine lv_icmp_le (tgt := 22) hx hb dX10_card_16 (by decide) (fun c4 => ?_) (fun c4 => ?_)
      · have zc4 := leK rfl (show (200 : Int32).toInt = 200 by decide) c4
        refine lv_aload_n hx hb dX10_card_22 rfl (lv_at hl 0 rfl) ?_
        refine lv_iload_n hx hb dX10_card_23 rfl (lv_at hl 1 rfl) ?_
        refine lv_iload_n hx hb dX10_card_24 rfl (lv_at hl 2 rfl) ?_
        refine behDi (wr := ([] : va_W)) (runVD (As := [.int a1, .int a2]) (rest := []) ⟨hx, hb, hml, hown, ht⟩ (sX10_comesInto l G cs adm qm Fm Am Bm Dm hIm qms Fms Ams Bms Dms hIms qmh Fmh Amh Bmh Dmh hImh qmn Fmn Amn Bmn Dmn hImn qmw Fmw Amw Bmw Dmw hImw a1 a2 (by omega)) okV_RX10_250 ⟨by decide, by decide⟩ hK hP hD [0, 1, 2, 3, 4, 5, 6, 7, 8, 9, 10, 11, 12, 13, 14, 15, 16, 17, 18] rfl (by decide) rfl 0 rfl rfl hl.1 rfl (Nat.le_of_ble_eq_true rfl) dX10_card_25 ⟨(Nat.le_of_ble_eq_true rfl), (Nat.le_of_ble_eq_true rfl)⟩) hP hD hS hA [0, 1, 2, 3, 4, 5, 6, 7, 8, 9, 10, 11, 12, 13, 14, 15, 16, 17, 18] [] rfl rfl (by decide) (by decide) (fun r9 u H locs hu hP hD hS => ?_)
        obtain ⟨x5, x6, g7, g8⟩ := u
        obtain ⟨r9, rfl⟩ : ∃ z, z = r9 := ⟨_, rfl⟩
        have hr9 := hu
        have hP : va_P G vwCl ((uX10 cs adm qm Fm Am Bm Dm) ++ ((uX8 cs (qm 3) qms Fms Ams Bms Dms) ++ ((uX3 cs (qms 0) qmh Fmh Amh Bmh Dmh) ++ ((uX5 cs (qm 6) qmn Fmn Amn Bmn Dmn) ++ (uX5 cs (qm 7) qmw (upv 3 x6 (upv 2 x5 Fmw)) (vB 1 g8 (vB 0 g7 Amw)) Bmw Dmw))))) H := hP.sub [0, 1, 2, 3, 4, 5, 6, 7, 8, 9, 10, 11, 12, 13, 14, 15, 16, 17, 18] rfl
        have hD : va_D A0 ((uX10 cs adm qm Fm Am Bm Dm) ++ ((uX8 cs (qm 3) qms Fms Ams Bms Dms) ++ ((uX3 cs (qms 0) qmh Fmh Amh Bmh Dmh) ++ ((uX5 cs (qm 6) qmn Fmn Amn Bmn Dmn) ++ (uX5 cs (qm 7) qmw (upv 3 x6 (upv 2 x5 Fmw)) (vB 1 g8 (vB 0 g7 Amw)) Bmw Dmw))))) := hD.sub [0, 1, 2, 3, 4, 5, 6, 7, 8, 9, 10, 11, 12, 13, 14, 15, 16, 17, 18] (by decide) rfl
        exact retDi (x5, x6, g7, g8) hx hb hr hlk hP hD hS dX10_card_28 (trivial) (Nat.le_of_ble_eq_true rfl) (Nat.le_of_ble_eq_true rfl)
      · have zc4 := nleK rfl (show (200 : Int32).toInt = 200 by decide) c4
        refine lv_bipush (v := (-2)) hx hb dX10_card_19 (by decide) ?_
        exact retDi ((Fmw 2), (Fmw 3), (Amw 0), (Amw 1)) hx hb hr hlk hP hD hS dX10_card_21 (trivial) (Nat.le_of_ble_eq_true rfl) (Nat.le_of_ble_eq_true rfl)

set_option maxRecDepth 100000 in
set_option maxHeartbeats 16000000 in
theorem sX10_desk (l : Launch) (G : va_G) (cs : Nat → ClassId) (adm : Nat) (qm : Nat → Nat) (Fm : Nat → Int32) (Am : Nat → Nat → Int32) (Bm : Nat → Nat → Int64) (Dm : Int64) (hIm : IX10 Fm Am) (qms : Nat → Nat) (Fms : Nat → Int32) (Ams : Nat → Nat → Int32) (Bms : Nat → Nat → Int64) (Dms : Int64) (hIms : IX8 Fms Ams) (qmh : Nat → Nat) (Fmh : Nat → Int32) (Amh : Nat → Nat → Int32) (Bmh : Nat → Nat → Int64) (Dmh : Int64) (hImh : IX3 Fmh Amh) (qmn : Nat → Nat) (Fmn : Nat → Int32) (Amn : Nat → Nat → Int32) (Bmn : Nat → Nat → Int64) (Dmn : Int64) (hImn : IX5 Fmn Amn) (qmw : Nat → Nat) (Fmw : Nat → Int32) (Amw : Nat → Nat → Int32) (Bmw : Nat → Nat → Int64) (Dmw : Int64) (hImw : IX5 Fmw Amw) (a1 : Int32) : ∀ sz : Nat, Met l yX10_desk (wk yX10_desk cX10_desk 6 (some .int)) (rmk 4 0 0) (PreD G (TY cs) [.ref adm, .int a1] ((uX10 cs adm qm Fm Am Bm Dm) ++ ((uX8 cs (qm 3) qms Fms Ams Bms Dms) ++ ((uX3 cs (qms 0) qmh Fmh Amh Bmh Dmh) ++ ((uX5 cs (qm 6) qmn Fmn Amn Bmn Dmn) ++ (uX5 cs (qm 7) qmw Fmw Amw Bmw Dmw))))) sz) ((QDi G (fun (r : Int32) (u : Int32 × Int32 × (Nat → Int32) × (Nat → Int32)) => True) (fun u : Int32 × Int32 × (Nat → Int32) × (Nat → Int32) => ((uX10 cs adm qm Fm Am Bm Dm) ++ ((uX8 cs (qm 3) qms Fms Ams Bms Dms) ++ ((uX3 cs (qms 0) qmh Fmh Amh Bmh Dmh) ++ ((uX5 cs (qm 6) qmn Fmn Amn Bmn Dmn) ++ (wX5 cs (qm 7) qmw (upd (upd Fmw 2 u.1) 3 u.2.1) (vA (vA Amw 0 u.2.2.1) 1 u.2.2.2) Bmw Dmw))))))) (va_A ((uX10 cs adm qm Fm Am Bm Dm) ++ ((uX8 cs (qm 3) qms Fms Ams Bms Dms) ++ ((uX3 cs (qms 0) qmh Fmh Amh Bmh Dmh) ++ ((uX5 cs (qm 6) qmn Fmn Amn Bmn Dmn) ++ (uX5 cs (qm 7) qmw Fmw Amw Bmw Dmw))))) sz)) 0 0 (va_A ((uX10 cs adm qm Fm Am Bm Dm) ++ ((uX8 cs (qm 3) qms Fms Ams Bms Dms) ++ ((uX3 cs (qms 0) qmh Fmh Amh Bmh Dmh) ++ ((uX5 cs (qm 6) qmn Fmn Amn Bmn Dmn) ++ (uX5 cs (qm 7) qmw Fmw Amw Bmw Dmw))))) sz) := by
  refine mkD (Qc := (QDi G (fun (r : Int32) (u : Int32 × Int32 × (Nat → Int32) × (Nat → Int32)) => True) (fun u : Int32 × Int32 × (Nat → Int32) × (Nat → Int32) => ((uX10 cs adm qm Fm Am Bm Dm) ++ ((uX8 cs (qm 3) qms Fms Ams Bms Dms) ++ ((uX3 cs (qms 0) qmh Fmh Amh Bmh Dmh) ++ ((uX5 cs (qm 6) qmn Fmn Amn Bmn Dmn) ++ (wX5 cs (qm 7) qmw (upd (upd Fmw 2 u.1) 3 u.2.1) (vA (vA Amw 0 u.2.2.1) 1 u.2.2.2) Bmw Dmw)))))))) (by decide) (by simp [lg_sl, Value.category]) ?_
  intro p e s m args below meth c ls A0 hx hb hml hr hlk hown hmn ht hK hP hD hS hA hl
  have hl : lv_has ls 6 [(0, .ref adm), (1, .int a1)] := hl
  refine lv_aload_n hx hb dX10_desk_0 rfl (lv_at hl 0 rfl) ?_
  refine getF (v := .ref (qm 3)) hx hb ht hown hK hP iTX10 0 3 rfl rfl (by decide) fl_RX10_31 rfl dX10_desk_1 ?_
  refine getF (v := .ref (qms 0)) hx hb ht hown hK hP iTX8 3 0 rfl rfl (by decide) fl_RX10_98 rfl dX10_desk_4 ?_
  refine getF (v := .int (Fmh 5)) hx hb ht hown hK hP iTX3 5 5 rfl rfl (by decide) fl_RX10_159 rfl dX10_desk_7 ?_
  have zf1 : (0 : Int) ≤ (Fmh 5).toInt ∧ (Fmh 5).toInt ≤ 7 := hImh.1 5
  refine lv_iconst (v := 1) hx hb dX10_desk_10 (by decide) ?_
  refine lv_icmp_lt (tgt := 25) hx hb dX10_desk_11 (by decide) (fun c2 => ?_) (fun c2 => ?_)
  · have zc2 := ltK rfl (show (1 : Int32).toInt = 1 by decide) c2
    refine lv_bipush (v := (-2)) hx hb dX10_desk_25 (by decide) ?_
    exact retDi ((Fmw 2), (Fmw 3), (Amw 0), (Amw 1)) hx hb hr hlk hP hD hS dX10_desk_27 (trivial) (Nat.le_of_ble_eq_true rfl) (Nat.le_of_ble_eq_true rfl)
  · have zc2 := nltK rfl (show (1 : Int32).toInt = 1 by decide) c2
    refine lv_iload_n hx hb dX10_desk_14 rfl (lv_at hl 1 rfl) ?_
    refine lv_if_lt (tgt := 25) hx hb dX10_desk_15 (by decide) (fun c3 => ?_) (fun c3 => ?_)
    · have zc3 := ltK rfl (show (0 : Int32).toInt = 0 by decide) c3
      refine lv_bipush (v := (-2)) hx hb dX10_desk_25 (by decide) ?_
      exact retDi ((Fmw 2), (Fmw 3), (Amw 0), (Amw 1)) hx hb hr hlk hP hD hS dX10_desk_27 (trivial) (Nat.le_of_ble_eq_true rfl) (Nat.le_of_ble_eq_true rfl)
    · have zc3 := nltK rfl (show (0 : Int32).toInt = 0 by decide) c3
      refine lv_iload_n hx hb dX10_desk_18 rfl (lv_at hl 1 rfl) ?_
      refine lv_sipush (v := 200) hx hb dX10_desk_19 (by decide) ?_
      refine lv_icmp_le (tgt := 28) hx hb dX10_desk_22 (by decide) (fun c4 => ?_) (fun c4 => ?_)
      · have zc4 := leK rfl (show (200 : Int32).toInt = 200 by decide) c4
        refine lv_iconst (v := 0) hx hb dX10_desk_28 (by decide) ?_
        refine lv_istore_n (lv' := [(2, .int 0), (0, .ref adm), (1, .int a1)]) hx hb dX10_desk_29 rfl hl (by decide) rfl (fun ls hl => ?_)
        refine lv_iconst (v := (-1)) hx hb dX10_desk_30 (by decide) ?_
        refine lv_istore_n (lv' := [(3, .int (-1)), (2, .int 0), (0, .ref adm), (1, .int a1)]) hx hb dX10_desk_31 rfl hl (by decide) rfl (fun ls hl => ?_)
        refine lv_iconst (v := 0) hx hb dX10_desk_32 (by decide) ?_
        refine lv_istore (lv' := [(4, .int 0), (3, .int (-1)), (2, .int 0), (0, .ref adm), (1, .int a1)]) hx hb dX10_desk_33 hl (by decide) rfl (fun ls hl => ?_)
        have B35 : ∀ (n : Nat) (x35_2 : Int32) (x35_3 : Int32) (x35_4 : Int32) (fmw2_35 : Int32) (fmw3_35 : Int32) (amw0_35 : (Nat → Int32)) (amw1_35 : (Nat → Int32)) (H : Heap) (locs : List Loc) (ls : Array Slot), (7 - x35_4.toInt).toNat < n → (0 : Int) ≤ x35_2.toInt ∧ x35_2.toInt ≤ 6 → (-1 : Int) ≤ x35_3.toInt → (0 : Int) ≤ x35_4.toInt ∧ x35_4.toInt ≤ 7 → va_P G vwCl ((uX10 cs adm qm Fm Am Bm Dm) ++ ((uX8 cs (qm 3) qms Fms Ams Bms Dms) ++ ((uX3 cs (qms 0) qmh Fmh Amh Bmh Dmh) ++ ((uX5 cs (qm 6) qmn Fmn Amn Bmn Dmn) ++ (uX5 cs (qm 7) qmw (upv 3 fmw3_35 (upv 2 fmw2_35 Fmw)) (vB 1 amw1_35 (vB 0 amw0_35 Amw)) Bmw Dmw))))) H → va_D A0 ((uX10 cs adm qm Fm Am Bm Dm) ++ ((uX8 cs (qm 3) qms Fms Ams Bms Dms) ++ ((uX3 cs (qms 0) qmh Fmh Amh Bmh Dmh) ++ ((uX5 cs (qm 6) qmn Fmn Amn Bmn Dmn) ++ (uX5 cs (qm 7) qmw (upv 3 fmw3_35 (upv 2 fmw2_35 Fmw)) (vB 1 amw1_35 (vB 0 amw0_35 Amw)) Bmw Dmw))))) → va_S A0 s.heap H locs → lv_has ls 6 [(0, .ref adm), (1, .int a1), (2, .int x35_2), (3, .int x35_3), (4, .int x35_4)] → W p l e (rmk 4 0 0) s m args below meth c H locs 0 0 (MQ below ((QDi G (fun (r : Int32) (u : Int32 × Int32 × (Nat → Int32) × (Nat → Int32)) => True) (fun u : Int32 × Int32 × (Nat → Int32) × (Nat → Int32) => ((uX10 cs adm qm Fm Am Bm Dm) ++ ((uX8 cs (qm 3) qms Fms Ams Bms Dms) ++ ((uX3 cs (qms 0) qmh Fmh Amh Bmh Dmh) ++ ((uX5 cs (qm 6) qmn Fmn Amn Bmn Dmn) ++ (wX5 cs (qm 7) qmw (upd (upd Fmw 2 u.1) 3 u.2.1) (vA (vA Amw 0 u.2.2.1) 1 u.2.2.2) Bmw Dmw))))))) A0) args s 0 0 A0) (F0 m 35 ls []) := by
          intro n
          induction n with
          | zero => intro x35_2 x35_3 x35_4 fmw2_35 fmw3_35 amw0_35 amw1_35 H locs ls hmeas hx35_2 hx35_3 hx35_4 hP hD hS hl; exact absurd hmeas (Nat.not_lt_zero _)
          | succ n ih35 =>
            intro x35_2 x35_3 x35_4 fmw2_35 fmw3_35 amw0_35 amw1_35 H locs ls hmeas hx35_2 hx35_3 hx35_4 hP hD hS hl
            refine lv_iload hx hb dX10_desk_35 (lv_at hl 4 rfl) ?_
            refine lv_aload_n hx hb dX10_desk_37 rfl (lv_at hl 0 rfl) ?_
            refine getF (v := .ref (qm 3)) hx hb ht hown hK hP iTX10 0 3 rfl rfl (by decide) fl_RX10_31 rfl dX10_desk_38 ?_
            refine getF (v := .ref (qms 0)) hx hb ht hown hK hP iTX8 3 0 rfl rfl (by decide) fl_RX10_98 rfl dX10_desk_41 ?_
            refine getF (v := .int (Fmh 5)) hx hb ht hown hK hP iTX3 5 5 rfl rfl (by decide) fl_RX10_159 rfl dX10_desk_44 ?_
            have zf18001 : (0 : Int) ≤ (Fmh 5).toInt ∧ (Fmh 5).toInt ≤ 7 := hImh.1 5
            refine lv_icmp_ge (tgt := 77) hx hb dX10_desk_47 (by decide) (fun c18002 => ?_) (fun c18002 => ?_)
            · have zc18002 := leK rfl rfl c18002
              refine lv_iload_n hx hb dX10_desk_77 rfl (lv_at hl 2 rfl) ?_
              exact retDi (fmw2_35, fmw3_35, amw0_35, amw1_35) hx hb hr hlk hP hD hS dX10_desk_78 (trivial) (Nat.le_of_ble_eq_true rfl) (Nat.le_of_ble_eq_true rfl)
            · have zc18002 := nleK rfl rfl c18002
              refine lv_aload_n hx hb dX10_desk_50 rfl (lv_at hl 0 rfl) ?_
              refine lv_iload hx hb dX10_desk_51 (lv_at hl 4 rfl) ?_
              refine lv_iload_n hx hb dX10_desk_53 rfl (lv_at hl 1 rfl) ?_
              refine behDi (wr := ([] : va_W)) (runVD (As := [.int x35_4, .int a1]) (rest := []) ⟨hx, hb, hml, hown, ht⟩ (sX10_comesInto l G cs adm qm Fm Am Bm Dm hIm qms Fms Ams Bms Dms hIms qmh Fmh Amh Bmh Dmh hImh qmn Fmn Amn Bmn Dmn hImn qmw (upv 3 fmw3_35 (upv 2 fmw2_35 Fmw)) (vB 1 amw1_35 (vB 0 amw0_35 Amw)) Bmw Dmw (IB_av (k := 1) (IB_av (k := 0) (IB_pv (k := 3) (IB_pv (k := 2) hImw (i32b _)) (i32b _)) (AJ_full _)) (AJ_full _)) x35_4 a1 (by omega)) okV_RX10_250 ⟨by decide, by decide⟩ hK hP hD [0, 1, 2, 3, 4, 5, 6, 7, 8, 9, 10, 11, 12, 13, 14, 15, 16, 17, 18] rfl (by decide) rfl 0 rfl rfl hl.1 rfl (Nat.le_of_ble_eq_true rfl) dX10_desk_54 ⟨(Nat.le_of_ble_eq_true rfl), (Nat.le_of_ble_eq_true rfl)⟩) hP hD hS hA [0, 1, 2, 3, 4, 5, 6, 7, 8, 9, 10, 11, 12, 13, 14, 15, 16, 17, 18] [] rfl rfl (by decide) (by decide) (fun r9 u H locs hu hP hD hS => ?_)
              obtain ⟨x18003, x18004, g18005, g18006⟩ := u
              obtain ⟨r18007, rfl⟩ : ∃ z, z = r9 := ⟨_, rfl⟩
              have hr18007 := hu
              have hP : va_P G vwCl ((uX10 cs adm qm Fm Am Bm Dm) ++ ((uX8 cs (qm 3) qms Fms Ams Bms Dms) ++ ((uX3 cs (qms 0) qmh Fmh Amh Bmh Dmh) ++ ((uX5 cs (qm 6) qmn Fmn Amn Bmn Dmn) ++ (uX5 cs (qm 7) qmw (upv 3 x18004 (upv 2 x18003 Fmw)) (vB 1 g18006 (vB 0 g18005 Amw)) Bmw Dmw))))) H := hP.sub [0, 1, 2, 3, 4, 5, 6, 7, 8, 9, 10, 11, 12, 13, 14, 15, 16, 17, 18] rfl
              have hD : va_D A0 ((uX10 cs adm qm Fm Am Bm Dm) ++ ((uX8 cs (qm 3) qms Fms Ams Bms Dms) ++ ((uX3 cs (qms 0) qmh Fmh Amh Bmh Dmh) ++ ((uX5 cs (qm 6) qmn Fmn Amn Bmn Dmn) ++ (uX5 cs (qm 7) qmw (upv 3 x18004 (upv 2 x18003 Fmw)) (vB 1 g18006 (vB 0 g18005 Amw)) Bmw Dmw))))) := hD.sub [0, 1, 2, 3, 4, 5, 6, 7, 8, 9, 10, 11, 12, 13, 14, 15, 16, 17, 18] (by decide) rfl
              refine lv_istore (lv' := [(5, .int r18007), (0, .ref adm), (1, .int a1), (2, .int x35_2), (3, .int x35_3), (4, .int x35_4)]) hx hb dX10_desk_57 hl (by decide) rfl (fun ls hl => ?_)
              refine lv_iload hx hb dX10_desk_59 (lv_at hl 0 rfl) ?_
              refine lv_iload_n hx hb dX10_desk_61 rfl (lv_at hl 4 rfl) ?_
              have B71 : ∀ (x71_2 : Int32) (x71_3 : Int32) (H : Heap) (locs : List Loc) (ls : Array Slot), (0 : Int) ≤ x71_2.toInt ∧ x71_2.toInt ≤ 6 → (-1 : Int) ≤ x71_3.toInt → va_P G vwCl ((uX10 cs adm qm Fm Am Bm Dm) ++ ((uX8 cs (qm 3) qms Fms Ams Bms Dms) ++ ((uX3 cs (qms 0) qmh Fmh Amh Bmh Dmh) ++ ((uX5 cs (qm 6) qmn Fmn Amn Bmn Dmn) ++ (uX5 cs (qm 7) qmw (upv 3 x18004 (upv 2 x18003 Fmw)) (vB 1 g18006 (vB 0 g18005 Amw)) Bmw Dmw))))) H → va_D A0 ((uX10 cs adm qm Fm Am Bm Dm) ++ ((uX8 cs (qm 3) qms Fms Ams Bms Dms) ++ ((uX3 cs (qms 0) qmh Fmh Amh Bmh Dmh) ++ ((uX5 cs (qm 6) qmn Fmn Amn Bmn Dmn) ++ (uX5 cs (qm 7) qmw (upv 3 x18004 (upv 2 x18003 Fmw)) (vB 1 g18006 (vB 0 g18005 Amw)) Bmw Dmw))))) → va_S A0 s.heap H locs → lv_has ls 6 [(0, .ref adm), (1, .int a1), (2, .int x71_2), (3, .int x71_3), (4, .int x35_4)] → W p l e (rmk 4 0 0) s m args below meth c H locs 0 0 (MQ below ((QDi G (fun (r : Int32) (u : Int32 × Int32 × (Nat → Int32) × (Nat → Int32)) => True) (fun u : Int32 × Int32 × (Nat → Int32) × (Nat → Int32) => ((uX10 cs adm qm Fm Am Bm Dm) ++ ((uX8 cs (qm 3) qms Fms Ams Bms Dms) ++ ((uX3 cs (qms 0) qmh Fmh Amh Bmh Dmh) ++ ((uX5 cs (qm 6) qmn Fmn Amn Bmn Dmn) ++ (wX5 cs (qm 7) qmw (upd (upd Fmw 2 u.1) 3 u.2.1) (vA (vA Amw 0 u.2.2.1) 1 u.2.2.2) Bmw Dmw))))))) A0) args s 0 0 A0) (F0 m 71 ls []) := by
                intro x71_2 x71_3 H locs ls hx71_2 hx71_3 hP hD hS hl
                obtain ⟨v36001, ev36001⟩ : ∃ z : Int32, z = x35_4 + 1 := ⟨_, rfl⟩
                have tv36001 : v36001.toInt = x35_4.toInt + 1 := by rw [ev36001]; exact addT rfl (by decide) (by omega)
                refine lv_iinc (v := v36001) (lv' := [(4, .int v36001), (0, .ref adm), (1, .int a1), (2, .int x71_2), (3, .int x71_3)]) hx hb dX10_desk_71 hl (k := 4) rfl (by rw [ev36001]; rfl) (by decide) rfl (fun ls hl => ?_)
                refine lv_goto (tgt := 35) hx hb dX10_desk_74 (by decide) ?_
                exact ih35 x71_2 x71_3 v36001 x18003 x18004 g18005 g18006 H locs ls (by omega) (by omega) (by omega) (by omega) hP hD hS (lv_sub hl [1, 2, 3, 4, 0] rfl)
              refine lv_icmp_le (tgt := 71) hx hb dX10_desk_62 (by decide) (fun c18008 => ?_) (fun c18008 => ?_)
              · have zc18008 := leK rfl rfl c18008
                exact B71 x35_2 x35_3 H locs ls (by omega) (by omega) hP hD hS (lv_sub hl [1, 2, 3, 4, 5] rfl)
              · have zc18008 := nleK rfl rfl c18008
                refine lv_iload hx hb dX10_desk_65 (lv_at hl 0 rfl) ?_
                refine lv_istore_n (lv' := [(3, .int r18007), (5, .int r18007), (0, .ref adm), (1, .int a1), (2, .int x35_2), (4, .int x35_4)]) hx hb dX10_desk_67 rfl hl (by decide) rfl (fun ls hl => ?_)
                refine lv_iload hx hb dX10_desk_68 (lv_at hl 5 rfl) ?_
                refine lv_istore_n (lv' := [(2, .int x35_4), (3, .int r18007), (5, .int r18007), (0, .ref adm), (1, .int a1), (4, .int x35_4)]) hx hb dX10_desk_70 rfl hl (by decide) rfl (fun ls hl => ?_)
                exact B71 x35_4 r18007 H locs ls (by omega) (by omega) hP hD hS (lv_sub hl [3, 4, 0, 1, 5] rfl)
        exact B35 _ 0 (-1) 0 (Fmw 2) (Fmw 3) (Amw 0) (Amw 1) s.heap [] ls (Nat.lt_succ_self _) (by decide) (by decide) (by decide) hP hD hS (lv_sub hl [3, 4, 2, 1, 0] rfl)
      · have zc4 := nleK rfl (show (200 : Int32).toInt = 200 by decide) c4
        refine lv_bipush (v := (-2)) hx hb dX10_desk_25 (by decide) ?_
        exact retDi ((Fmw 2), (Fmw 3), (Amw 0), (Amw 1)) hx hb hr hlk hP hD hS dX10_desk_27 (trivial) (Nat.le_of_ble_eq_true rfl) (Nat.le_of_ble_eq_true rfl)

