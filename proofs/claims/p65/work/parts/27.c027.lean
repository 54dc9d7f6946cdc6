set_option maxRecDepth 100000 in
set_option maxHeartbeats 16000000 in
theorem sX10_askHabits_hi (l : Launch) (G : va_G) (cs : Nat → ClassId) (adm : Nat) (qm : Nat → Nat) (Fm : Nat → Int32) (Am : Nat → Nat → Int32) (Bm : Nat → Nat → Int64) (Dm : Int64) (hIm : IX10 Fm Am) (qms : Nat → Nat) (Fms : Nat → Int32) (Ams : Nat → Nat → Int32) (Bms : Nat → Nat → Int64) (Dms : Int64) (hIms : IX8 Fms Ams) (qmh : Nat → Nat) (Fmh : Nat → Int32) (Amh : Nat → Nat → Int32) (Bmh : Nat → Nat → Int64) (Dmh : Int64) (hImh : IX3 Fmh Amh) (a1 : Int32) (a2 : Int32) (ha1 : (4 : Int) ≤ a1.toInt ∧ a1.toInt ≤ 2147483647) (ha2 : (0 : Int) ≤ a2.toInt ∧ a2.toInt ≤ 1) : ∀ sz : Nat, Met l yX10_askHabits (wk yX10_askHabits cX10_askHabits 3 (some .int)) (rmk 2 0 0) (PreP G (TY cs) [.ref adm, .int a1, .int a2] ((uX10 cs adm qm Fm Am Bm Dm) ++ ((uX8 cs (qm 3) qms Fms Ams Bms Dms) ++ (uX3 cs (qms 0) qmh Fmh Amh Bmh Dmh))) sz) (QRi (fun r : Int32 => r.toInt = -2) sz) 0 0 (fun q => sz ≤ q) := by
  refine mkP (Qc := QRi (fun r : Int32 => r.toInt = -2)) (by decide) (by simp [lg_sl, Value.category]) ?_
  intro p e s m args below meth c ls hx hb hml hr hlk hown ht hK hP hS hl
  have hl : lv_has ls 3 [(0, .ref adm), (1, .int a1), (2, .int a2)] := hl
  refine lv_aload_n hx hb dX10_askHabits_0 rfl (lv_at hl 0 rfl) ?_
  refine lv_iload_n hx hb dX10_askHabits_1 rfl (lv_at hl 1 rfl) ?_
  refine lv_iload_n hx hb dX10_askHabits_2 rfl (lv_at hl 2 rfl) ?_
  refine lv_iconst (v := 0) hx hb dX10_askHabits_3 (by decide) ?_
  have bb1 := i32b a1
  refine behR (runVP (As := [.int a1, .int a2, .int 0]) (rest := []) ⟨hx, hb, hml, hown, ht⟩ (sX10_askRow_hi l G cs adm qm Fm Am Bm Dm hIm qms Fms Ams Bms Dms hIms qmh Fmh Amh Bmh Dmh hImh a1 a2 0 (by omega) (by omega)) okV_RX10_381 ⟨by decide, by decide⟩ hK hP [0, 1, 2, 3, 4, 5, 6, 7, 8, 9, 10, 11, 12] rfl 0 rfl rfl hl.1 rfl (Nat.le_of_ble_eq_true rfl) dX10_askHabits_4 ⟨by decide, by decide⟩) hP hS (fun _ h => h) (fun r2 H locs hr2 hP hS => ?_)
  have kk3 : (0 : Int32).toInt = 0 := by decide
  have hr2 : r2.toInt = -2 := hr2
  exact retRi hx hb hr hlk hS dX10_askHabits_7 (show r2.toInt = -2 by omega)

set_option maxRecDepth 100000 in
set_option maxHeartbeats 16000000 in
theorem sX10_replay (l : Launch) (G : va_G) (cs : Nat → ClassId) (adm : Nat) (qm : Nat → Nat) (Fm : Nat → Int32) (Am : Nat → Nat → Int32) (Bm : Nat → Nat → Int64) (Dm : Int64) (hIm : IX10 Fm Am) (qms : Nat → Nat) (Fms : Nat → Int32) (Ams : Nat → Nat → Int32) (Bms : Nat → Nat → Int64) (Dms : Int64) (hIms : IX8 Fms Ams) (qmh : Nat → Nat) (Fmh : Nat → Int32) (Amh : Nat → Nat → Int32) (Bmh : Nat → Nat → Int64) (Dmh : Int64) (hImh : IX3 Fmh Amh) (qmn : Nat → Nat) (Fmn : Nat → Int32) (Amn : Nat → Nat → Int32) (Bmn : Nat → Nat → Int64) (Dmn : Int64) (hImn : IX5 Fmn Amn) : ∀ sz : Nat, Met l yX10_replay (wk yX10_replay cX10_replay 2 none) (rmk 4 0 0) (PreD G (TY cs) [.ref adm] ((uX10 cs adm qm Fm Am Bm Dm) ++ ((uX8 cs (qm 3) qms Fms Ams Bms Dms) ++ ((uX3 cs (qms 0) qmh Fmh Amh Bmh Dmh) ++ (uX5 cs (qm 6) qmn Fmn Amn Bmn Dmn)))) sz) ((QDw G (fun u : Int32 × Int32 × (Nat → Int32) × (Nat → Int32) => True) (fun u : Int32 × Int32 × (Nat → Int32) × (Nat → Int32) => ((uX10 cs adm qm Fm Am Bm Dm) ++ ((uX8 cs (qm 3) qms Fms Ams Bms Dms) ++ ((uX3 cs (qms 0) qmh Fmh Amh Bmh Dmh) ++ (wX5 cs (qm 6) qmn (upd (upd Fmn 2 u.1) 3 u.2.1) (vA (vA Amn 0 u.2.2.1) 1 u.2.2.2) Bmn Dmn)))))) (va_A ((uX10 cs adm qm Fm Am Bm Dm) ++ ((uX8 cs (qm 3) qms Fms Ams Bms Dms) ++ ((uX3 cs (qms 0) qmh Fmh Amh Bmh Dmh) ++ (uX5 cs (qm 6) qmn Fmn Amn Bmn Dmn)))) sz)) 0 0 (va_A ((uX10 cs adm qm Fm Am Bm Dm) ++ ((uX8 cs (qm 3) qms Fms Ams Bms Dms) ++ ((uX3 cs (qms 0) qmh Fmh Amh Bmh Dmh) ++ (uX5 cs (qm 6) qmn Fmn Amn Bmn Dmn)))) sz) := by
  refine mkD (Qc := (QDw G (fun u : Int32 × Int32 × (Nat → Int32) × (Nat → Int32) => True) (fun u : Int32 × Int32 × (Nat → Int32) × (Nat → Int32) => ((uX10 cs adm qm Fm Am Bm Dm) ++ ((uX8 cs (qm 3) qms Fms Ams Bms Dms) ++ ((uX3 cs (qms 0) qmh Fmh Amh Bmh Dmh) ++ (wX5 cs (qm 6) qmn (upd (upd Fmn 2 u.1) 3 u.2.1) (vA (vA Amn 0 u.2.2.1) 1 u.2.2.2) Bmn Dmn))))))) (by decide) (by simp [lg_sl, Value.category]) ?_
  intro p e s m args below meth c ls A0 hx hb hml hr hlk hown hmn ht hK hP hD hS hA hl
  have hl : lv_has ls 2 [(0, .ref adm)] := hl
  refine lv_aload_n hx hb dX10_replay_0 rfl (lv_at hl 0 rfl) ?_
  refine getF (v := .ref (qm 6)) hx hb ht hown hK hP iTX10 0 6 rfl rfl (by decide) fl_RX10_48 rfl dX10_replay_1 ?_
  refine lv_aload_n hx hb dX10_replay_4 rfl (lv_at hl 0 rfl) ?_
  refine getF (v := .ref (qm 3)) hx hb ht hown hK hP iTX10 0 3 rfl rfl (by decide) fl_RX10_31 rfl dX10_replay_5 ?_
  refine getF (v := .ref (qms 0)) hx hb ht hown hK hP iTX8 3 0 rfl rfl (by decide) fl_RX10_98 rfl dX10_replay_8 ?_
  refine behDw (wr := ((uX10 cs adm qm Fm Am Bm Dm) ++ (uX8 cs (qm 3) qms Fms Ams Bms Dms))) (runVD (As := [.ref (qms 0)]) (rest := []) ⟨hx, hb, hml, hown, ht⟩ (sX5_begin l G cs (qm 6) qmn Fmn Amn Bmn Dmn hImn (qms 0) qmh Fmh Amh Bmh Dmh hImh ) okV_RX10_388 ⟨by decide, by decide⟩ hK hP hD [13, 14, 15, 5, 6, 7, 8, 9, 10, 11, 12] rfl (by decide) rfl 13 rfl rfl hl.1 rfl (Nat.le_of_ble_eq_true rfl) dX10_replay_11 ⟨(Nat.le_of_ble_eq_true rfl), (Nat.le_of_ble_eq_true rfl)⟩) hP hD hS hA [13, 14, 15, 5, 6, 7, 8, 9, 10, 11, 12] [0, 1, 2, 3, 4] rfl rfl (by decide) (by decide) (fun u H locs hu hP hD hS => ?_)
  obtain ⟨x1, x2, g3⟩ := u
  have hr4 := hu
  have hP : va_P G vwCl ((uX10 cs adm qm Fm Am Bm Dm) ++ ((uX8 cs (qm 3) qms Fms Ams Bms Dms) ++ ((uX3 cs (qms 0) qmh Fmh Amh Bmh Dmh) ++ (uX5 cs (qm 6) qmn (upv 3 x2 (upv 2 x1 Fmn)) (vB 0 g3 Amn) Bmn Dmn)))) H := hP.sub [0, 1, 2, 3, 4, 8, 9, 10, 11, 12, 13, 14, 15, 5, 6, 7] rfl
  have hD : va_D A0 ((uX10 cs adm qm Fm Am Bm Dm) ++ ((uX8 cs (qm 3) qms Fms Ams Bms Dms) ++ ((uX3 cs (qms 0) qmh Fmh Amh Bmh Dmh) ++ (uX5 cs (qm 6) qmn (upv 3 x2 (upv 2 x1 Fmn)) (vB 0 g3 Amn) Bmn Dmn)))) := hD.sub [0, 1, 2, 3, 4, 8, 9, 10, 11, 12, 13, 14, 15, 5, 6, 7] (by decide) rfl
  refine lv_iconst (v := 0) hx hb dX10_replay_14 (by decide) ?_
  refine lv_istore_n (lv' := [(1, .int 0), (0, .ref adm)]) hx hb dX10_replay_15 rfl hl (by decide) rfl (fun ls hl => ?_)
  have B16 : ∀ (n : Nat) (x16_1 : Int32) (fmn3_16 : Int32) (amn0_16 : (Nat → Int32)) (amn1_16 : (Nat → Int32)) (H : Heap) (locs : List Loc) (ls : Array Slot), (60 - x16_1.toInt).toNat < n → (0 : Int) ≤ x16_1.toInt ∧ x16_1.toInt ≤ 60 → va_P G vwCl ((uX10 cs adm qm Fm Am Bm Dm) ++ ((uX8 cs (qm 3) qms Fms Ams Bms Dms) ++ ((uX3 cs (qms 0) qmh Fmh Amh Bmh Dmh) ++ (uX5 cs (qm 6) qmn (upv 3 fmn3_16 (upv 2 x1 Fmn)) (vB 1 amn1_16 (vB 0 amn0_16 Amn)) Bmn Dmn)))) H → va_D A0 ((uX10 cs adm qm Fm Am Bm Dm) ++ ((uX8 cs (qm 3) qms Fms Ams Bms Dms) ++ ((uX3 cs (qms 0) qmh Fmh Amh Bmh Dmh) ++ (uX5 cs (qm 6) qmn (upv 3 fmn3_16 (upv 2 x1 Fmn)) (vB 1 amn1_16 (vB 0 amn0_16 Amn)) Bmn Dmn)))) → va_S A0 s.heap H locs → lv_has ls 2 [(0, .ref adm), (1, .int x16_1)] → W p l e (rmk 4 0 0) s m args below meth c H locs 0 0 (MQ below ((QDw G (fun u : Int32 × Int32 × (Nat → Int32) × (Nat → Int32) => True) (fun u : Int32 × Int32 × (Nat → Int32) × (Nat → Int32) => ((uX10 cs adm qm Fm Am Bm Dm) ++ ((uX8 cs (qm 3) qms Fms Ams Bms Dms) ++ ((uX3 cs (qms 0) qmh Fmh Amh Bmh Dmh) ++ (wX5 cs (qm 6) qmn (upd (upd Fmn 2 u.1) 3 u.2.1) (vA (vA Amn 0 u.2.2.1) 1 u.2.2.2) Bmn Dmn)))))) A0) args s 0 0 A0) (F0 m 16 ls []) := by
    intro n
    induction n with
    | zero => intro x16_1 fmn3_16 amn0_16 amn1_16 H locs ls hmeas hx16_1 hP hD hS hl; exact absurd hmeas (Nat.not_lt_zero _)
    | succ n ih16 =>
      intro x16_1 fmn3_16 amn0_16 amn1_16 H locs ls hmeas hx16_1 hP hD hS hl
      refine lv_iload_n hx hb dX10_replay_16 rfl (lv_at hl 1 rfl) ?_
      refine lv_aload_n hx hb dX10_replay_17 rfl (lv_at hl 0 rfl) ?_
      refine getF (v := .ref (qm 3)) hx hb ht hown hK hP iTX10 0 3 rfl rfl (by decide) fl_RX10_31 rfl dX10_replay_18 ?_
      refine getF (v := .int (Fms 2)) hx hb ht hown hK hP iTX8 3 2 rfl rfl (by decide) fl_RX10_105 rfl dX10_replay_21 ?_
      have zf9001 : (0 : Int) ≤ (Fms 2).toInt ∧ (Fms 2).toInt ≤ 60 := hIms.1 2
      refine lv_icmp_ge (tgt := 58) hx hb dX10_replay_24 (by decide) (fun c9002 => ?_) (fun c9002 => ?_)
      · have zc9002 := leK rfl rfl c9002
        exact retDw (x1, fmn3_16, amn0_16, amn1_16) hx hb hr hlk hP hD hS dX10_replay_58 (trivial) (Nat.le_of_ble_eq_true rfl) (Nat.le_of_ble_eq_true rfl)
      · have zc9002 := nleK rfl rfl c9002
        refine lv_aload_n hx hb dX10_replay_27 rfl (lv_at hl 0 rfl) ?_
        refine getF (v := .ref (qm 6)) hx hb ht hown hK hP iTX10 0 6 rfl rfl (by decide) fl_RX10_48 rfl dX10_replay_28 ?_
        refine lv_aload_n hx hb dX10_replay_31 rfl (lv_at hl 0 rfl) ?_
        refine getF (v := .ref (qm 3)) hx hb ht hown hK hP iTX10 0 3 rfl rfl (by decide) fl_RX10_31 rfl dX10_replay_32 ?_
        refine getF (v := .ref (qms 0)) hx hb ht hown hK hP iTX8 3 0 rfl rfl (by decide) fl_RX10_98 rfl dX10_replay_35 ?_
        refine lv_aload_n hx hb dX10_replay_38 rfl (lv_at hl 0 rfl) ?_
        refine getF (v := .ref (qm 3)) hx hb ht hown hK hP iTX10 0 3 rfl rfl (by decide) fl_RX10_31 rfl dX10_replay_39 ?_
        refine getF (v := .ref (qms 1)) hx hb ht hown hK hP iTX8 3 1 rfl rfl (by decide) fl_RX10_172 rfl dX10_replay_42 ?_
        refine lv_iload_n hx hb dX10_replay_45 rfl (lv_at hl 1 rfl) ?_
        refine va_iald hx hb hK.1 hP 4 0 rfl rfl (inK rfl (by omega) (by decide)) dX10_replay_46 ?_
        refine lv_topi (fun v9003 ev9003 => ?_)
        refine lv_iconst (v := 0) hx hb dX10_replay_47 (by decide) ?_
        refine behDi (wr := ((uX10 cs adm qm Fm Am Bm Dm) ++ (uX8 cs (qm 3) qms Fms Ams Bms Dms))) (runVD (As := [.ref (qms 0), .int v9003, .int 0]) (rest := []) ⟨hx, hb, hml, hown, ht⟩ (sX5_live l G cs (qm 6) qmn (upv 3 fmn3_16 (upv 2 x1 Fmn)) (vB 1 amn1_16 (vB 0 amn0_16 Amn)) Bmn Dmn (IB_av (k := 1) (IB_av (k := 0) (IB_pv (k := 3) (IB_pv (k := 2) hImn (i32b _)) (i32b _)) (AJ_full _)) (AJ_full _)) (qms 0) qmh Fmh Amh Bmh Dmh hImh v9003 0 (by decide)) okV_RX10_175 ⟨by decide, by decide⟩ hK hP hD [13, 14, 15, 5, 6, 7, 8, 9, 10, 11, 12] rfl (by decide) rfl 13 rfl rfl hl.1 rfl (Nat.le_of_ble_eq_true rfl) dX10_replay_48 ⟨(Nat.le_of_ble_eq_true rfl), (Nat.le_of_ble_eq_true rfl)⟩) hP hD hS hA [13, 14, 15, 5, 6, 7, 8, 9, 10, 11, 12] [0, 1, 2, 3, 4] rfl rfl (by decide) (by decide) (fun r9 u H locs hu hP hD hS => ?_)
        obtain ⟨x9004, g9005, g9006⟩ := u
        obtain ⟨r9007, rfl⟩ : ∃ z, z = r9 := ⟨_, rfl⟩
        have hr9007 := hu
        have hP : va_P G vwCl ((uX10 cs adm qm Fm Am Bm Dm) ++ ((uX8 cs (qm 3) qms Fms Ams Bms Dms) ++ ((uX3 cs (qms 0) qmh Fmh Amh Bmh Dmh) ++ (uX5 cs (qm 6) qmn (upv 3 x9004 (upv 2 x1 Fmn)) (vB 1 g9006 (vB 0 g9005 Amn)) Bmn Dmn)))) H := hP.sub [0, 1, 2, 3, 4, 8, 9, 10, 11, 12, 13, 14, 15, 5, 6, 7] rfl
        have hD : va_D A0 ((uX10 cs adm qm Fm Am Bm Dm) ++ ((uX8 cs (qm 3) qms Fms Ams Bms Dms) ++ ((uX3 cs (qms 0) qmh Fmh Amh Bmh Dmh) ++ (uX5 cs (qm 6) qmn (upv 3 x9004 (upv 2 x1 Fmn)) (vB 1 g9006 (vB 0 g9005 Amn)) Bmn Dmn)))) := hD.sub [0, 1, 2, 3, 4, 8, 9, 10, 11, 12, 13, 14, 15, 5, 6, 7] (by decide) rfl
        refine lv_pop hx hb dX10_replay_51 rfl ?_
        obtain ⟨v9008, ev9008⟩ : ∃ z : Int32, z = x16_1 + 1 := ⟨_, rfl⟩
        have tv9008 : v9008.toInt = x16_1.toInt + 1 := by rw [ev9008]; exact addT rfl (by decide) (by omega)
        refine lv_iinc (v := v9008) (lv' := [(1, .int v9008), (0, .ref adm)]) hx hb dX10_replay_52 hl (k := 1) rfl (by rw [ev9008]; rfl) (by decide) rfl (fun ls hl => ?_)
        refine lv_goto (tgt := 16) hx hb dX10_replay_55 (by decide) ?_
        exact ih16 v9008 x9004 g9005 g9006 H locs ls (by omega) (by omega) hP hD hS (lv_sub hl [1, 0] rfl)
  exact B16 _ 0 x2 g3 (Amn 1) H locs ls (Nat.lt_succ_self _) (by decide) hP hD hS (lv_sub hl [1, 0] rfl)

set_option maxRecDepth 100000 in
set_option maxHeartbeats 16000000 in
theorem sX10_worthOf (l : Launch) (G : va_G) (cs : Nat → ClassId) (adm : Nat) (qm : Nat → Nat) (Fm : Nat → Int32) (Am : Nat → Nat → Int32) (Bm : Nat → Nat → Int64) (Dm : Int64) (hIm : IX10 Fm Am) (qms : Nat → Nat) (Fms : Nat → Int32) (Ams : Nat → Nat → Int32) (Bms : Nat → Nat → Int64) (Dms : Int64) (hIms : IX8 Fms Ams) (qmh : Nat → Nat) (Fmh : Nat → Int32) (Amh : Nat → Nat → Int32) (Bmh : Nat → Nat → Int64) (Dmh : Int64) (hImh : IX3 Fmh Amh) (a1 : Int32) : ∀ sz : Nat, Met l yX10_worthOf (wk yX10_worthOf cX10_worthOf 2 (some .int)) (rmk 0 0 0) (PreP G (TY cs) [.ref adm, .int a1] ((uX10 cs adm qm Fm Am Bm Dm) ++ ((uX8 cs (qm 3) qms Fms Ams Bms Dms) ++ (uX3 cs (qms 0) qmh Fmh Amh Bmh Dmh))) sz) (QRi (fun r : Int32 => True) sz) 0 0 (fun q => sz ≤ q) := by
  refine mkP (Qc := QRi (fun r : Int32 => True)) (by decide) (by simp [lg_sl, Value.category]) ?_
  intro p e s m args below meth c ls hx hb hml hr hlk hown ht hK hP hS hl
  have hl : lv_has ls 2 [(0, .ref adm), (1, .int a1)] := hl
  refine lv_aload_n hx hb dX10_worthOf_0 rfl (lv_at hl 0 rfl) ?_
  refine getF (v := .ref (qm 3)) hx hb ht hown hK hP iTX10 0 3 rfl rfl (by decide) fl_RX10_31 rfl dX10_worthOf_1 ?_
  refine getF (v := .ref (qms 0)) hx hb ht hown hK hP iTX8 3 0 rfl rfl (by decide) fl_RX10_98 rfl dX10_worthOf_4 ?_
  refine getF (v := .int (Fmh 3)) hx hb ht hown hK hP iTX3 5 3 rfl rfl (by decide) fl_RX10_391 rfl dX10_worthOf_7 ?_
  refine lv_i2l hx hb dX10_worthOf_10 rfl ?_
  have bb1 := i32b (Fmh 3)
  refine lv_topl (fun v2 ev2 => ?_)
  have tv2 : v2.toInt = (Fmh 3).toInt := by rw [ev2]; exact Int32.toInt_toInt64 _
  refine lv_iload_n hx hb dX10_worthOf_11 rfl (lv_at hl 1 rfl) ?_
  refine lv_i2l hx hb dX10_worthOf_12 rfl ?_
  have bb3 := i32b a1
  refine lv_topl (fun v4 ev4 => ?_)
  have tv4 : v4.toInt = a1.toInt := by rw [ev4]; exact Int32.toInt_toInt64 _
  refine lv_lmul hx hb dX10_worthOf_13 ?_
  refine lv_topl (fun v5 ev5 => ?_)
  refine lv_ldc2 hx hb hown (ht _ kl_RX10_394) dX10_worthOf_14 ?_
  refine lv_ldiv hx hb dX10_worthOf_17 (by decide) ?_
  refine lv_topl (fun v6 ev6 => ?_)
  refine lv_l2i hx hb dX10_worthOf_18 rfl ?_
  refine lv_topi (fun v7 ev7 => ?_)
  exact retRi hx hb hr hlk hS dX10_worthOf_19 (trivial)

set_option maxRecDepth 100000 in
set_option maxHeartbeats 16000000 in
theorem sX10_gainOf (l : Launch) (G : va_G) (cs : Nat → ClassId) (adm : Nat) (qm : Nat → Nat) (Fm : Nat → Int32) (Am : Nat → Nat → Int32) (Bm : Nat → Nat → Int64) (Dm : Int64) (hIm : IX10 Fm Am) (qms : Nat → Nat) (Fms : Nat → Int32) (Ams : Nat → Nat → Int32) (Bms : Nat → Nat → Int64) (Dms : Int64) (hIms : IX8 Fms Ams) (qmh : Nat → Nat) (Fmh : Nat → Int32) (Amh : Nat → Nat → Int32) (Bmh : Nat → Nat → Int64) (Dmh : Int64) (hImh : IX3 Fmh Amh) (a1 : Int32) (a2 : Int32) : ∀ sz : Nat, Met l yX10_gainOf (wk yX10_gainOf cX10_gainOf 3 (some .int)) (rmk 1 0 0) (PreP G (TY cs) [.ref adm, .int a1, .int a2] ((uX10 cs adm qm Fm Am Bm Dm) ++ ((uX8 cs (qm 3) qms Fms Ams Bms Dms) ++ (uX3 cs (qms 0) qmh Fmh Amh Bmh Dmh))) sz) (QRi (fun r : Int32 => True) sz) 0 0 (fun q => sz ≤ q) := by
  refine mkP (Qc := QRi (fun r : Int32 => True)) (by decide) (by simp [lg_sl, Value.category]) ?_
  intro p e s m args below meth c ls hx hb hml hr hlk hown ht hK hP hS hl
  have hl : lv_has ls 3 [(0, .ref adm), (1, .int a1), (2, .int a2)] := hl
  refine lv_aload_n hx hb dX10_gainOf_0 rfl (lv_at hl 0 rfl) ?_
  refine lv_iload_n hx hb dX10_gainOf_1 rfl (lv_at hl 1 rfl) ?_
  refine behR (runVP (As := [.int a1]) (rest := []) ⟨hx, hb, hml, hown, ht⟩ (sX10_worthOf l G cs adm qm Fm Am Bm Dm hIm qms Fms Ams Bms Dms hIms qmh Fmh Amh Bmh Dmh hImh a1 ) okV_RX10_232 ⟨by decide, by decide⟩ hK hP [0, 1, 2, 3, 4, 5, 6, 7, 8, 9, 10, 11, 12] rfl 0 rfl rfl hl.1 rfl (Nat.le_of_ble_eq_true rfl) dX10_gainOf_2 ⟨by decide, by decide⟩) hP hS (fun _ h => h) (fun r1 H locs hr1 hP hS => ?_)
  refine lv_aload_n hx hb dX10_gainOf_5 rfl (lv_at hl 0 rfl) ?_
  refine getF (v := .ref (qm 3)) hx hb ht hown hK hP iTX10 0 3 rfl rfl (by decide) fl_RX10_31 rfl dX10_gainOf_6 ?_
  refine getF (v := .ref (qms 0)) hx hb ht hown hK hP iTX8 3 0 rfl rfl (by decide) fl_RX10_98 rfl dX10_gainOf_9 ?_
  refine getF (v := .int (Fmh 4)) hx hb ht hown hK hP iTX3 5 4 rfl rfl (by decide) fl_RX10_235 rfl dX10_gainOf_12 ?_
  refine lv_iload_n hx hb dX10_gainOf_15 rfl (lv_at hl 2 rfl) ?_
  refine lv_imul hx hb dX10_gainOf_16 ?_
  refine lv_topi (fun v2 ev2 => ?_)
  refine lv_isub hx hb dX10_gainOf_17 ?_
  refine lv_topi (fun v3 ev3 => ?_)
  exact retRi hx hb hr hlk hS dX10_gainOf_18 (trivial)

set_option maxRecDepth 100000 in
set_option maxHeartbeats 16000000 in
theorem sX10_foundIn (l : Launch) (G : va_G) (cs : Nat → ClassId) (adm : Nat) (qm : Nat → Nat) (Fm : Nat → Int32) (Am : Nat → Nat → Int32) (Bm : Nat → Nat → Int64) (Dm : Int64) (hIm : IX10 Fm Am) (qms : Nat → Nat) (Fms : Nat → Int32) (Ams : Nat → Nat → Int32) (Bms : Nat → Nat → Int64) (Dms : Int64) (hIms : IX8 Fms Ams) (qmh : Nat → Nat) (Fmh : Nat → Int32) (Amh : Nat → Nat → Int32) (Bmh : Nat → Nat → Int64) (Dmh : Int64) (hImh : IX3 Fmh Amh) (qmn : Nat → Nat) (Fmn : Nat → Int32) (Amn : Nat → Nat → Int32) (Bmn : Nat → Nat → Int64) (Dmn : Int64) (hImn : IX5 Fmn Amn) (qmw : Nat → Nat) (Fmw : Nat → Int32) (Amw : Nat → Nat → Int32) (Bmw : Nat → Nat → Int64) (Dmw : Int64) (hImw : IX5 Fmw Amw) (adr : Nat) (qr : Nat → Nat) (Fr : Nat → Int32) (Ar : Nat → Nat → Int32) (Br : Nat → Nat → Int64) (Dr : Int64) (hIr : IX7 Fr Ar) (a2 : Int32) (ha2 : (0 : Int) ≤ a2.toInt ∧ a2.toInt ≤ 9) : ∀ sz : Nat, Met l yX10_foundIn (wk yX10_foundIn cX10_foundIn 4 (some .int)) (rmk 4 0 0) (PreD G (TY cs) [.ref adm, .ref adr, .int a2] ((uX10 cs adm qm Fm Am Bm Dm) ++ ((uX8 cs (qm 3) qms Fms Ams Bms Dms) ++ ((uX3 cs (qms 0) qmh Fmh Amh Bmh Dmh) ++ ((uX5 cs (qm 6) qmn Fmn Amn Bmn Dmn) ++ ((uX5 cs (qm 7) qmw Fmw Amw Bmw Dmw) ++ (uX7 cs adr qr Fr Ar Br Dr)))))) sz) ((QDi G (fun (r : Int32) (u : Int32 × Int32 × (Nat → Int32) × (Nat → Int32)) => True) (fun u : Int32 × Int32 × (Nat → Int32) × (Nat → Int32) => ((uX10 cs adm qm Fm Am Bm Dm) ++ ((uX8 cs (qm 3) qms Fms Ams Bms Dms) ++ ((uX3 cs (qms 0) qmh Fmh Amh Bmh Dmh) ++ ((uX5 cs (qm 6) qmn Fmn Amn Bmn Dmn) ++ ((wX5 cs (qm 7) qmw (upd (upd Fmw 2 u.1) 3 u.2.1) (vA (vA Amw 0 u.2.2.1) 1 u.2.2.2) Bmw Dmw) ++ (uX7 cs adr qr Fr Ar Br Dr)))))))) (va_A ((uX10 cs adm qm Fm Am Bm Dm) ++ ((uX8 cs (qm 3) qms Fms Ams Bms Dms) ++ ((uX3 cs (qms 0) qmh Fmh Amh Bmh Dmh) ++ ((uX5 cs (qm 6) qmn Fmn Amn Bmn Dmn) ++ ((uX5 cs (qm 7) qmw Fmw Amw Bmw Dmw) ++ (uX7 cs adr qr Fr Ar Br Dr)))))) sz)) 0 0 (va_A ((uX10 cs adm qm Fm Am Bm Dm) ++ ((uX8 cs (qm 3) qms Fms Ams Bms Dms) ++ ((uX3 cs (qms 0) qmh Fmh Amh Bmh Dmh) ++ ((uX5 cs (qm 6) qmn Fmn Amn Bmn Dmn) ++ ((uX5 cs (qm 7) qmw Fmw Amw Bmw Dmw) ++ (uX7 cs adr qr Fr Ar Br Dr)))))) sz) := by
  refine mkD (Qc := (QDi G (fun (r : Int32) (u : Int32 × Int32 × (Nat → Int32) × (Nat → Int32)) => True) (fun u : Int32 × Int32 × (Nat → Int32) × (Nat → Int32) => ((uX10 cs adm qm Fm Am Bm Dm) ++ ((uX8 cs (qm 3) qms Fms Ams Bms Dms) ++ ((uX3 cs (qms 0) qmh Fmh Amh Bmh Dmh) ++ ((uX5 cs (qm 6) qmn Fmn Amn Bmn Dmn) ++ ((wX5 cs (qm 7) qmw (upd (upd Fmw 2 u.1) 3 u.2.1) (vA (vA Amw 0 u.2.2.1) 1 u.2.2.2) Bmw Dmw) ++ (uX7 cs adr qr Fr Ar Br Dr))))))))) (by decide) (by simp [lg_sl, Value.category]) ?_
  intro p e s m args below meth c ls A0 hx hb hml hr hlk hown hmn ht hK hP hD hS hA hl
  have hl : lv_has ls 4 [(0, .ref adm), (1, .ref adr), (2, .int a2)] := hl
  refine lv_aload_n hx hb dX10_foundIn_0 rfl (lv_at hl 0 rfl) ?_
  refine getF (v := .ref (qm 7)) hx hb ht hown hK hP iTX10 0 7 rfl rfl (by decide) fl_RX10_52 rfl dX10_foundIn_1 ?_
  refine lv_aload_n hx hb dX10_foundIn_4 rfl (lv_at hl 0 rfl) ?_
  refine getF (v := .ref (qm 6)) hx hb ht hown hK hP iTX10 0 6 rfl rfl (by decide) fl_RX10_48 rfl dX10_foundIn_5 ?_
  refine behDw (wr := ((uX10 cs adm qm Fm Am Bm Dm) ++ ((uX8 cs (qm 3) qms Fms Ams Bms Dms) ++ ((uX3 cs (qms 0) qmh Fmh Amh Bmh Dmh) ++ (uX7 cs adr qr Fr Ar Br Dr))))) (runVD (As := [.ref (qm 6)]) (rest := []) ⟨hx, hb, hml, hown, ht⟩ (sX5_copyFrom l G cs (qm 7) qmw Fmw Amw Bmw Dmw hImw (qm 6) qmn Fmn Amn Bmn Dmn hImn ) okV_RX10_179 ⟨by decide, by decide⟩ hK hP hD [16, 17, 18, 13, 14, 15] rfl (by decide) rfl 16 rfl rfl hl.1 rfl (Nat.le_of_ble_eq_true rfl) dX10_foundIn_8 ⟨(Nat.le_of_ble_eq_true rfl), (Nat.le_of_ble_eq_true rfl)⟩) hP hD hS hA [16, 17, 18, 13, 14, 15] [0, 1, 2, 3, 4, 5, 6, 7, 8, 9, 10, 11, 12, 19, 20] rfl rfl (by decide) (by decide) (fun u H locs hu hP hD hS => ?_)
  obtain ⟨x1, x2, g3⟩ := u
  have hr4 := hu
  have hP : va_P G vwCl ((uX10 cs adm qm Fm Am Bm Dm) ++ ((uX8 cs (qm 3) qms Fms Ams Bms Dms) ++ ((uX3 cs (qms 0) qmh Fmh Amh Bmh Dmh) ++ ((uX5 cs (qm 6) qmn Fmn Amn Bmn Dmn) ++ ((uX5 cs (qm 7) qmw (upv 3 x2 (upv 2 x1 Fmw)) (vB 0 g3 Amw) Bmw Dmw) ++ (uX7 cs adr qr Fr Ar Br Dr)))))) H := hP.sub [0, 1, 2, 3, 4, 5, 6, 7, 8, 9, 10, 11, 12, 18, 19, 20, 15, 16, 17, 13, 14] rfl
  have hD : va_D A0 ((uX10 cs adm qm Fm Am Bm Dm) ++ ((uX8 cs (qm 3) qms Fms Ams Bms Dms) ++ ((uX3 cs (qms 0) qmh Fmh Amh Bmh Dmh) ++ ((uX5 cs (qm 6) qmn Fmn Amn Bmn Dmn) ++ ((uX5 cs (qm 7) qmw (upv 3 x2 (upv 2 x1 Fmw)) (vB 0 g3 Amw) Bmw Dmw) ++ (uX7 cs adr qr Fr Ar Br Dr)))))) := hD.sub [0, 1, 2, 3, 4, 5, 6, 7, 8, 9, 10, 11, 12, 18, 19, 20, 15, 16, 17, 13, 14] (by decide) rfl
  refine lv_iconst (v := 0) hx hb dX10_foundIn_11 (by decide) ?_
  refine lv_istore_n (lv' := [(3, .int 0), (0, .ref adm), (1, .ref adr), (2, .int a2)]) hx hb dX10_foundIn_12 rfl hl (by decide) rfl (fun ls hl => ?_)
  have B13 : ∀ (n : Nat) (x13_3 : Int32) (fmw3_13 : Int32) (amw0_13 : (Nat → Int32)) (amw1_13 : (Nat → Int32)) (H : Heap) (locs : List Loc) (ls : Array Slot), (60 - x13_3.toInt).toNat < n → (0 : Int) ≤ x13_3.toInt ∧ x13_3.toInt ≤ 60 → va_P G vwCl ((uX10 cs adm qm Fm Am Bm Dm) ++ ((uX8 cs (qm 3) qms Fms Ams Bms Dms) ++ ((uX3 cs (qms 0) qmh Fmh Amh Bmh Dmh) ++ ((uX5 cs (qm 6) qmn Fmn Amn Bmn Dmn) ++ ((uX5 cs (qm 7) qmw (upv 3 fmw3_13 (upv 2 x1 Fmw)) (vB 1 amw1_13 (vB 0 amw0_13 Amw)) Bmw Dmw) ++ (uX7 cs adr qr Fr Ar Br Dr)))))) H → va_D A0 ((uX10 cs adm qm Fm Am Bm Dm) ++ ((uX8 cs (qm 3) qms Fms Ams Bms Dms) ++ ((uX3 cs (qms 0) qmh Fmh Amh Bmh Dmh) ++ ((uX5 cs (qm 6) qmn Fmn Amn Bmn Dmn) ++ ((uX5 cs (qm 7) qmw (upv 3 fmw3_13 (upv 2 x1 Fmw)) (vB 1 amw1_13 (vB 0 amw0_13 Amw)) Bmw Dmw) ++ (uX7 cs adr qr Fr Ar Br Dr)))))) → va_S A0 s.heap H locs → lv_has ls 4 [(0, .ref adm), (1, .ref adr), (2, .int a2), (3, .int x13_3)] → W p l e (rmk 4 0 0) s m args below meth c H locs 0 0 (MQ below ((QDi G (fun (r : Int32) (u : Int32 × Int32 × (Nat → Int32) × (Nat → Int32)) => True) (fun u : Int32 × Int32 × (Nat → Int32) × (Nat → Int32) => ((uX10 cs adm qm Fm Am Bm Dm) ++ ((uX8 cs (qm 3) qms Fms Ams Bms Dms) ++ ((uX3 cs (qms 0) qmh Fmh Amh Bmh Dmh) ++ ((uX5 cs (qm 6) qmn Fmn Amn Bmn Dmn) ++ ((wX5 cs (qm 7) qmw (upd (upd Fmw 2 u.1) 3 u.2.1) (vA (vA Amw 0 u.2.2.1) 1 u.2.2.2) Bmw Dmw) ++ (uX7 cs adr qr Fr Ar Br Dr)))))))) A0) args s 0 0 A0) (F0 m 13 ls []) := by
    intro n
    induction n with
    | zero => intro x13_3 fmw3_13 amw0_13 amw1_13 H locs ls hmeas hx13_3 hP hD hS hl; exact absurd hmeas (Nat.not_lt_zero _)
    | succ n ih13 =>
      intro x13_3 fmw3_13 amw0_13 amw1_13 H locs ls hmeas hx13_3 hP hD hS hl
      refine lv_iload_n hx hb dX10_foundIn_13 rfl (lv_at hl 3 rfl) ?_
      refine lv_aload_n hx hb dX10_foundIn_14 rfl (lv_at hl 1 rfl) ?_
      refine getF (v := .int (Fr 3)) hx hb ht hown hK hP iTX7 19 3 rfl rfl (by decide) fl_RX10_194 rfl dX10_foundIn_15 ?_
      have zf8001 : (0 : Int) ≤ (Fr 3).toInt ∧ (Fr 3).toInt ≤ 60 := hIr.1 3
      refine lv_icmp_ge (tgt := 48) hx hb dX10_foundIn_18 (by decide) (fun c8002 => ?_) (fun c8002 => ?_)
      · have zc8002 := leK rfl rfl c8002
        refine lv_aload_n hx hb dX10_foundIn_48 rfl (lv_at hl 0 rfl) ?_
        refine getF (v := .ref (qm 7)) hx hb ht hown hK hP iTX10 0 7 rfl rfl (by decide) fl_RX10_52 rfl dX10_foundIn_49 ?_
        refine getF (v := .int fmw3_13) hx hb ht hown hK hP iTX5 16 3 rfl rfl (by decide) fl_RX10_156 rfl dX10_foundIn_52 ?_
        refine lv_aload_n hx hb dX10_foundIn_55 rfl (lv_at hl 0 rfl) ?_
        refine getF (v := .ref (qm 6)) hx hb ht hown hK hP iTX10 0 6 rfl rfl (by decide) fl_RX10_48 rfl dX10_foundIn_56 ?_
        refine getF (v := .int (Fmn 3)) hx hb ht hown hK hP iTX5 13 3 rfl rfl (by decide) fl_RX10_156 rfl dX10_foundIn_59 ?_
        refine lv_isub hx hb dX10_foundIn_62 ?_
        refine lv_topi (fun v8003 ev8003 => ?_)
        exact retDi (x1, fmw3_13, amw0_13, amw1_13) hx hb hr hlk hP hD hS dX10_foundIn_63 (trivial) (Nat.le_of_ble_eq_true rfl) (Nat.le_of_ble_eq_true rfl)
      · have zc8002 := nleK rfl rfl c8002
        refine lv_aload_n hx hb dX10_foundIn_21 rfl (lv_at hl 0 rfl) ?_
        refine getF (v := .ref (qm 7)) hx hb ht hown hK hP iTX10 0 7 rfl rfl (by decide) fl_RX10_52 rfl dX10_foundIn_22 ?_
        refine lv_aload_n hx hb dX10_foundIn_25 rfl (lv_at hl 0 rfl) ?_
        refine getF (v := .ref (qm 3)) hx hb ht hown hK hP iTX10 0 3 rfl rfl (by decide) fl_RX10_31 rfl dX10_foundIn_26 ?_
        refine getF (v := .ref (qms 0)) hx hb ht hown hK hP iTX8 3 0 rfl rfl (by decide) fl_RX10_98 rfl dX10_foundIn_29 ?_
        refine lv_aload_n hx hb dX10_foundIn_32 rfl (lv_at hl 1 rfl) ?_
        refine lv_iload_n hx hb dX10_foundIn_33 rfl (lv_at hl 3 rfl) ?_
        refine behR (runVP (As := [.int x13_3]) (rest := [.ref (qms 0), .ref (qm 7)]) ⟨hx, hb, hml, hown, ht⟩ (sX7_roomAt l G cs adr qr Fr Ar Br Dr hIr x13_3 ) okV_RX10_195 ⟨by decide, by decide⟩ hK hP [19, 20] rfl 19 rfl rfl hl.1 rfl (Nat.le_of_ble_eq_true rfl) dX10_foundIn_34 ⟨by decide, by decide⟩) hP hS hA (fun r8004 H locs hr8004 hP hS => ?_)
        have hr8004 : RAt r8004 x13_3 (Br 0) (Fr 3).toInt := hr8004
        refine lv_iload_n hx hb dX10_foundIn_37 rfl (lv_at hl 2 rfl) ?_
        refine behDi (wr := ((uX10 cs adm qm Fm Am Bm Dm) ++ ((uX8 cs (qm 3) qms Fms Ams Bms Dms) ++ ((uX5 cs (qm 6) qmn Fmn Amn Bmn Dmn) ++ (uX7 cs adr qr Fr Ar Br Dr))))) (runVD (As := [.ref (qms 0), .int r8004, .int a2]) (rest := []) ⟨hx, hb, hml, hown, ht⟩ (sX5_live l G cs (qm 7) qmw (upv 3 fmw3_13 (upv 2 x1 Fmw)) (vB 1 amw1_13 (vB 0 amw0_13 Amw)) Bmw Dmw (IB_av (k := 1) (IB_av (k := 0) (IB_pv (k := 3) (IB_pv (k := 2) hImw (i32b _)) (i32b _)) (AJ_full _)) (AJ_full _)) (qms 0) qmh Fmh Amh Bmh Dmh hImh r8004 a2 (by omega)) okV_RX10_175 ⟨by decide, by decide⟩ hK hP hD [16, 17, 18, 5, 6, 7, 8, 9, 10, 11, 12] rfl (by decide) rfl 16 rfl rfl hl.1 rfl (Nat.le_of_ble_eq_true rfl) dX10_foundIn_38 ⟨(Nat.le_of_ble_eq_true rfl), (Nat.le_of_ble_eq_true rfl)⟩) hP hD hS hA [16, 17, 18, 5, 6, 7, 8, 9, 10, 11, 12] [0, 1, 2, 3, 4, 13, 14, 15, 19, 20] rfl rfl (by decide) (by decide) (fun r9 u H locs hu hP hD hS => ?_)
        obtain ⟨x8005, g8006, g8007⟩ := u
        obtain ⟨r8008, rfl⟩ : ∃ z, z = r9 := ⟨_, rfl⟩
        have hr8008 := hu
        have hP : va_P G vwCl ((uX10 cs adm qm Fm Am Bm Dm) ++ ((uX8 cs (qm 3) qms Fms Ams Bms Dms) ++ ((uX3 cs (qms 0) qmh Fmh Amh Bmh Dmh) ++ ((uX5 cs (qm 6) qmn Fmn Amn Bmn Dmn) ++ ((uX5 cs (qm 7) qmw (upv 3 x8005 (upv 2 x1 Fmw)) (vB 1 g8007 (vB 0 g8006 Amw)) Bmw Dmw) ++ (uX7 cs adr qr Fr Ar Br Dr)))))) H := hP.sub [0, 1, 2, 3, 4, 13, 14, 15, 16, 17, 18, 19, 20, 5, 6, 7, 10, 11, 12, 8, 9] rfl
        have hD : va_D A0 ((uX10 cs adm qm Fm Am Bm Dm) ++ ((uX8 cs (qm 3) qms Fms Ams Bms Dms) ++ ((uX3 cs (qms 0) qmh Fmh Amh Bmh Dmh) ++ ((uX5 cs (qm 6) qmn Fmn Amn Bmn Dmn) ++ ((uX5 cs (qm 7) qmw (upv 3 x8005 (upv 2 x1 Fmw)) (vB 1 g8007 (vB 0 g8006 Amw)) Bmw Dmw) ++ (uX7 cs adr qr Fr Ar Br Dr)))))) := hD.sub [0, 1, 2, 3, 4, 13, 14, 15, 16, 17, 18, 19, 20, 5, 6, 7, 10, 11, 12, 8, 9] (by decide) rfl
        refine lv_pop hx hb dX10_foundIn_41 rfl ?_
        obtain ⟨v8009, ev8009⟩ : ∃ z : Int32, z = x13_3 + 1 := ⟨_, rfl⟩
        have tv8009 : v8009.toInt = x13_3.toInt + 1 := by rw [ev8009]; exact addT rfl (by decide) (by omega)
        refine lv_iinc (v := v8009) (lv' := [(3, .int v8009), (0, .ref adm), (1, .ref adr), (2, .int a2)]) hx hb dX10_foundIn_42 hl (k := 3) rfl (by rw [ev8009]; rfl) (by decide) rfl (fun ls hl => ?_)
        refine lv_goto (tgt := 13) hx hb dX10_foundIn_45 (by decide) ?_
        exact ih13 v8009 x8005 g8006 g8007 H locs ls (by omega) (by omega) hP hD hS (lv_sub hl [1, 2, 3, 0] rfl)
  exact B13 _ 0 x2 g3 (Amw 1) H locs ls (Nat.lt_succ_self _) (by decide) hP hD hS (lv_sub hl [1, 2, 3, 0] rfl)

set_option maxRecDepth 100000 in
set_option maxHeartbeats 16000000 in
theorem sX10_canWalk (l : Launch) (G : va_G) (cs : Nat → ClassId) (adm : Nat) (qm : Nat → Nat) (Fm : Nat → Int32) (Am : Nat → Nat → Int32) (Bm : Nat → Nat → Int64) (Dm : Int64) (hIm : IX10 Fm Am) (qms : Nat → Nat) (Fms : Nat → Int32) (Ams : Nat → Nat → Int32) (Bms : Nat → Nat → Int64) (Dms : Int64) (hIms : IX8 Fms Ams) (qmh : Nat → Nat) (Fmh : Nat → Int32) (Amh : Nat → Nat → Int32) (Bmh : Nat → Nat → Int64) (Dmh : Int64) (hImh : IX3 Fmh Amh) (adr : Nat) (qr : Nat → Nat) (Fr : Nat → Int32) (Ar : Nat → Nat → Int32) (Br : Nat → Nat → Int64) (Dr : Int64) (hIr : IX7 Fr Ar) (a2 : Int32) : ∀ sz : Nat, Met l yX10_canWalk (wk yX10_canWalk cX10_canWalk 6 (some .boolean)) (rmk 3 0 0) (PreP G (TY cs) [.ref adm, .ref adr, .int a2] ((uX10 cs adm qm Fm Am Bm Dm) ++ ((uX8 cs (qm 3) qms Fms Ams Bms Dms) ++ ((uX3 cs (qms 0) qmh Fmh Amh Bmh Dmh) ++ (uX7 cs adr qr Fr Ar Br Dr)))) sz) (QRi (fun r : Int32 => (0 : Int) ≤ r.toInt ∧ r.toInt ≤ 1) sz) 0 0 (fun q => sz ≤ q) := by
  refine mkP (Qc := QRi (fun r : Int32 => (0 : Int) ≤ r.toInt ∧ r.toInt ≤ 1)) (by decide) (by simp [lg_sl, Value.category]) ?_
  intro p e s m args below meth c ls hx hb hml hr hlk hown ht hK hP hS hl
  have hl : lv_has ls 6 [(0, .ref adm), (1, .ref adr), (2, .int a2)] := hl
  refine lv_iload_n hx hb dX10_canWalk_0 rfl (lv_at hl 2 rfl) ?_
  refine lv_istore_n (lv' := [(3, .int a2), (0, .ref adm), (1, .ref adr), (2, .int a2)]) hx hb dX10_canWalk_1 rfl hl (by decide) rfl (fun ls hl => ?_)
  refine lv_iconst (v := 0) hx hb dX10_canWalk_2 (by decide) ?_
  refine lv_istore (lv' := [(4, .int 0), (3, .int a2), (0, .ref adm), (1, .ref adr), (2, .int a2)]) hx hb dX10_canWalk_3 hl (by decide) rfl (fun ls hl => ?_)
  have B5 : ∀ (n : Nat) (x5_3 : Int32) (x5_4 : Int32) (H : Heap) (locs : List Loc) (ls : Array Slot), (60 - x5_4.toInt).toNat < n → (0 : Int) ≤ x5_4.toInt ∧ x5_4.toInt ≤ 60 → va_P G vwCl ((uX10 cs adm qm Fm Am Bm Dm) ++ ((uX8 cs (qm 3) qms Fms Ams Bms Dms) ++ ((uX3 cs (qms 0) qmh Fmh Amh Bmh Dmh) ++ (uX7 cs adr qr Fr Ar Br Dr)))) H → va_S (fun q => s.heap.size ≤ q) s.heap H locs → lv_has ls 6 [(0, .ref adm), (1, .ref adr), (3, .int x5_3), (4, .int x5_4)] → W p l e (rmk 3 0 0) s m args below meth c H locs 0 0 (MQ below (QRi (fun r : Int32 => (0 : Int) ≤ r.toInt ∧ r.toInt ≤ 1) s.heap.size) args s 0 0 (fun q => s.heap.size ≤ q)) (F0 m 5 ls []) := by
    intro n
    induction n with
    | zero => intro x5_3 x5_4 H locs ls hmeas hx5_4 hP hS hl; exact absurd hmeas (Nat.not_lt_zero _)
    | succ n ih5 =>
      intro x5_3 x5_4 H locs ls hmeas hx5_4 hP hS hl
      refine lv_iload hx hb dX10_canWalk_5 (lv_at hl 3 rfl) ?_
      refine lv_aload_n hx hb dX10_canWalk_7 rfl (lv_at hl 1 rfl) ?_
      refine getF (v := .int (Fr 3)) hx hb ht hown hK hP iTX7 13 3 rfl rfl (by decide) fl_RX10_194 rfl dX10_canWalk_8 ?_
      have zf5001 : (0 : Int) ≤ (Fr 3).toInt ∧ (Fr 3).toInt ≤ 60 := hIr.1 3
      refine lv_icmp_ge (tgt := 55) hx hb dX10_canWalk_11 (by decide) (fun c5002 => ?_) (fun c5002 => ?_)
      · have zc5002 := leK rfl rfl c5002
        refine lv_iconst (v := 1) hx hb dX10_canWalk_55 (by decide) ?_
        exact retRz hx hb hr hlk hS dX10_canWalk_56 (rfl) (show (0 : Int) ≤ (1 : Int32).toInt ∧ (1 : Int32).toInt ≤ 1 by have kk : (1 : Int32).toInt = 1 := (by decide); omega)
      · have zc5002 := nleK rfl rfl c5002
        refine lv_aload_n hx hb dX10_canWalk_14 rfl (lv_at hl 1 rfl) ?_
        refine lv_iload hx hb dX10_canWalk_15 (lv_at hl 3 rfl) ?_
        refine behR (runVP (As := [.int x5_4]) (rest := []) ⟨hx, hb, hml, hown, ht⟩ (sX7_roomAt l G cs adr qr Fr Ar Br Dr hIr x5_4 ) okV_RX10_195 ⟨by decide, by decide⟩ hK hP [13, 14] rfl 13 rfl rfl hl.1 rfl (Nat.le_of_ble_eq_true rfl) dX10_canWalk_17 ⟨by decide, by decide⟩) hP hS (fun _ h => h) (fun r5003 H locs hr5003 hP hS => ?_)
        have hr5003 : RAt r5003 x5_4 (Br 0) (Fr 3).toInt := hr5003
        refine lv_istore (lv' := [(5, .int r5003), (0, .ref adm), (1, .ref adr), (3, .int x5_3), (4, .int x5_4)]) hx hb dX10_canWalk_20 hl (by decide) rfl (fun ls hl => ?_)
        refine lv_iload hx hb dX10_canWalk_22 (lv_at hl 0 rfl) ?_
        refine lv_iconst (v := (-1)) hx hb dX10_canWalk_24 (by decide) ?_
        have B49 : ∀ (x49_3 : Int32) (H : Heap) (locs : List Loc) (ls : Array Slot), va_P G vwCl ((uX10 cs adm qm Fm Am Bm Dm) ++ ((uX8 cs (qm 3) qms Fms Ams Bms Dms) ++ ((uX3 cs (qms 0) qmh Fmh Amh Bmh Dmh) ++ (uX7 cs adr qr Fr Ar Br Dr)))) H → va_S (fun q => s.heap.size ≤ q) s.heap H locs → lv_has ls 6 [(0, .ref adm), (1, .ref adr), (3, .int x49_3), (4, .int x5_4)] → W p l e (rmk 3 0 0) s m args below meth c H locs 0 0 (MQ below (QRi (fun r : Int32 => (0 : Int) ≤ r.toInt ∧ r.toInt ≤ 1) s.heap.size) args s 0 0 (fun q => s.heap.size ≤ q)) (F0 m 49 ls []) := by
          intro x49_3 H locs ls hP hS hl
          obtain ⟨v27001, ev27001⟩ : ∃ z : Int32, z = x5_4 + 1 := ⟨_, rfl⟩
          have tv27001 : v27001.toInt = x5_4.toInt + 1 := by rw [ev27001]; exact addT rfl (by decide) (by omega)
          refine lv_iinc (v := v27001) (lv' := [(4, .int v27001), (0, .ref adm), (1, .ref adr), (3, .int x49_3)]) hx hb dX10_canWalk_49 hl (k := 3) rfl (by rw [ev27001]; rfl) (by decide) rfl (fun ls hl => ?_)
          refine lv_goto (tgt := 5) hx hb dX10_canWalk_52 (by decide) ?_
          exact ih5 x49_3 v27001 H locs ls (by omega) (by omega) hP hS (lv_sub hl [1, 2, 3, 0] rfl)
        refine lv_icmp_eq (tgt := 49) hx hb dX10_canWalk_25 (by decide) (fun c5004 => ?_) (fun c5004 => ?_)
        · have zc5004 := eqK rfl (show (-1 : Int32).toInt = (-1) by decide) c5004
          exact B49 x5_3 H locs ls hP hS (lv_sub hl [1, 2, 3, 4] rfl)
        · have zc5004 := neK rfl (show (-1 : Int32).toInt = (-1) by decide) c5004
          refine lv_aload_n hx hb dX10_canWalk_28 rfl (lv_at hl 1 rfl) ?_
          refine getF (v := .ref (qm 3)) hx hb ht hown hK hP iTX10 0 3 rfl rfl (by decide) fl_RX10_31 rfl dX10_canWalk_29 ?_
          refine getF (v := .ref (qms 0)) hx hb ht hown hK hP iTX8 3 0 rfl rfl (by decide) fl_RX10_98 rfl dX10_canWalk_32 ?_
          refine lv_iload_n hx hb dX10_canWalk_35 rfl (lv_at hl 3 rfl) ?_
          refine lv_iload hx hb dX10_canWalk_36 (lv_at hl 0 rfl) ?_
          refine behR (runVP (As := [.int x5_3, .int r5003]) (rest := []) ⟨hx, hb, hml, hown, ht⟩ (sX3_isStep l G cs (qms 0) qmh Fmh Amh Bmh Dmh hImh x5_3 r5003 ) okV_RX10_396 ⟨by decide, by decide⟩ hK hP [5, 6, 7, 8, 9, 10, 11, 12] rfl 5 rfl rfl hl.1 rfl (Nat.le_of_ble_eq_true rfl) dX10_canWalk_38 ⟨by decide, by decide⟩) hP hS (fun _ h => h) (fun r5005 H locs hr5005 hP hS => ?_)
          have hr5005 : (0 : Int) ≤ r5005.toInt ∧ r5005.toInt ≤ 1 := hr5005
          refine lv_if_ne (tgt := 46) hx hb dX10_canWalk_41 (by decide) (fun c5006 => ?_) (fun c5006 => ?_)
          · have zc5006 := neK rfl (show (0 : Int32).toInt = 0 by decide) c5006
            refine lv_iload hx hb dX10_canWalk_46 (lv_at hl 0 rfl) ?_
            refine lv_istore_n (lv' := [(3, .int r5003), (5, .int r5003), (0, .ref adm), (1, .ref adr), (4, .int x5_4)]) hx hb dX10_canWalk_48 rfl hl (by decide) rfl (fun ls hl => ?_)
            exact B49 r5003 H locs ls hP hS (lv_sub hl [2, 3, 0, 4] rfl)
          · have zc5006 := eqK rfl (show (0 : Int32).toInt = 0 by decide) c5006
            refine lv_iconst (v := 0) hx hb dX10_canWalk_44 (by decide) ?_
            exact retRz hx hb hr hlk hS dX10_canWalk_45 (rfl) (show (0 : Int) ≤ (0 : Int32).toInt ∧ (0 : Int32).toInt ≤ 1 by have kk : (0 : Int32).toInt = 0 := (by decide); omega)
  exact B5 _ a2 0 s.heap [] ls (Nat.lt_succ_self _) (by decide) hP hS (lv_sub hl [2, 3, 1, 0] rfl)

