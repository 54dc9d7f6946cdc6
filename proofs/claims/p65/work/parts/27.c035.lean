set_option maxRecDepth 100000 in
set_option maxHeartbeats 16000000 in
theorem sX10_round_hi (l : Launch) (G : va_G) (cs : Nat → ClassId) (adm : Nat) (qm : Nat → Nat) (Fm : Nat → Int32) (Am : Nat → Nat → Int32) (Bm : Nat → Nat → Int64) (Dm : Int64) (hIm : IX10 Fm Am) (qms : Nat → Nat) (Fms : Nat → Int32) (Ams : Nat → Nat → Int32) (Bms : Nat → Nat → Int64) (Dms : Int64) (hIms : IX8 Fms Ams) (qmh : Nat → Nat) (Fmh : Nat → Int32) (Amh : Nat → Nat → Int32) (Bmh : Nat → Nat → Int64) (Dmh : Int64) (hImh : IX3 Fmh Amh) (qmn : Nat → Nat) (Fmn : Nat → Int32) (Amn : Nat → Nat → Int32) (Bmn : Nat → Nat → Int64) (Dmn : Int64) (hImn : IX5 Fmn Amn) (qmw : Nat → Nat) (Fmw : Nat → Int32) (Amw : Nat → Nat → Int32) (Bmw : Nat → Nat → Int64) (Dmw : Int64) (hImw : IX5 Fmw Amw) (a1 : Int32) (ha1 : (4 : Int) ≤ a1.toInt ∧ a1.toInt ≤ 2147483647) : ∀ sz : Nat, Met l yX10_round (wk yX10_round cX10_round 3 (some .int)) (rmk 3 0 0) (PreD G (TY cs) [.ref adm, .int a1] ((uX10 cs adm qm Fm Am Bm Dm) ++ ((uX8 cs (qm 3) qms Fms Ams Bms Dms) ++ ((uX3 cs (qms 0) qmh Fmh Amh Bmh Dmh) ++ ((uX5 cs (qm 6) qmn Fmn Amn Bmn Dmn) ++ (uX5 cs (qm 7) qmw Fmw Amw Bmw Dmw))))) sz) ((QDi G (fun (r : Int32) (u : Unit) => True) (fun u : Unit => ((uX10 cs adm qm Fm Am Bm Dm) ++ ((uX8 cs (qm 3) qms Fms Ams Bms Dms) ++ ((uX3 cs (qms 0) qmh Fmh Amh Bmh Dmh) ++ ((uX5 cs (qm 6) qmn Fmn Amn Bmn Dmn) ++ (uX5 cs (qm 7) qmw Fmw Amw Bmw Dmw))))))) (va_A ((uX10 cs adm qm Fm Am Bm Dm) ++ ((uX8 cs (qm 3) qms Fms Ams Bms Dms) ++ ((uX3 cs (qms 0) qmh Fmh Amh Bmh Dmh) ++ ((uX5 cs (qm 6) qmn Fmn Amn Bmn Dmn) ++ (uX5 cs (qm 7) qmw Fmw Amw Bmw Dmw))))) sz)) 0 0 (va_A ((uX10 cs adm qm Fm Am Bm Dm) ++ ((uX8 cs (qm 3) qms Fms Ams Bms Dms) ++ ((uX3 cs (qms 0) qmh Fmh Amh Bmh Dmh) ++ ((uX5 cs (qm 6) qmn Fmn Amn Bmn Dmn) ++ (uX5 cs (qm 7) qmw Fmw Amw Bmw Dmw))))) sz) := by
  refine mkD (Qc := (QDi G (fun (r : Int32) (u : Unit) => True) (fun u : Unit => ((uX10 cs adm qm Fm Am Bm Dm) ++ ((uX8 cs (qm 3) qms Fms Ams Bms Dms) ++ ((uX3 cs (qms 0) qmh Fmh Amh Bmh Dmh) ++ ((uX5 cs (qm 6) qmn Fmn Amn Bmn Dmn) ++ (uX5 cs (qm 7) qmw Fmw Amw Bmw Dmw)))))))) (by decide) (by simp [lg_sl, Value.category]) ?_
  intro p e s m args below meth c ls A0 hx hb hml hr hlk hown hmn ht hK hP hD hS hA hl
  have hl : lv_has ls 3 [(0, .ref adm), (1, .int a1)] := hl
  refine lv_aload_n hx hb dX10_round_0 rfl (lv_at hl 0 rfl) ?_
  refine lv_iload_n hx hb dX10_round_1 rfl (lv_at hl 1 rfl) ?_
  refine lv_iconst (v := 1) hx hb dX10_round_2 (by decide) ?_
  have bb1 := i32b a1
  refine behR (runVP (As := [.int a1, .int 1]) (rest := []) ⟨hx, hb, hml, hown, ht⟩ (sX10_askRound_hi l G cs adm qm Fm Am Bm Dm hIm qms Fms Ams Bms Dms hIms qmh Fmh Amh Bmh Dmh hImh a1 1 (by omega) (by decide)) okV_RX10_186 ⟨by decide, by decide⟩ hK hP [0, 1, 2, 3, 4, 5, 6, 7, 8, 9, 10, 11, 12] rfl 0 rfl rfl hl.1 rfl (Nat.le_of_ble_eq_true rfl) dX10_round_3 ⟨by decide, by decide⟩) hP hS hA (fun r2 H locs hr2 hP hS => ?_)
  have kk3 : (1 : Int32).toInt = 1 := by decide
  have hr2 : r2.toInt = -2 := hr2
  refine lv_istore_n (lv' := [(2, .int r2), (0, .ref adm), (1, .int a1)]) hx hb dX10_round_6 rfl hl (by decide) rfl (fun ls hl => ?_)
  refine lv_iload_n hx hb dX10_round_7 rfl (lv_at hl 0 rfl) ?_
  refine lv_if_eq (tgt := 15) hx hb dX10_round_8 (by decide) (fun c4 => False.elim (by have zz := eqK rfl (show (0 : Int32).toInt = 0 by decide) c4; omega)) (fun c4 => ?_)
  refine lv_iload_n hx hb dX10_round_11 rfl (lv_at hl 0 rfl) ?_
  refine lv_goto (tgt := 26) hx hb dX10_round_12 (by decide) ?_
  exact retDi () hx hb hr hlk hP hD hS dX10_round_26 (trivial) (Nat.le_of_ble_eq_true rfl) (Nat.le_of_ble_eq_true rfl)

set_option maxRecDepth 100000 in
set_option maxHeartbeats 16000000 in
theorem sX10_disturbs_0 (l : Launch) (G : va_G) (cs : Nat → ClassId) (adm : Nat) (qm : Nat → Nat) (Fm : Nat → Int32) (Am : Nat → Nat → Int32) (Bm : Nat → Nat → Int64) (Dm : Int64) (hIm : IX10 Fm Am) (qms : Nat → Nat) (Fms : Nat → Int32) (Ams : Nat → Nat → Int32) (Bms : Nat → Nat → Int64) (Dms : Int64) (hIms : IX8 Fms Ams) (qmh : Nat → Nat) (Fmh : Nat → Int32) (Amh : Nat → Nat → Int32) (Bmh : Nat → Nat → Int64) (Dmh : Int64) (hImh : IX3 Fmh Amh) (qr0 : Nat → Nat) (Fr0 : Nat → Int32) (Ar0 : Nat → Nat → Int32) (Br0 : Nat → Nat → Int64) (Dr0 : Int64) (hIr0 : IX7 Fr0 Ar0) : ∀ sz : Nat, Met l yX10_disturbs (wk yX10_disturbs cX10_disturbs 7 (some .int)) (rmk 3 0 0) (PreP G (TY cs) [.ref adm, .int 0] ((uX10 cs adm qm Fm Am Bm Dm) ++ ((uX8 cs (qm 3) qms Fms Ams Bms Dms) ++ ((uX3 cs (qms 0) qmh Fmh Amh Bmh Dmh) ++ (uX7 cs (qm 20) qr0 Fr0 Ar0 Br0 Dr0)))) sz) (QRi (fun r : Int32 => True) sz) 0 0 (fun q => sz ≤ q) := by
  refine mkP (Qc := QRi (fun r : Int32 => True)) (by decide) (by simp [lg_sl, Value.category]) ?_
  intro p e s m args below meth c ls hx hb hml hr hlk hown ht hK hP hS hl
  have hl : lv_has ls 7 [(0, .ref adm), (1, .int 0)] := hl
  refine lv_aload_n hx hb dX10_disturbs_0 rfl (lv_at hl 0 rfl) ?_
  refine lv_iload_n hx hb dX10_disturbs_1 rfl (lv_at hl 1 rfl) ?_
  refine lv_iconst (v := 1) hx hb dX10_disturbs_2 (by decide) ?_
  refine behR (runVP (As := [.int 0, .int 1]) (rest := []) ⟨hx, hb, hml, hown, ht⟩ (sX10_askRound_0 l G cs adm qm Fm Am Bm Dm hIm qms Fms Ams Bms Dms hIms qmh Fmh Amh Bmh Dmh hImh qr0 Fr0 Ar0 Br0 Dr0 hIr0 1 (by decide)) okV_RX10_186 ⟨by decide, by decide⟩ hK hP [0, 1, 2, 3, 4, 5, 6, 7, 8, 9, 10, 11, 12, 13, 14] rfl 0 rfl rfl hl.1 rfl (Nat.le_of_ble_eq_true rfl) dX10_disturbs_3 ⟨by decide, by decide⟩) hP hS (fun _ h => h) (fun r1 H locs hr1 hP hS => ?_)
  have kk2 : (0 : Int32).toInt = 0 := by decide
  have kk3 : (1 : Int32).toInt = 1 := by decide
  have hr1 : ((r1.toInt = 0 ∧ (1 : Int32).toInt = 1) ∨ r1.toInt = -2 ∨ r1.toInt = -6) ∧ RWk r1 0 (Br0 0) (-1) ((Fmh 5).toInt - 1) (Fr0 3).toInt := hr1
  refine lv_istore_n (lv' := [(2, .int r1), (0, .ref adm), (1, .int 0)]) hx hb dX10_disturbs_6 rfl hl (by decide) rfl (fun ls hl => ?_)
  refine lv_iload_n hx hb dX10_disturbs_7 rfl (lv_at hl 0 rfl) ?_
  refine lv_if_eq (tgt := 13) hx hb dX10_disturbs_8 (by decide) (fun c4 => ?_) (fun c4 => ?_)
  · have zc4 := eqK rfl (show (0 : Int32).toInt = 0 by decide) c4
    refine lv_aload_n hx hb dX10_disturbs_13 rfl (lv_at hl 1 rfl) ?_
    refine getF (v := .ref (qm 5)) hx hb ht hown hK hP iTX10 0 5 rfl rfl (by decide) fl_RX10_41 rfl dX10_disturbs_14 ?_
    refine lv_iload_n hx hb dX10_disturbs_17 rfl (lv_at hl 2 rfl) ?_
    refine va_aldq hx hb hK.1 hP 2 5 rfl rfl (show ¬ (_ ∨ _) by decide) dX10_disturbs_18 ?_
    refine W.eq (g2 := F0 m 19 ls [.ref (qm 20)]) rfl ?_
    refine lv_astore_n (lv' := [(3, .ref (qm 20)), (2, .int r1), (0, .ref adm), (1, .int 0)]) hx hb dX10_disturbs_19 rfl hl (by decide) rfl (fun ls hl => ?_)
    refine lv_iconst (v := 0) hx hb dX10_disturbs_20 (by decide) ?_
    refine lv_istore (lv' := [(4, .int 0), (3, .ref (qm 20)), (2, .int r1), (0, .ref adm), (1, .int 0)]) hx hb dX10_disturbs_21 hl (by decide) rfl (fun ls hl => ?_)
    refine lv_iconst (v := 0) hx hb dX10_disturbs_23 (by decide) ?_
    refine lv_istore (lv' := [(5, .int 0), (4, .int 0), (3, .ref (qm 20)), (2, .int r1), (0, .ref adm), (1, .int 0)]) hx hb dX10_disturbs_24 hl (by decide) rfl (fun ls hl => ?_)
    have B26 : ∀ (n : Nat) (x26_4 : Int32) (x26_5 : Int32) (H : Heap) (locs : List Loc) (ls : Array Slot), (60 - x26_5.toInt).toNat < n → (0 : Int) ≤ x26_5.toInt ∧ x26_5.toInt ≤ 60 → va_P G vwCl ((uX10 cs adm qm Fm Am Bm Dm) ++ ((uX8 cs (qm 3) qms Fms Ams Bms Dms) ++ ((uX3 cs (qms 0) qmh Fmh Amh Bmh Dmh) ++ (uX7 cs (qm 20) qr0 Fr0 Ar0 Br0 Dr0)))) H → va_S (fun q => s.heap.size ≤ q) s.heap H locs → lv_has ls 7 [(0, .ref adm), (3, .ref (qm 20)), (4, .int x26_4), (5, .int x26_5)] → W p l e (rmk 3 0 0) s m args below meth c H locs 0 0 (MQ below (QRi (fun r : Int32 => True) s.heap.size) args s 0 0 (fun q => s.heap.size ≤ q)) (F0 m 26 ls []) := by
      intro n
      induction n with
      | zero => intro x26_4 x26_5 H locs ls hmeas hx26_5 hP hS hl; exact absurd hmeas (Nat.not_lt_zero _)
      | succ n ih26 =>
        intro x26_4 x26_5 H locs ls hmeas hx26_5 hP hS hl
        refine lv_iload hx hb dX10_disturbs_26 (lv_at hl 3 rfl) ?_
        refine lv_aload_n hx hb dX10_disturbs_28 rfl (lv_at hl 1 rfl) ?_
        refine getF (v := .int (Fr0 3)) hx hb ht hown hK hP iTX7 13 3 rfl rfl (by decide) fl_RX10_194 rfl dX10_disturbs_29 ?_
        have zf19001 : (0 : Int) ≤ (Fr0 3).toInt ∧ (Fr0 3).toInt ≤ 60 := hIr0.1 3
        refine lv_icmp_ge (tgt := 73) hx hb dX10_disturbs_32 (by decide) (fun c19002 => ?_) (fun c19002 => ?_)
        · have zc19002 := leK rfl rfl c19002
          refine lv_iload hx hb dX10_disturbs_73 (lv_at hl 2 rfl) ?_
          exact retRi hx hb hr hlk hS dX10_disturbs_75 (trivial)
        · have zc19002 := nleK rfl rfl c19002
          refine lv_aload_n hx hb dX10_disturbs_35 rfl (lv_at hl 1 rfl) ?_
          refine lv_iload hx hb dX10_disturbs_36 (lv_at hl 3 rfl) ?_
          refine behR (runVP (As := [.int x26_5]) (rest := []) ⟨hx, hb, hml, hown, ht⟩ (sX7_roomAt l G cs (qm 20) qr0 Fr0 Ar0 Br0 Dr0 hIr0 x26_5 ) okV_RX10_195 ⟨by decide, by decide⟩ hK hP [13, 14] rfl 13 rfl rfl hl.1 rfl (Nat.le_of_ble_eq_true rfl) dX10_disturbs_38 ⟨by decide, by decide⟩) hP hS (fun _ h => h) (fun r19003 H locs hr19003 hP hS => ?_)
          have hr19003 : RAt r19003 x26_5 (Br0 0) (Fr0 3).toInt := hr19003
          have z5r19003 : (0 : Int) ≤ (Fmh 5).toInt ∧ (Fmh 5).toInt ≤ 7 := hImh.1 5
          have zbr19003 := RWr hr19003 (hr1.2 (by omega)) (by omega) (by omega) (by omega) (by omega)
          refine lv_istore (lv' := [(6, .int r19003), (0, .ref adm), (3, .ref (qm 20)), (4, .int x26_4), (5, .int x26_5)]) hx hb dX10_disturbs_41 hl (by decide) rfl (fun ls hl => ?_)
          refine lv_iload hx hb dX10_disturbs_43 (lv_at hl 0 rfl) ?_
          refine lv_iconst (v := (-1)) hx hb dX10_disturbs_45 (by decide) ?_
          have B67 : ∀ (x67_4 : Int32) (H : Heap) (locs : List Loc) (ls : Array Slot), va_P G vwCl ((uX10 cs adm qm Fm Am Bm Dm) ++ ((uX8 cs (qm 3) qms Fms Ams Bms Dms) ++ ((uX3 cs (qms 0) qmh Fmh Amh Bmh Dmh) ++ (uX7 cs (qm 20) qr0 Fr0 Ar0 Br0 Dr0)))) H → va_S (fun q => s.heap.size ≤ q) s.heap H locs → lv_has ls 7 [(0, .ref adm), (3, .ref (qm 20)), (4, .int x67_4), (5, .int x26_5)] → W p l e (rmk 3 0 0) s m args below meth c H locs 0 0 (MQ below (QRi (fun r : Int32 => True) s.heap.size) args s 0 0 (fun q => s.heap.size ≤ q)) (F0 m 67 ls []) := by
            intro x67_4 H locs ls hP hS hl
            obtain ⟨v39001, ev39001⟩ : ∃ z : Int32, z = x26_5 + 1 := ⟨_, rfl⟩
            have tv39001 : v39001.toInt = x26_5.toInt + 1 := by rw [ev39001]; exact addT rfl (by decide) (by omega)
            refine lv_iinc (v := v39001) (lv' := [(5, .int v39001), (0, .ref adm), (3, .ref (qm 20)), (4, .int x67_4)]) hx hb dX10_disturbs_67 hl (k := 3) rfl (by rw [ev39001]; rfl) (by decide) rfl (fun ls hl => ?_)
            refine lv_goto (tgt := 26) hx hb dX10_disturbs_70 (by decide) ?_
            exact ih26 x67_4 v39001 H locs ls (by omega) (by omega) hP hS (lv_sub hl [1, 2, 3, 0] rfl)
          refine lv_icmp_eq (tgt := 67) hx hb dX10_disturbs_46 (by decide) (fun c19004 => ?_) (fun c19004 => ?_)
          · have zc19004 := eqK rfl (show (-1 : Int32).toInt = (-1) by decide) c19004
            exact B67 x26_4 H locs ls hP hS (lv_sub hl [1, 2, 3, 4] rfl)
          · have zc19004 := neK rfl (show (-1 : Int32).toInt = (-1) by decide) c19004
            refine lv_iload hx hb dX10_disturbs_49 (lv_at hl 3 rfl) ?_
            refine lv_aload_n hx hb dX10_disturbs_51 rfl (lv_at hl 1 rfl) ?_
            refine getF (v := .ref (qm 3)) hx hb ht hown hK hP iTX10 0 3 rfl rfl (by decide) fl_RX10_31 rfl dX10_disturbs_52 ?_
            refine getF (v := .ref (qms 0)) hx hb ht hown hK hP iTX8 3 0 rfl rfl (by decide) fl_RX10_98 rfl dX10_disturbs_55 ?_
            refine getF (v := .ref (qmh 7)) hx hb ht hown hK hP iTX3 5 7 rfl rfl (by decide) fl_RX10_198 rfl dX10_disturbs_58 ?_
            refine lv_iload hx hb dX10_disturbs_61 (lv_at hl 0 rfl) ?_
            refine va_iald hx hb hK.1 hP 6 0 rfl rfl (inK rfl (by omega) (by decide)) dX10_disturbs_63 ?_
            refine lv_topi (fun v19005 ev19005 => ?_)
            refine lv_iadd hx hb dX10_disturbs_64 ?_
            refine lv_topi (fun v19006 ev19006 => ?_)
            refine lv_istore (lv' := [(4, .int v19006), (6, .int r19003), (0, .ref adm), (3, .ref (qm 20)), (5, .int x26_5)]) hx hb dX10_disturbs_65 hl (by decide) rfl (fun ls hl => ?_)
            exact B67 v19006 H locs ls hP hS (lv_sub hl [2, 3, 0, 4] rfl)
    exact B26 _ 0 0 H locs ls (Nat.lt_succ_self _) (by decide) hP hS (lv_sub hl [4, 2, 1, 0] rfl)
  · have zc4 := neK rfl (show (0 : Int32).toInt = 0 by decide) c4
    refine lv_iload_n hx hb dX10_disturbs_11 rfl (lv_at hl 0 rfl) ?_
    exact retRi hx hb hr hlk hS dX10_disturbs_12 (trivial)

set_option maxRecDepth 100000 in
set_option maxHeartbeats 16000000 in
theorem sX10_disturbs_1 (l : Launch) (G : va_G) (cs : Nat → ClassId) (adm : Nat) (qm : Nat → Nat) (Fm : Nat → Int32) (Am : Nat → Nat → Int32) (Bm : Nat → Nat → Int64) (Dm : Int64) (hIm : IX10 Fm Am) (qms : Nat → Nat) (Fms : Nat → Int32) (Ams : Nat → Nat → Int32) (Bms : Nat → Nat → Int64) (Dms : Int64) (hIms : IX8 Fms Ams) (qmh : Nat → Nat) (Fmh : Nat → Int32) (Amh : Nat → Nat → Int32) (Bmh : Nat → Nat → Int64) (Dmh : Int64) (hImh : IX3 Fmh Amh) (qr1 : Nat → Nat) (Fr1 : Nat → Int32) (Ar1 : Nat → Nat → Int32) (Br1 : Nat → Nat → Int64) (Dr1 : Int64) (hIr1 : IX7 Fr1 Ar1) : ∀ sz : Nat, Met l yX10_disturbs (wk yX10_disturbs cX10_disturbs 7 (some .int)) (rmk 3 0 0) (PreP G (TY cs) [.ref adm, .int 1] ((uX10 cs adm qm Fm Am Bm Dm) ++ ((uX8 cs (qm 3) qms Fms Ams Bms Dms) ++ ((uX3 cs (qms 0) qmh Fmh Amh Bmh Dmh) ++ (uX7 cs (qm 21) qr1 Fr1 Ar1 Br1 Dr1)))) sz) (QRi (fun r : Int32 => True) sz) 0 0 (fun q => sz ≤ q) := by
  refine mkP (Qc := QRi (fun r : Int32 => True)) (by decide) (by simp [lg_sl, Value.category]) ?_
  intro p e s m args below meth c ls hx hb hml hr hlk hown ht hK hP hS hl
  have hl : lv_has ls 7 [(0, .ref adm), (1, .int 1)] := hl
  refine lv_aload_n hx hb dX10_disturbs_0 rfl (lv_at hl 0 rfl) ?_
  refine lv_iload_n hx hb dX10_disturbs_1 rfl (lv_at hl 1 rfl) ?_
  refine lv_iconst (v := 1) hx hb dX10_disturbs_2 (by decide) ?_
  refine behR (runVP (As := [.int 1, .int 1]) (rest := []) ⟨hx, hb, hml, hown, ht⟩ (sX10_askRound_1 l G cs adm qm Fm Am Bm Dm hIm qms Fms Ams Bms Dms hIms qmh Fmh Amh Bmh Dmh hImh qr1 Fr1 Ar1 Br1 Dr1 hIr1 1 (by decide)) okV_RX10_186 ⟨by decide, by decide⟩ hK hP [0, 1, 2, 3, 4, 5, 6, 7, 8, 9, 10, 11, 12, 13, 14] rfl 0 rfl rfl hl.1 rfl (Nat.le_of_ble_eq_true rfl) dX10_disturbs_3 ⟨by decide, by decide⟩) hP hS (fun _ h => h) (fun r1 H locs hr1 hP hS => ?_)
  have kk2 : (1 : Int32).toInt = 1 := by decide
  have kk3 : (1 : Int32).toInt = 1 := by decide
  have hr1 : ((r1.toInt = 0 ∧ (1 : Int32).toInt = 1) ∨ r1.toInt = -2 ∨ r1.toInt = -6) ∧ RWk r1 0 (Br1 0) (-1) ((Fmh 5).toInt - 1) (Fr1 3).toInt := hr1
  refine lv_istore_n (lv' := [(2, .int r1), (0, .ref adm), (1, .int 1)]) hx hb dX10_disturbs_6 rfl hl (by decide) rfl (fun ls hl => ?_)
  refine lv_iload_n hx hb dX10_disturbs_7 rfl (lv_at hl 0 rfl) ?_
  refine lv_if_eq (tgt := 13) hx hb dX10_disturbs_8 (by decide) (fun c4 => ?_) (fun c4 => ?_)
  · have zc4 := eqK rfl (show (0 : Int32).toInt = 0 by decide) c4
    refine lv_aload_n hx hb dX10_disturbs_13 rfl (lv_at hl 1 rfl) ?_
    refine getF (v := .ref (qm 5)) hx hb ht hown hK hP iTX10 0 5 rfl rfl (by decide) fl_RX10_41 rfl dX10_disturbs_14 ?_
    refine lv_iload_n hx hb dX10_disturbs_17 rfl (lv_at hl 2 rfl) ?_
    refine va_aldq hx hb hK.1 hP 2 5 rfl rfl (show ¬ (_ ∨ _) by decide) dX10_disturbs_18 ?_
    refine W.eq (g2 := F0 m 19 ls [.ref (qm 21)]) rfl ?_
    refine lv_astore_n (lv' := [(3, .ref (qm 21)), (2, .int r1), (0, .ref adm), (1, .int 1)]) hx hb dX10_disturbs_19 rfl hl (by decide) rfl (fun ls hl => ?_)
    refine lv_iconst (v := 0) hx hb dX10_disturbs_20 (by decide) ?_
    refine lv_istore (lv' := [(4, .int 0), (3, .ref (qm 21)), (2, .int r1), (0, .ref adm), (1, .int 1)]) hx hb dX10_disturbs_21 hl (by decide) rfl (fun ls hl => ?_)
    refine lv_iconst (v := 0) hx hb dX10_disturbs_23 (by decide) ?_
    refine lv_istore (lv' := [(5, .int 0), (4, .int 0), (3, .ref (qm 21)), (2, .int r1), (0, .ref adm), (1, .int 1)]) hx hb dX10_disturbs_24 hl (by decide) rfl (fun ls hl => ?_)
    have B26 : ∀ (n : Nat) (x26_4 : Int32) (x26_5 : Int32) (H : Heap) (locs : List Loc) (ls : Array Slot), (60 - x26_5.toInt).toNat < n → (0 : Int) ≤ x26_5.toInt ∧ x26_5.toInt ≤ 60 → va_P G vwCl ((uX10 cs adm qm Fm Am Bm Dm) ++ ((uX8 cs (qm 3) qms Fms Ams Bms Dms) ++ ((uX3 cs (qms 0) qmh Fmh Amh Bmh Dmh) ++ (uX7 cs (qm 21) qr1 Fr1 Ar1 Br1 Dr1)))) H → va_S (fun q => s.heap.size ≤ q) s.heap H locs → lv_has ls 7 [(0, .ref adm), (3, .ref (qm 21)), (4, .int x26_4), (5, .int x26_5)] → W p l e (rmk 3 0 0) s m args below meth c H locs 0 0 (MQ below (QRi (fun r : Int32 => True) s.heap.size) args s 0 0 (fun q => s.heap.size ≤ q)) (F0 m 26 ls []) := by
      intro n
      induction n with
      | zero => intro x26_4 x26_5 H locs ls hmeas hx26_5 hP hS hl; exact absurd hmeas (Nat.not_lt_zero _)
      | succ n ih26 =>
        intro x26_4 x26_5 H locs ls hmeas hx26_5 hP hS hl
        refine lv_iload hx hb dX10_disturbs_26 (lv_at hl 3 rfl) ?_
        refine lv_aload_n hx hb dX10_disturbs_28 rfl (lv_at hl 1 rfl) ?_
        refine getF (v := .int (Fr1 3)) hx hb ht hown hK hP iTX7 13 3 rfl rfl (by decide) fl_RX10_194 rfl dX10_disturbs_29 ?_
        have zf19001 : (0 : Int) ≤ (Fr1 3).toInt ∧ (Fr1 3).toInt ≤ 60 := hIr1.1 3
        refine lv_icmp_ge (tgt := 73) hx hb dX10_disturbs_32 (by decide) (fun c19002 => ?_) (fun c19002 => ?_)
        · have zc19002 := leK rfl rfl c19002
          refine lv_iload hx hb dX10_disturbs_73 (lv_at hl 2 rfl) ?_
          exact retRi hx hb hr hlk hS dX10_disturbs_75 (trivial)
        · have zc19002 := nleK rfl rfl c19002
          refine lv_aload_n hx hb dX10_disturbs_35 rfl (lv_at hl 1 rfl) ?_
          refine lv_iload hx hb dX10_disturbs_36 (lv_at hl 3 rfl) ?_
          refine behR (runVP (As := [.int x26_5]) (rest := []) ⟨hx, hb, hml, hown, ht⟩ (sX7_roomAt l G cs (qm 21) qr1 Fr1 Ar1 Br1 Dr1 hIr1 x26_5 ) okV_RX10_195 ⟨by decide, by decide⟩ hK hP [13, 14] rfl 13 rfl rfl hl.1 rfl (Nat.le_of_ble_eq_true rfl) dX10_disturbs_38 ⟨by decide, by decide⟩) hP hS (fun _ h => h) (fun r19003 H locs hr19003 hP hS => ?_)
          have hr19003 : RAt r19003 x26_5 (Br1 0) (Fr1 3).toInt := hr19003
          have z5r19003 : (0 : Int) ≤ (Fmh 5).toInt ∧ (Fmh 5).toInt ≤ 7 := hImh.1 5
          have zbr19003 := RWr hr19003 (hr1.2 (by omega)) (by omega) (by omega) (by omega) (by omega)
          refine lv_istore (lv' := [(6, .int r19003), (0, .ref adm), (3, .ref (qm 21)), (4, .int x26_4), (5, .int x26_5)]) hx hb dX10_disturbs_41 hl (by decide) rfl (fun ls hl => ?_)
          refine lv_iload hx hb dX10_disturbs_43 (lv_at hl 0 rfl) ?_
          refine lv_iconst (v := (-1)) hx hb dX10_disturbs_45 (by decide) ?_
          have B67 : ∀ (x67_4 : Int32) (H : Heap) (locs : List Loc) (ls : Array Slot), va_P G vwCl ((uX10 cs adm qm Fm Am Bm Dm) ++ ((uX8 cs (qm 3) qms Fms Ams Bms Dms) ++ ((uX3 cs (qms 0) qmh Fmh Amh Bmh Dmh) ++ (uX7 cs (qm 21) qr1 Fr1 Ar1 Br1 Dr1)))) H → va_S (fun q => s.heap.size ≤ q) s.heap H locs → lv_has ls 7 [(0, .ref adm), (3, .ref (qm 21)), (4, .int x67_4), (5, .int x26_5)] → W p l e (rmk 3 0 0) s m args below meth c H locs 0 0 (MQ below (QRi (fun r : Int32 => True) s.heap.size) args s 0 0 (fun q => s.heap.size ≤ q)) (F0 m 67 ls []) := by
            intro x67_4 H locs ls hP hS hl
            obtain ⟨v39001, ev39001⟩ : ∃ z : Int32, z = x26_5 + 1 := ⟨_, rfl⟩
            have tv39001 : v39001.toInt = x26_5.toInt + 1 := by rw [ev39001]; exact addT rfl (by decide) (by omega)
            refine lv_iinc (v := v39001) (lv' := [(5, .int v39001), (0, .ref adm), (3, .ref (qm 21)), (4, .int x67_4)]) hx hb dX10_disturbs_67 hl (k := 3) rfl (by rw [ev39001]; rfl) (by decide) rfl (fun ls hl => ?_)
            refine lv_goto (tgt := 26) hx hb dX10_disturbs_70 (by decide) ?_
            exact ih26 x67_4 v39001 H locs ls (by omega) (by omega) hP hS (lv_sub hl [1, 2, 3, 0] rfl)
          refine lv_icmp_eq (tgt := 67) hx hb dX10_disturbs_46 (by decide) (fun c19004 => ?_) (fun c19004 => ?_)
          · have zc19004 := eqK rfl (show (-1 : Int32).toInt = (-1) by decide) c19004
            exact B67 x26_4 H locs ls hP hS (lv_sub hl [1, 2, 3, 4] rfl)
          · have zc19004 := neK rfl (show (-1 : Int32).toInt = (-1) by decide) c19004
            refine lv_iload hx hb dX10_disturbs_49 (lv_at hl 3 rfl) ?_
            refine lv_aload_n hx hb dX10_disturbs_51 rfl (lv_at hl 1 rfl) ?_
            refine getF (v := .ref (qm 3)) hx hb ht hown hK hP iTX10 0 3 rfl rfl (by decide) fl_RX10_31 rfl dX10_disturbs_52 ?_
            refine getF (v := .ref (qms 0)) hx hb ht hown hK hP iTX8 3 0 rfl rfl (by decide) fl_RX10_98 rfl dX10_disturbs_55 ?_
            refine getF (v := .ref (qmh 7)) hx hb ht hown hK hP iTX3 5 7 rfl rfl (by decide) fl_RX10_198 rfl dX10_disturbs_58 ?_
            refine lv_iload hx hb dX10_disturbs_61 (lv_at hl 0 rfl) ?_
            refine va_iald hx hb hK.1 hP 6 0 rfl rfl (inK rfl (by omega) (by decide)) dX10_disturbs_63 ?_
            refine lv_topi (fun v19005 ev19005 => ?_)
            refine lv_iadd hx hb dX10_disturbs_64 ?_
            refine lv_topi (fun v19006 ev19006 => ?_)
            refine lv_istore (lv' := [(4, .int v19006), (6, .int r19003), (0, .ref adm), (3, .ref (qm 21)), (5, .int x26_5)]) hx hb dX10_disturbs_65 hl (by decide) rfl (fun ls hl => ?_)
            exact B67 v19006 H locs ls hP hS (lv_sub hl [2, 3, 0, 4] rfl)
    exact B26 _ 0 0 H locs ls (Nat.lt_succ_self _) (by decide) hP hS (lv_sub hl [4, 2, 1, 0] rfl)
  · have zc4 := neK rfl (show (0 : Int32).toInt = 0 by decide) c4
    refine lv_iload_n hx hb dX10_disturbs_11 rfl (lv_at hl 0 rfl) ?_
    exact retRi hx hb hr hlk hS dX10_disturbs_12 (trivial)

set_option maxRecDepth 100000 in
set_option maxHeartbeats 16000000 in
theorem sX10_disturbs_2 (l : Launch) (G : va_G) (cs : Nat → ClassId) (adm : Nat) (qm : Nat → Nat) (Fm : Nat → Int32) (Am : Nat → Nat → Int32) (Bm : Nat → Nat → Int64) (Dm : Int64) (hIm : IX10 Fm Am) (qms : Nat → Nat) (Fms : Nat → Int32) (Ams : Nat → Nat → Int32) (Bms : Nat → Nat → Int64) (Dms : Int64) (hIms : IX8 Fms Ams) (qmh : Nat → Nat) (Fmh : Nat → Int32) (Amh : Nat → Nat → Int32) (Bmh : Nat → Nat → Int64) (Dmh : Int64) (hImh : IX3 Fmh Amh) (qr2 : Nat → Nat) (Fr2 : Nat → Int32) (Ar2 : Nat → Nat → Int32) (Br2 : Nat → Nat → Int64) (Dr2 : Int64) (hIr2 : IX7 Fr2 Ar2) : ∀ sz : Nat, Met l yX10_disturbs (wk yX10_disturbs cX10_disturbs 7 (some .int)) (rmk 3 0 0) (PreP G (TY cs) [.ref adm, .int 2] ((uX10 cs adm qm Fm Am Bm Dm) ++ ((uX8 cs (qm 3) qms Fms Ams Bms Dms) ++ ((uX3 cs (qms 0) qmh Fmh Amh Bmh Dmh) ++ (uX7 cs (qm 22) qr2 Fr2 Ar2 Br2 Dr2)))) sz) (QRi (fun r : Int32 => True) sz) 0 0 (fun q => sz ≤ q) := by
  refine mkP (Qc := QRi (fun r : Int32 => True)) (by decide) (by simp [lg_sl, Value.category]) ?_
  intro p e s m args below meth c ls hx hb hml hr hlk hown ht hK hP hS hl
  have hl : lv_has ls 7 [(0, .ref adm), (1, .int 2)] := hl
  refine lv_aload_n hx hb dX10_disturbs_0 rfl (lv_at hl 0 rfl) ?_
  refine lv_iload_n hx hb dX10_disturbs_1 rfl (lv_at hl 1 rfl) ?_
  refine lv_iconst (v := 1) hx hb dX10_disturbs_2 (by decide) ?_
  refine behR (runVP (As := [.int 2, .int 1]) (rest := []) ⟨hx, hb, hml, hown, ht⟩ (sX10_askRound_2 l G cs adm qm Fm Am Bm Dm hIm qms Fms Ams Bms Dms hIms qmh Fmh Amh Bmh Dmh hImh qr2 Fr2 Ar2 Br2 Dr2 hIr2 1 (by decide)) okV_RX10_186 ⟨by decide, by decide⟩ hK hP [0, 1, 2, 3, 4, 5, 6, 7, 8, 9, 10, 11, 12, 13, 14] rfl 0 rfl rfl hl.1 rfl (Nat.le_of_ble_eq_true rfl) dX10_disturbs_3 ⟨by decide, by decide⟩) hP hS (fun _ h => h) (fun r1 H locs hr1 hP hS => ?_)
  have kk2 : (2 : Int32).toInt = 2 := by decide
  have kk3 : (1 : Int32).toInt = 1 := by decide
  have hr1 : ((r1.toInt = 0 ∧ (1 : Int32).toInt = 1) ∨ r1.toInt = -2 ∨ r1.toInt = -6) ∧ RWk r1 0 (Br2 0) (-1) ((Fmh 5).toInt - 1) (Fr2 3).toInt := hr1
  refine lv_istore_n (lv' := [(2, .int r1), (0, .ref adm), (1, .int 2)]) hx hb dX10_disturbs_6 rfl hl (by decide) rfl (fun ls hl => ?_)
  refine lv_iload_n hx hb dX10_disturbs_7 rfl (lv_at hl 0 rfl) ?_
  refine lv_if_eq (tgt := 13) hx hb dX10_disturbs_8 (by decide) (fun c4 => ?_) (fun c4 => ?_)
  · have zc4 := eqK rfl (show (0 : Int32).toInt = 0 by decide) c4
    refine lv_aload_n hx hb dX10_disturbs_13 rfl (lv_at hl 1 rfl) ?_
    refine getF (v := .ref (qm 5)) hx hb ht hown hK hP iTX10 0 5 rfl rfl (by decide) fl_RX10_41 rfl dX10_disturbs_14 ?_
    refine lv_iload_n hx hb dX10_disturbs_17 rfl (lv_at hl 2 rfl) ?_
    refine va_aldq hx hb hK.1 hP 2 5 rfl rfl (show ¬ (_ ∨ _) by decide) dX10_disturbs_18 ?_
    refine W.eq (g2 := F0 m 19 ls [.ref (qm 22)]) rfl ?_
    refine lv_astore_n (lv' := [(3, .ref (qm 22)), (2, .int r1), (0, .ref adm), (1, .int 2)]) hx hb dX10_disturbs_19 rfl hl (by decide) rfl (fun ls hl => ?_)
    refine lv_iconst (v := 0) hx hb dX10_disturbs_20 (by decide) ?_
    refine lv_istore (lv' := [(4, .int 0), (3, .ref (qm 22)), (2, .int r1), (0, .ref adm), (1, .int 2)]) hx hb dX10_disturbs_21 hl (by decide) rfl (fun ls hl => ?_)
    refine lv_iconst (v := 0) hx hb dX10_disturbs_23 (by decide) ?_
    refine lv_istore (lv' := [(5, .int 0), (4, .int 0), (3, .ref (qm 22)), (2, .int r1), (0, .ref adm), (1, .int 2)]) hx hb dX10_disturbs_24 hl (by decide) rfl (fun ls hl => ?_)
    have B26 : ∀ (n : Nat) (x26_4 : Int32) (x26_5 : Int32) (H : Heap) (locs : List Loc) (ls : Array Slot), (60 - x26_5.toInt).toNat < n → (0 : Int) ≤ x26_5.toInt ∧ x26_5.toInt ≤ 60 → va_P G vwCl ((uX10 cs adm qm Fm Am Bm Dm) ++ ((uX8 cs (qm 3) qms Fms Ams Bms Dms) ++ ((uX3 cs (qms 0) qmh Fmh Amh Bmh Dmh) ++ (uX7 cs (qm 22) qr2 Fr2 Ar2 Br2 Dr2)))) H → va_S (fun q => s.heap.size ≤ q) s.heap H locs → lv_has ls 7 [(0, .ref adm), (3, .ref (qm 22)), (4, .int x26_4), (5, .int x26_5)] → W p l e (rmk 3 0 0) s m args below meth c H locs 0 0 (MQ below (QRi (fun r : Int32 => True) s.heap.size) args s 0 0 (fun q => s.heap.size ≤ q)) (F0 m 26 ls []) := by
      intro n
      induction n with
      | zero => intro x26_4 x26_5 H locs ls hmeas hx26_5 hP hS hl; exact absurd hmeas (Nat.not_lt_zero _)
      | succ n ih26 =>
        intro x26_4 x26_5 H locs ls hmeas hx26_5 hP hS hl
        refine lv_iload hx hb dX10_disturbs_26 (lv_at hl 3 rfl) ?_
        refine lv_aload_n hx hb dX10_disturbs_28 rfl (lv_at hl 1 rfl) ?_
        refine getF (v := .int (Fr2 3)) hx hb ht hown hK hP iTX7 13 3 rfl rfl (by decide) fl_RX10_194 rfl dX10_disturbs_29 ?_
        have zf19001 : (0 : Int) ≤ (Fr2 3).toInt ∧ (Fr2 3).toInt ≤ 60 := hIr2.1 3
        refine lv_icmp_ge (tgt := 73) hx hb dX10_disturbs_32 (by decide) (fun c19002 => ?_) (fun c19002 => ?_)
        · have zc19002 := leK rfl rfl c19002
          refine lv_iload hx hb dX10_disturbs_73 (lv_at hl 2 rfl) ?_
          exact retRi hx hb hr hlk hS dX10_disturbs_75 (trivial)
        · have zc19002 := nleK rfl rfl c19002
          refine lv_aload_n hx hb dX10_disturbs_35 rfl (lv_at hl 1 rfl) ?_
          refine lv_iload hx hb dX10_disturbs_36 (lv_at hl 3 rfl) ?_
          refine behR (runVP (As := [.int x26_5]) (rest := []) ⟨hx, hb, hml, hown, ht⟩ (sX7_roomAt l G cs (qm 22) qr2 Fr2 Ar2 Br2 Dr2 hIr2 x26_5 ) okV_RX10_195 ⟨by decide, by decide⟩ hK hP [13, 14] rfl 13 rfl rfl hl.1 rfl (Nat.le_of_ble_eq_true rfl) dX10_disturbs_38 ⟨by decide, by decide⟩) hP hS (fun _ h => h) (fun r19003 H locs hr19003 hP hS => ?_)
          have hr19003 : RAt r19003 x26_5 (Br2 0) (Fr2 3).toInt := hr19003
          have z5r19003 : (0 : Int) ≤ (Fmh 5).toInt ∧ (Fmh 5).toInt ≤ 7 := hImh.1 5
          have zbr19003 := RWr hr19003 (hr1.2 (by omega)) (by omega) (by omega) (by omega) (by omega)
          refine lv_istore (lv' := [(6, .int r19003), (0, .ref adm), (3, .ref (qm 22)), (4, .int x26_4), (5, .int x26_5)]) hx hb dX10_disturbs_41 hl (by decide) rfl (fun ls hl => ?_)
          refine lv_iload hx hb dX10_disturbs_43 (lv_at hl 0 rfl) ?_
          refine lv_iconst (v := (-1)) hx hb dX10_disturbs_45 (by decide) ?_
          have B67 : ∀ (x67_4 : Int32) (H : Heap) (locs : List Loc) (ls : Array Slot), va_P G vwCl ((uX10 cs adm qm Fm Am Bm Dm) ++ ((uX8 cs (qm 3) qms Fms Ams Bms Dms) ++ ((uX3 cs (qms 0) qmh Fmh Amh Bmh Dmh) ++ (uX7 cs (qm 22) qr2 Fr2 Ar2 Br2 Dr2)))) H → va_S (fun q => s.heap.size ≤ q) s.heap H locs → lv_has ls 7 [(0, .ref adm), (3, .ref (qm 22)), (4, .int x67_4), (5, .int x26_5)] → W p l e (rmk 3 0 0) s m args below meth c H locs 0 0 (MQ below (QRi (fun r : Int32 => True) s.heap.size) args s 0 0 (fun q => s.heap.size ≤ q)) (F0 m 67 ls []) := by
            intro x67_4 H locs ls hP hS hl
            obtain ⟨v39001, ev39001⟩ : ∃ z : Int32, z = x26_5 + 1 := ⟨_, rfl⟩
            have tv39001 : v39001.toInt = x26_5.toInt + 1 := by rw [ev39001]; exact addT rfl (by decide) (by omega)
            refine lv_iinc (v := v39001) (lv' := [(5, .int v39001), (0, .ref adm), (3, .ref (qm 22)), (4, .int x67_4)]) hx hb dX10_disturbs_67 hl (k := 3) rfl (by rw [ev39001]; rfl) (by decide) rfl (fun ls hl => ?_)
            refine lv_goto (tgt := 26) hx hb dX10_disturbs_70 (by decide) ?_
            exact ih26 x67_4 v39001 H locs ls (by omega) (by omega) hP hS (lv_sub hl [1, 2, 3, 0] rfl)
          refine lv_icmp_eq (tgt := 67) hx hb dX10_disturbs_46 (by decide) (fun c19004 => ?_) (fun c19004 => ?_)
          · have zc19004 := eqK rfl (show (-1 : Int32).toInt = (-1) by decide) c19004
            exact B67 x26_4 H locs ls hP hS (lv_sub hl [1, 2, 3, 4] rfl)
          · have zc19004 := neK rfl (show (-1 : Int32).toInt = (-1) by decide) c19004
            refine lv_iload hx hb dX10_disturbs_49 (lv_at hl 3 rfl) ?_
            refine lv_aload_n hx hb dX10_disturbs_51 rfl (lv_at hl 1 rfl) ?_
            refine getF (v := .ref (qm 3)) hx hb ht hown hK hP iTX10 0 3 rfl rfl (by decide) fl_RX10_31 rfl dX10_disturbs_52 ?_
            refine getF (v := .ref (qms 0)) hx hb ht hown hK hP iTX8 3 0 rfl rfl (by decide) fl_RX10_98 rfl dX10_disturbs_55 ?_
            refine getF (v := .ref (qmh 7)) hx hb ht hown hK hP iTX3 5 7 rfl rfl (by decide) fl_RX10_198 rfl dX10_disturbs_58 ?_
            refine lv_iload hx hb dX10_disturbs_61 (lv_at hl 0 rfl) ?_
            refine va_iald hx hb hK.1 hP 6 0 rfl rfl (inK rfl (by omega) (by decide)) dX10_disturbs_63 ?_
            refine lv_topi (fun v19005 ev19005 => ?_)
            refine lv_iadd hx hb dX10_disturbs_64 ?_
            refine lv_topi (fun v19006 ev19006 => ?_)
            refine lv_istore (lv' := [(4, .int v19006), (6, .int r19003), (0, .ref adm), (3, .ref (qm 22)), (5, .int x26_5)]) hx hb dX10_disturbs_65 hl (by decide) rfl (fun ls hl => ?_)
            exact B67 v19006 H locs ls hP hS (lv_sub hl [2, 3, 0, 4] rfl)
    exact B26 _ 0 0 H locs ls (Nat.lt_succ_self _) (by decide) hP hS (lv_sub hl [4, 2, 1, 0] rfl)
  · have zc4 := neK rfl (show (0 : Int32).toInt = 0 by decide) c4
    refine lv_iload_n hx hb dX10_disturbs_11 rfl (lv_at hl 0 rfl) ?_
    exact retRi hx hb hr hlk hS dX10_disturbs_12 (trivial)

set_option maxRecDepth 100000 in
set_option maxHeartbeats 16000000 in
theorem sX10_disturbs_3 (l : Launch) (G : va_G) (cs : Nat → ClassId) (adm : Nat) (qm : Nat → Nat) (Fm : Nat → Int32) (Am : Nat → Nat → Int32) (Bm : Nat → Nat → Int64) (Dm : Int64) (hIm : IX10 Fm Am) (qms : Nat → Nat) (Fms : Nat → Int32) (Ams : Nat → Nat → Int32) (Bms : Nat → Nat → Int64) (Dms : Int64) (hIms : IX8 Fms Ams) (qmh : Nat → Nat) (Fmh : Nat → Int32) (Amh : Nat → Nat → Int32) (Bmh : Nat → Nat → Int64) (Dmh : Int64) (hImh : IX3 Fmh Amh) (qr3 : Nat → Nat) (Fr3 : Nat → Int32) (Ar3 : Nat → Nat → Int32) (Br3 : Nat → Nat → Int64) (Dr3 : Int64) (hIr3 : IX7 Fr3 Ar3) : ∀ sz : Nat, Met l yX10_disturbs (wk yX10_disturbs cX10_disturbs 7 (some .int)) (rmk 3 0 0) (PreP G (TY cs) [.ref adm, .int 3] ((uX10 cs adm qm Fm Am Bm Dm) ++ ((uX8 cs (qm 3) qms Fms Ams Bms Dms) ++ ((uX3 cs (qms 0) qmh Fmh Amh Bmh Dmh) ++ (uX7 cs (qm 23) qr3 Fr3 Ar3 Br3 Dr3)))) sz) (QRi (fun r : Int32 => True) sz) 0 0 (fun q => sz ≤ q) := by
  refine mkP (Qc := QRi (fun r : Int32 => True)) (by decide) (by simp [lg_sl, Value.category]) ?_
  intro p e s m args below meth c ls hx hb hml hr hlk hown ht hK hP hS hl
  have hl : lv_has ls 7 [(0, .ref adm), (1, .int 3)] := hl
  refine lv_aload_n hx hb dX10_disturbs_0 rfl (lv_at hl 0 rfl) ?_
  refine lv_iload_n hx hb dX10_disturbs_1 rfl (lv_at hl 1 rfl) ?_
  refine lv_iconst (v := 1) hx hb dX10_disturbs_2 (by decide) ?_
  refine behR (runVP (As := [.int 3, .int 1]) (rest := []) ⟨hx, hb, hml, hown, ht⟩ (sX10_askRound_3 l G cs adm qm Fm Am Bm Dm hIm qms Fms Ams Bms Dms hIms qmh Fmh Amh Bmh Dmh hImh qr3 Fr3 Ar3 Br3 Dr3 hIr3 1 (by decide)) okV_RX10_186 ⟨by decide, by decide⟩ hK hP [0, 1, 2, 3, 4, 5, 6, 7, 8, 9, 10, 11, 12, 13, 14] rfl 0 rfl rfl hl.1 rfl (Nat.le_of_ble_eq_true rfl) dX10_disturbs_3 ⟨by decide, by decide⟩) hP hS (fun _ h => h) (fun r1 H locs hr1 hP hS => ?_)
  have kk2 : (3 : Int32).toInt = 3 := by decide
  have kk3 : (1 : Int32).toInt = 1 := by decide
  have hr1 : ((r1.toInt = 0 ∧ (1 : Int32).toInt = 1) ∨ r1.toInt = -2 ∨ r1.toInt = -6) ∧ RWk r1 0 (Br3 0) (-1) ((Fmh 5).toInt - 1) (Fr3 3).toInt := hr1
  refine lv_istore_n (lv' := [(2, .int r1), (0, .ref adm), (1, .int 3)]) hx hb dX10_disturbs_6 rfl hl (by decide) rfl (fun ls hl => ?_)
  refine lv_iload_n hx hb dX10_disturbs_7 rfl (lv_at hl 0 rfl) ?_
  refine lv_if_eq (tgt := 13) hx hb dX10_disturbs_8 (by decide) (fun c4 => ?_) (fun c4 => ?_)
  · have zc4 := eqK rfl (show (0 : Int32).toInt = 0 by decide) c4
    refine lv_aload_n hx hb dX10_disturbs_13 rfl (lv_at hl 1 rfl) ?_
    refine getF (v := .ref (qm 5)) hx hb ht hown hK hP iTX10 0 5 rfl rfl (by decide) fl_RX10_41 rfl dX10_disturbs_14 ?_
    refine lv_iload_n hx hb dX10_disturbs_17 rfl (lv_at hl 2 rfl) ?_
    refine va_aldq hx hb hK.1 hP 2 5 rfl rfl (show ¬ (_ ∨ _) by decide) dX10_disturbs_18 ?_
    refine W.eq (g2 := F0 m 19 ls [.ref (qm 23)]) rfl ?_
    refine lv_astore_n (lv' := [(3, .ref (qm 23)), (2, .int r1), (0, .ref adm), (1, .int 3)]) hx hb dX10_disturbs_19 rfl hl (by decide) rfl (fun ls hl => ?_)
    refine lv_iconst (v := 0) hx hb dX10_disturbs_20 (by decide) ?_
    refine lv_istore (lv' := [(4, .int 0), (3, .ref (qm 23)), (2, .int r1), (0, .ref adm), (1, .int 3)]) hx hb dX10_disturbs_21 hl (by decide) rfl (fun ls hl => ?_)
    refine lv_iconst (v := 0) hx hb dX10_disturbs_23 (by decide) ?_
    refine lv_istore (lv' := [(5, .int 0), (4, .int 0), (3, .ref (qm 23)), (2, .int r1), (0, .ref adm), (1, .int 3)]) hx hb dX10_disturbs_24 hl (by decide) rfl (fun ls hl => ?_)
    have B26 : ∀ (n : Nat) (x26_4 : Int32) (x26_5 : Int32) (H : Heap) (locs : List Loc) (ls : Array Slot), (60 - x26_5.toInt).toNat < n → (0 : Int) ≤ x26_5.toInt ∧ x26_5.toInt ≤ 60 → va_P G vwCl ((uX10 cs adm qm Fm Am Bm Dm) ++ ((uX8 cs (qm 3) qms Fms Ams Bms Dms) ++ ((uX3 cs (qms 0) qmh Fmh Amh Bmh Dmh) ++ (uX7 cs (qm 23) qr3 Fr3 Ar3 Br3 Dr3)))) H → va_S (fun q => s.heap.size ≤ q) s.heap H locs → lv_has ls 7 [(0, .ref adm), (3, .ref (qm 23)), (4, .int x26_4), (5, .int x26_5)] → W p l e (rmk 3 0 0) s m args below meth c H locs 0 0 (MQ below (QRi (fun r : Int32 => True) s.heap.size) args s 0 0 (fun q => s.heap.size ≤ q)) (F0 m 26 ls []) := by
      intro n
      induction n with
      | zero => intro x26_4 x26_5 H locs ls hmeas hx26_5 hP hS hl; exact absurd hmeas (Nat.not_lt_zero _)
      | succ n ih26 =>
        intro x26_4 x26_5 H locs ls hmeas hx26_5 hP hS hl
        refine lv_iload hx hb dX10_disturbs_26 (lv_at hl 3 rfl) ?_
        refine lv_aload_n hx hb dX10_disturbs_28 rfl (lv_at hl 1 rfl) ?_
        refine getF (v := .int (Fr3 3)) hx hb ht hown hK hP iTX7 13 3 rfl rfl (by decide) fl_RX10_194 rfl dX10_disturbs_29 ?_
        have zf19001 : (0 : Int) ≤ (Fr3 3).toInt ∧ (Fr3 3).toInt ≤ 60 := hIr3.1 3
        refine lv_icmp_ge (tgt := 73) hx hb dX10_disturbs_32 (by decide) (fun c19002 => ?_) (fun c19002 => ?_)
        · have zc19002 := leK rfl rfl c19002
          refine lv_iload hx hb dX10_disturbs_73 (lv_at hl 2 rfl) ?_
          exact retRi hx hb hr hlk hS dX10_disturbs_75 (trivial)
        · have zc19002 := nleK rfl rfl c19002
          refine lv_aload_n hx hb dX10_disturbs_35 rfl (lv_at hl 1 rfl) ?_
          refine lv_iload hx hb dX10_disturbs_36 (lv_at hl 3 rfl) ?_
          refine behR (runVP (As := [.int x26_5]) (rest := []) ⟨hx, hb, hml, hown, ht⟩ (sX7_roomAt l G cs (qm 23) qr3 Fr3 Ar3 Br3 Dr3 hIr3 x26_5 ) okV_RX10_195 ⟨by decide, by decide⟩ hK hP [13, 14] rfl 13 rfl rfl hl.1 rfl (Nat.le_of_ble_eq_true rfl) dX10_disturbs_38 ⟨by decide, by decide⟩) hP hS (fun _ h => h) (fun r19003 H locs hr19003 hP hS => ?_)
          have hr19003 : RAt r19003 x26_5 (Br3 0) (Fr3 3).toInt := hr19003
          have z5r19003 : (0 : Int) ≤ (Fmh 5).toInt ∧ (Fmh 5).toInt ≤ 7 := hImh.1 5
          have zbr19003 := RWr hr19003 (hr1.2 (by omega)) (by omega) (by omega) (by omega) (by omega)
          refine lv_istore (lv' := [(6, .int r19003), (0, .ref adm), (3, .ref (qm 23)), (4, .int x26_4), (5, .int x26_5)]) hx hb dX10_disturbs_41 hl (by decide) rfl (fun ls hl => ?_)
          refine lv_iload hx hb dX10_disturbs_43 (lv_at hl 0 rfl) ?_
          refine lv_iconst (v := (-1)) hx hb dX10_disturbs_45 (by decide) ?_
          have B67 : ∀ (x67_4 : Int32) (H : Heap) (locs : List Loc) (ls : Array Slot), va_P G vwCl ((uX10 cs adm qm Fm Am Bm Dm) ++ ((uX8 cs (qm 3) qms Fms Ams Bms Dms) ++ ((uX3 cs (qms 0) qmh Fmh Amh Bmh Dmh) ++ (uX7 cs (qm 23) qr3 Fr3 Ar3 Br3 Dr3)))) H → va_S (fun q => s.heap.size ≤ q) s.heap H locs → lv_has ls 7 [(0, .ref adm), (3, .ref (qm 23)), (4, .int x67_4), (5, .int x26_5)] → W p l e (rmk 3 0 0) s m args below meth c H locs 0 0 (MQ below (QRi (fun r : Int32 => True) s.heap.size) args s 0 0 (fun q => s.heap.size ≤ q)) (F0 m 67 ls []) := by
            intro x67_4 H locs ls hP hS hl
            obtain ⟨v39001, ev39001⟩ : ∃ z : Int32, z = x26_5 + 1 := ⟨_, rfl⟩
            have tv39001 : v39001.toInt = x26_5.toInt + 1 := by rw [ev39001]; exact addT rfl (by decide) (by omega)
            refine lv_iinc (v := v39001) (lv' := [(5, .int v39001), (0, .ref adm), (3, .ref (qm 23)), (4, .int x67_4)]) hx hb dX10_disturbs_67 hl (k := 3) rfl (by rw [ev39001]; rfl) (by decide) rfl (fun ls hl => ?_)
            refine lv_goto (tgt := 26) hx hb dX10_disturbs_70 (by decide) ?_
            exact ih26 x67_4 v39001 H locs ls (by omega) (by omega) hP hS (lv_sub hl [1, 2, 3, 0] rfl)
          refine lv_icmp_eq (tgt := 67) hx hb dX10_disturbs_46 (by decide) (fun c19004 => ?_) (fun c19004 => ?_)
          · have zc19004 := eqK rfl (show (-1 : Int32).toInt = (-1) by decide) c19004
            exact B67 x26_4 H locs ls hP hS (lv_sub hl [1, 2, 3, 4] rfl)
          · have zc19004 := neK rfl (show (-1 : Int32).toInt = (-1) by decide) c19004
            refine lv_iload hx hb dX10_disturbs_49 (lv_at hl 3 rfl) ?_
            refine lv_aload_n hx hb dX10_disturbs_51 rfl (lv_at hl 1 rfl) ?_
            refine getF (v := .ref (qm 3)) hx hb ht hown hK hP iTX10 0 3 rfl rfl (by decide) fl_RX10_31 rfl dX10_disturbs_52 ?_
            refine getF (v := .ref (qms 0)) hx hb ht hown hK hP iTX8 3 0 rfl rfl (by decide) fl_RX10_98 rfl dX10_disturbs_55 ?_
            refine getF (v := .ref (qmh 7)) hx hb ht hown hK hP iTX3 5 7 rfl rfl (by decide) fl_RX10_198 rfl dX10_disturbs_58 ?_
            refine lv_iload hx hb dX10_disturbs_61 (lv_at hl 0 rfl) ?_
            refine va_iald hx hb hK.1 hP 6 0 rfl rfl (inK rfl (by omega) (by decide)) dX10_disturbs_63 ?_
            refine lv_topi (fun v19005 ev19005 => ?_)
            refine lv_iadd hx hb dX10_disturbs_64 ?_
            refine lv_topi (fun v19006 ev19006 => ?_)
            refine lv_istore (lv' := [(4, .int v19006), (6, .int r19003), (0, .ref adm), (3, .ref (qm 23)), (5, .int x26_5)]) hx hb dX10_disturbs_65 hl (by decide) rfl (fun ls hl => ?_)
            exact B67 v19006 H locs ls hP hS (lv_sub hl [2, 3, 0, 4] rfl)
    exact B26 _ 0 0 H locs ls (Nat.lt_succ_self _) (by decide) hP hS (lv_sub hl [4, 2, 1, 0] rfl)
  · have zc4 := neK rfl (show (0 : Int32).toInt = 0 by decide) c4
    refine lv_iload_n hx hb dX10_disturbs_11 rfl (lv_at hl 0 rfl) ?_
    exact retRi hx hb hr hlk hS dX10_disturbs_12 (trivial)

set_option maxRecDepth 100000 in
set_option maxHeartbeats 16000000 in
theorem sX10_disturbs_lo (l : Launch) (G : va_G) (cs : Nat → ClassId) (adm : Nat) (qm : Nat → Nat) (Fm : Nat → Int32) (Am : Nat → Nat → Int32) (Bm : Nat → Nat → Int64) (Dm : Int64) (hIm : IX10 Fm Am) (qms : Nat → Nat) (Fms : Nat → Int32) (Ams : Nat → Nat → Int32) (Bms : Nat → Nat → Int64) (Dms : Int64) (hIms : IX8 Fms Ams) (qmh : Nat → Nat) (Fmh : Nat → Int32) (Amh : Nat → Nat → Int32) (Bmh : Nat → Nat → Int64) (Dmh : Int64) (hImh : IX3 Fmh Amh) (a1 : Int32) (ha1 : (-2147483648 : Int) ≤ a1.toInt ∧ a1.toInt ≤ -1) : ∀ sz : Nat, Met l yX10_disturbs (wk yX10_disturbs cX10_disturbs 7 (some .int)) (rmk 3 0 0) (PreP G (TY cs) [.ref adm, .int a1] ((uX10 cs adm qm Fm Am Bm Dm) ++ ((uX8 cs (qm 3) qms Fms Ams Bms Dms) ++ (uX3 cs (qms 0) qmh Fmh Amh Bmh Dmh))) sz) (QRi (fun r : Int32 => True) sz) 0 0 (fun q => sz ≤ q) := by
  refine mkP (Qc := QRi (fun r : Int32 => True)) (by decide) (by simp [lg_sl, Value.category]) ?_
  intro p e s m args below meth c ls hx hb hml hr hlk hown ht hK hP hS hl
  have hl : lv_has ls 7 [(0, .ref adm), (1, .int a1)] := hl
  refine lv_aload_n hx hb dX10_disturbs_0 rfl (lv_at hl 0 rfl) ?_
  refine lv_iload_n hx hb dX10_disturbs_1 rfl (lv_at hl 1 rfl) ?_
  refine lv_iconst (v := 1) hx hb dX10_disturbs_2 (by decide) ?_
  have bb1 := i32b a1
  refine behR (runVP (As := [.int a1, .int 1]) (rest := []) ⟨hx, hb, hml, hown, ht⟩ (sX10_askRound_lo l G cs adm qm Fm Am Bm Dm hIm qms Fms Ams Bms Dms hIms qmh Fmh Amh Bmh Dmh hImh a1 1 (by omega) (by decide)) okV_RX10_186 ⟨by decide, by decide⟩ hK hP [0, 1, 2, 3, 4, 5, 6, 7, 8, 9, 10, 11, 12] rfl 0 rfl rfl hl.1 rfl (Nat.le_of_ble_eq_true rfl) dX10_disturbs_3 ⟨by decide, by decide⟩) hP hS (fun _ h => h) (fun r2 H locs hr2 hP hS => ?_)
  have kk3 : (1 : Int32).toInt = 1 := by decide
  have hr2 : r2.toInt = -2 := hr2
  refine lv_istore_n (lv' := [(2, .int r2), (0, .ref adm), (1, .int a1)]) hx hb dX10_disturbs_6 rfl hl (by decide) rfl (fun ls hl => ?_)
  refine lv_iload_n hx hb dX10_disturbs_7 rfl (lv_at hl 0 rfl) ?_
  refine lv_if_eq (tgt := 13) hx hb dX10_disturbs_8 (by decide) (fun c4 => False.elim (by have zz := eqK rfl (show (0 : Int32).toInt = 0 by decide) c4; omega)) (fun c4 => ?_)
  refine lv_iload_n hx hb dX10_disturbs_11 rfl (lv_at hl 0 rfl) ?_
  exact retRi hx hb hr hlk hS dX10_disturbs_12 (trivial)

