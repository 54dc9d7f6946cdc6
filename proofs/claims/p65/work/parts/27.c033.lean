set_option maxRecDepth 100000 in
set_option maxHeartbeats 16000000 in
theorem sX10_likely (l : Launch) (G : va_G) (cs : Nat → ClassId) (adm : Nat) (qm : Nat → Nat) (Fm : Nat → Int32) (Am : Nat → Nat → Int32) (Bm : Nat → Nat → Int64) (Dm : Int64) (hIm : IX10 Fm Am) (qms : Nat → Nat) (Fms : Nat → Int32) (Ams : Nat → Nat → Int32) (Bms : Nat → Nat → Int64) (Dms : Int64) (hIms : IX8 Fms Ams) (qmh : Nat → Nat) (Fmh : Nat → Int32) (Amh : Nat → Nat → Int32) (Bmh : Nat → Nat → Int64) (Dmh : Int64) (hImh : IX3 Fmh Amh) (qmn : Nat → Nat) (Fmn : Nat → Int32) (Amn : Nat → Nat → Int32) (Bmn : Nat → Nat → Int64) (Dmn : Int64) (hImn : IX5 Fmn Amn) : ∀ sz : Nat, Met l yX10_likely (wk yX10_likely cX10_likely 3 (some .int)) (rmk 1 0 0) (PreP G (TY cs) [.ref adm] ((uX10 cs adm qm Fm Am Bm Dm) ++ ((uX8 cs (qm 3) qms Fms Ams Bms Dms) ++ ((uX3 cs (qms 0) qmh Fmh Amh Bmh Dmh) ++ (uX5 cs (qm 6) qmn Fmn Amn Bmn Dmn)))) sz) (QRi (fun r : Int32 => True) sz) 0 0 (fun q => sz ≤ q) := by
  refine mkP (Qc := QRi (fun r : Int32 => True)) (by decide) (by simp [lg_sl, Value.category]) ?_
  intro p e s m args below meth c ls hx hb hml hr hlk hown ht hK hP hS hl
  have hl : lv_has ls 3 [(0, .ref adm)] := hl
  refine lv_aload_n hx hb dX10_likely_0 rfl (lv_at hl 0 rfl) ?_
  refine behR (runVP (As := []) (rest := []) ⟨hx, hb, hml, hown, ht⟩ (sX10_hasHouse l G cs adm qm Fm Am Bm Dm hIm qms Fms Ams Bms Dms hIms qmh Fmh Amh Bmh Dmh hImh ) okV_RX10_152 ⟨by decide, by decide⟩ hK hP [0, 1, 2, 3, 4, 5, 6, 7, 8, 9, 10, 11, 12] rfl 0 rfl rfl hl.1 rfl (Nat.le_of_ble_eq_true rfl) dX10_likely_1 ⟨by decide, by decide⟩) hP hS (fun _ h => h) (fun r1 H locs hr1 hP hS => ?_)
  have hr1 : (0 : Int) ≤ r1.toInt ∧ r1.toInt ≤ 1 := hr1
  refine lv_if_ne (tgt := 10) hx hb dX10_likely_4 (by decide) (fun c2 => ?_) (fun c2 => ?_)
  · have zc2 := neK rfl (show (0 : Int32).toInt = 0 by decide) c2
    refine lv_iconst (v := (-1)) hx hb dX10_likely_10 (by decide) ?_
    refine lv_istore_n (lv' := [(1, .int (-1)), (0, .ref adm)]) hx hb dX10_likely_11 rfl hl (by decide) rfl (fun ls hl => ?_)
    refine lv_iconst (v := 0) hx hb dX10_likely_12 (by decide) ?_
    refine lv_istore_n (lv' := [(2, .int 0), (1, .int (-1)), (0, .ref adm)]) hx hb dX10_likely_13 rfl hl (by decide) rfl (fun ls hl => ?_)
    have B14 : ∀ (n : Nat) (x14_1 : Int32) (x14_2 : Int32) (H : Heap) (locs : List Loc) (ls : Array Slot), (7 - x14_2.toInt).toNat < n → (-1 : Int) ≤ x14_1.toInt ∧ x14_1.toInt ≤ 6 → (0 : Int) ≤ x14_2.toInt ∧ x14_2.toInt ≤ 7 → va_P G vwCl ((uX10 cs adm qm Fm Am Bm Dm) ++ ((uX8 cs (qm 3) qms Fms Ams Bms Dms) ++ ((uX3 cs (qms 0) qmh Fmh Amh Bmh Dmh) ++ (uX5 cs (qm 6) qmn Fmn Amn Bmn Dmn)))) H → va_S (fun q => s.heap.size ≤ q) s.heap H locs → lv_has ls 3 [(0, .ref adm), (1, .int x14_1), (2, .int x14_2)] → W p l e (rmk 1 0 0) s m args below meth c H locs 0 0 (MQ below (QRi (fun r : Int32 => True) s.heap.size) args s 0 0 (fun q => s.heap.size ≤ q)) (F0 m 14 ls []) := by
      intro n
      induction n with
      | zero => intro x14_1 x14_2 H locs ls hmeas hx14_1 hx14_2 hP hS hl; exact absurd hmeas (Nat.not_lt_zero _)
      | succ n ih14 =>
        intro x14_1 x14_2 H locs ls hmeas hx14_1 hx14_2 hP hS hl
        refine lv_iload_n hx hb dX10_likely_14 rfl (lv_at hl 2 rfl) ?_
        refine lv_aload_n hx hb dX10_likely_15 rfl (lv_at hl 0 rfl) ?_
        refine getF (v := .ref (qm 3)) hx hb ht hown hK hP iTX10 0 3 rfl rfl (by decide) fl_RX10_31 rfl dX10_likely_16 ?_
        refine getF (v := .ref (qms 0)) hx hb ht hown hK hP iTX8 3 0 rfl rfl (by decide) fl_RX10_98 rfl dX10_likely_19 ?_
        refine getF (v := .int (Fmh 5)) hx hb ht hown hK hP iTX3 5 5 rfl rfl (by decide) fl_RX10_159 rfl dX10_likely_22 ?_
        have zf10001 : (0 : Int) ≤ (Fmh 5).toInt ∧ (Fmh 5).toInt ≤ 7 := hImh.1 5
        refine lv_icmp_ge (tgt := 62) hx hb dX10_likely_25 (by decide) (fun c10002 => ?_) (fun c10002 => ?_)
        · have zc10002 := leK rfl rfl c10002
          refine lv_iload_n hx hb dX10_likely_62 rfl (lv_at hl 1 rfl) ?_
          exact retRi hx hb hr hlk hS dX10_likely_63 (trivial)
        · have zc10002 := nleK rfl rfl c10002
          refine lv_iload_n hx hb dX10_likely_28 rfl (lv_at hl 1 rfl) ?_
          refine lv_iconst (v := (-1)) hx hb dX10_likely_29 (by decide) ?_
          have B56 : ∀ (x56_1 : Int32) (H : Heap) (locs : List Loc) (ls : Array Slot), (0 : Int) ≤ x56_1.toInt ∧ x56_1.toInt ≤ 6 → va_P G vwCl ((uX10 cs adm qm Fm Am Bm Dm) ++ ((uX8 cs (qm 3) qms Fms Ams Bms Dms) ++ ((uX3 cs (qms 0) qmh Fmh Amh Bmh Dmh) ++ (uX5 cs (qm 6) qmn Fmn Amn Bmn Dmn)))) H → va_S (fun q => s.heap.size ≤ q) s.heap H locs → lv_has ls 3 [(0, .ref adm), (1, .int x56_1), (2, .int x14_2)] → W p l e (rmk 1 0 0) s m args below meth c H locs 0 0 (MQ below (QRi (fun r : Int32 => True) s.heap.size) args s 0 0 (fun q => s.heap.size ≤ q)) (F0 m 56 ls []) := by
            intro x56_1 H locs ls hx56_1 hP hS hl
            obtain ⟨v32001, ev32001⟩ : ∃ z : Int32, z = x14_2 + 1 := ⟨_, rfl⟩
            have tv32001 : v32001.toInt = x14_2.toInt + 1 := by rw [ev32001]; exact addT rfl (by decide) (by omega)
            refine lv_iinc (v := v32001) (lv' := [(2, .int v32001), (0, .ref adm), (1, .int x56_1)]) hx hb dX10_likely_56 hl (k := 2) rfl (by rw [ev32001]; rfl) (by decide) rfl (fun ls hl => ?_)
            refine lv_goto (tgt := 14) hx hb dX10_likely_59 (by decide) ?_
            exact ih14 x56_1 v32001 H locs ls (by omega) (by omega) (by omega) hP hS (lv_sub hl [1, 2, 0] rfl)
          have B54 : ∀ (H : Heap) (locs : List Loc) (ls : Array Slot), va_P G vwCl ((uX10 cs adm qm Fm Am Bm Dm) ++ ((uX8 cs (qm 3) qms Fms Ams Bms Dms) ++ ((uX3 cs (qms 0) qmh Fmh Amh Bmh Dmh) ++ (uX5 cs (qm 6) qmn Fmn Amn Bmn Dmn)))) H → va_S (fun q => s.heap.size ≤ q) s.heap H locs → lv_has ls 3 [(0, .ref adm), (2, .int x14_2)] → W p l e (rmk 1 0 0) s m args below meth c H locs 0 0 (MQ below (QRi (fun r : Int32 => True) s.heap.size) args s 0 0 (fun q => s.heap.size ≤ q)) (F0 m 54 ls []) := by
            intro H locs ls hP hS hl
            refine lv_iload_n hx hb dX10_likely_54 rfl (lv_at hl 1 rfl) ?_
            refine lv_istore_n (lv' := [(1, .int x14_2), (0, .ref adm), (2, .int x14_2)]) hx hb dX10_likely_55 rfl hl (by decide) rfl (fun ls hl => ?_)
            exact B56 x14_2 H locs ls (by omega) hP hS (lv_sub hl [1, 0, 2] rfl)
          refine lv_icmp_eq (tgt := 54) hx hb dX10_likely_30 (by decide) (fun c10003 => ?_) (fun c10003 => ?_)
          · have zc10003 := eqK rfl (show (-1 : Int32).toInt = (-1) by decide) c10003
            exact B54 H locs ls hP hS (lv_sub hl [0, 2] rfl)
          · have zc10003 := neK rfl (show (-1 : Int32).toInt = (-1) by decide) c10003
            refine lv_aload_n hx hb dX10_likely_33 rfl (lv_at hl 0 rfl) ?_
            refine getF (v := .ref (qm 6)) hx hb ht hown hK hP iTX10 0 6 rfl rfl (by decide) fl_RX10_48 rfl dX10_likely_34 ?_
            refine getF (v := .ref (qmn 0)) hx hb ht hown hK hP iTX5 13 0 rfl rfl (by decide) fl_RX10_162 rfl dX10_likely_37 ?_
            refine lv_iload_n hx hb dX10_likely_40 rfl (lv_at hl 2 rfl) ?_
            refine va_iald hx hb hK.1 hP 14 0 rfl rfl (inK rfl (by omega) (by decide)) dX10_likely_41 ?_
            refine lv_topi (fun v10004 ev10004 => ?_)
            refine lv_aload_n hx hb dX10_likely_42 rfl (lv_at hl 0 rfl) ?_
            refine getF (v := .ref (qm 6)) hx hb ht hown hK hP iTX10 0 6 rfl rfl (by decide) fl_RX10_48 rfl dX10_likely_43 ?_
            refine getF (v := .ref (qmn 0)) hx hb ht hown hK hP iTX5 13 0 rfl rfl (by decide) fl_RX10_162 rfl dX10_likely_46 ?_
            refine lv_iload_n hx hb dX10_likely_49 rfl (lv_at hl 1 rfl) ?_
            refine va_iald hx hb hK.1 hP 14 0 rfl rfl (inK rfl (by omega) (by decide)) dX10_likely_50 ?_
            refine lv_topi (fun v10005 ev10005 => ?_)
            refine lv_icmp_le (tgt := 56) hx hb dX10_likely_51 (by decide) (fun c10006 => ?_) (fun c10006 => ?_)
            · have zc10006 := leK rfl rfl c10006
              exact B56 x14_1 H locs ls (by omega) hP hS (lv_sub hl [0, 1, 2] rfl)
            · have zc10006 := nleK rfl rfl c10006
              exact B54 H locs ls hP hS (lv_sub hl [0, 2] rfl)
    exact B14 _ (-1) 0 H locs ls (Nat.lt_succ_self _) (by decide) (by decide) hP hS (lv_sub hl [2, 1, 0] rfl)
  · have zc2 := eqK rfl (show (0 : Int32).toInt = 0 by decide) c2
    refine lv_bipush (v := (-2)) hx hb dX10_likely_7 (by decide) ?_
    exact retRi hx hb hr hlk hS dX10_likely_9 (trivial)

set_option maxRecDepth 100000 in
set_option maxHeartbeats 16000000 in
theorem sX10_here (l : Launch) (G : va_G) (cs : Nat → ClassId) (adm : Nat) (qm : Nat → Nat) (Fm : Nat → Int32) (Am : Nat → Nat → Int32) (Bm : Nat → Nat → Int64) (Dm : Int64) (hIm : IX10 Fm Am) (qms : Nat → Nat) (Fms : Nat → Int32) (Ams : Nat → Nat → Int32) (Bms : Nat → Nat → Int64) (Dms : Int64) (hIms : IX8 Fms Ams) (qmh : Nat → Nat) (Fmh : Nat → Int32) (Amh : Nat → Nat → Int32) (Bmh : Nat → Nat → Int64) (Dmh : Int64) (hImh : IX3 Fmh Amh) (qmn : Nat → Nat) (Fmn : Nat → Int32) (Amn : Nat → Nat → Int32) (Bmn : Nat → Nat → Int64) (Dmn : Int64) (hImn : IX5 Fmn Amn) : ∀ sz : Nat, Met l yX10_here (wk yX10_here cX10_here 1 (some .int)) (rmk 2 0 0) (PreP G (TY cs) [.ref adm] ((uX10 cs adm qm Fm Am Bm Dm) ++ ((uX8 cs (qm 3) qms Fms Ams Bms Dms) ++ ((uX3 cs (qms 0) qmh Fmh Amh Bmh Dmh) ++ (uX5 cs (qm 6) qmn Fmn Amn Bmn Dmn)))) sz) (QRi (fun r : Int32 => True) sz) 0 0 (fun q => sz ≤ q) := by
  refine mkP (Qc := QRi (fun r : Int32 => True)) (by decide) (by simp [lg_sl, Value.category]) ?_
  intro p e s m args below meth c ls hx hb hml hr hlk hown ht hK hP hS hl
  have hl : lv_has ls 1 [(0, .ref adm)] := hl
  refine lv_aload_n hx hb dX10_here_0 rfl (lv_at hl 0 rfl) ?_
  refine behR (runVP (As := []) (rest := []) ⟨hx, hb, hml, hown, ht⟩ (sX10_hasHouse l G cs adm qm Fm Am Bm Dm hIm qms Fms Ams Bms Dms hIms qmh Fmh Amh Bmh Dmh hImh ) okV_RX10_152 ⟨by decide, by decide⟩ hK hP [0, 1, 2, 3, 4, 5, 6, 7, 8, 9, 10, 11, 12] rfl 0 rfl rfl hl.1 rfl (Nat.le_of_ble_eq_true rfl) dX10_here_1 ⟨by decide, by decide⟩) hP hS (fun _ h => h) (fun r1 H locs hr1 hP hS => ?_)
  have hr1 : (0 : Int) ≤ r1.toInt ∧ r1.toInt ≤ 1 := hr1
  refine lv_if_eq (tgt := 17) hx hb dX10_here_4 (by decide) (fun c2 => ?_) (fun c2 => ?_)
  · have zc2 := eqK rfl (show (0 : Int32).toInt = 0 by decide) c2
    refine lv_bipush (v := (-2)) hx hb dX10_here_17 (by decide) ?_
    exact retRi hx hb hr hlk hS dX10_here_19 (trivial)
  · have zc2 := neK rfl (show (0 : Int32).toInt = 0 by decide) c2
    refine lv_aload_n hx hb dX10_here_7 rfl (lv_at hl 0 rfl) ?_
    refine getF (v := .ref (qm 6)) hx hb ht hown hK hP iTX10 0 6 rfl rfl (by decide) fl_RX10_48 rfl dX10_here_8 ?_
    refine behR (runVP (As := []) (rest := []) ⟨hx, hb, hml, hown, ht⟩ (sX5_chanceHere l G cs (qm 6) qmn Fmn Amn Bmn Dmn hImn ) okV_RX10_165 ⟨by decide, by decide⟩ hK hP [13, 14, 15] rfl 13 rfl rfl hl.1 rfl (Nat.le_of_ble_eq_true rfl) dX10_here_11 ⟨by decide, by decide⟩) hP hS (fun _ h => h) (fun r3 H locs hr3 hP hS => ?_)
    refine lv_goto (tgt := 19) hx hb dX10_here_14 (by decide) ?_
    exact retRi hx hb hr hlk hS dX10_here_19 (trivial)

set_option maxRecDepth 100000 in
set_option maxHeartbeats 16000000 in
theorem sX10_chance (l : Launch) (G : va_G) (cs : Nat → ClassId) (adm : Nat) (qm : Nat → Nat) (Fm : Nat → Int32) (Am : Nat → Nat → Int32) (Bm : Nat → Nat → Int64) (Dm : Int64) (hIm : IX10 Fm Am) (qms : Nat → Nat) (Fms : Nat → Int32) (Ams : Nat → Nat → Int32) (Bms : Nat → Nat → Int64) (Dms : Int64) (hIms : IX8 Fms Ams) (qmh : Nat → Nat) (Fmh : Nat → Int32) (Amh : Nat → Nat → Int32) (Bmh : Nat → Nat → Int64) (Dmh : Int64) (hImh : IX3 Fmh Amh) (qmn : Nat → Nat) (Fmn : Nat → Int32) (Amn : Nat → Nat → Int32) (Bmn : Nat → Nat → Int64) (Dmn : Int64) (hImn : IX5 Fmn Amn) (a1 : Int32) : ∀ sz : Nat, Met l yX10_chance (wk yX10_chance cX10_chance 2 (some .int)) (rmk 3 0 0) (PreP G (TY cs) [.ref adm, .int a1] ((uX10 cs adm qm Fm Am Bm Dm) ++ ((uX8 cs (qm 3) qms Fms Ams Bms Dms) ++ ((uX3 cs (qms 0) qmh Fmh Amh Bmh Dmh) ++ (uX5 cs (qm 6) qmn Fmn Amn Bmn Dmn)))) sz) (QRi (fun r : Int32 => True) sz) 0 0 (fun q => sz ≤ q) := by
  refine mkP (Qc := QRi (fun r : Int32 => True)) (by decide) (by simp [lg_sl, Value.category]) ?_
  intro p e s m args below meth c ls hx hb hml hr hlk hown ht hK hP hS hl
  have hl : lv_has ls 2 [(0, .ref adm), (1, .int a1)] := hl
  refine lv_aload_n hx hb dX10_chance_0 rfl (lv_at hl 0 rfl) ?_
  refine lv_iload_n hx hb dX10_chance_1 rfl (lv_at hl 1 rfl) ?_
  refine behR (runVP (As := [.int a1]) (rest := []) ⟨hx, hb, hml, hown, ht⟩ (sX10_isRoomOrOut l G cs adm qm Fm Am Bm Dm hIm qms Fms Ams Bms Dms hIms qmh Fmh Amh Bmh Dmh hImh a1 ) okV_RX10_145 ⟨by decide, by decide⟩ hK hP [0, 1, 2, 3, 4, 5, 6, 7, 8, 9, 10, 11, 12] rfl 0 rfl rfl hl.1 rfl (Nat.le_of_ble_eq_true rfl) dX10_chance_2 ⟨by decide, by decide⟩) hP hS (fun _ h => h) (fun r1 H locs hr1 hP hS => ?_)
  have hr1 : (r1.toInt = 1 ∧ -1 ≤ a1.toInt ∧ a1.toInt ≤ 6) ∨ r1.toInt = 0 := hr1
  refine lv_if_eq (tgt := 26) hx hb dX10_chance_5 (by decide) (fun c2 => ?_) (fun c2 => ?_)
  · have zc2 := eqK rfl (show (0 : Int32).toInt = 0 by decide) c2
    refine lv_bipush (v := (-2)) hx hb dX10_chance_26 (by decide) ?_
    exact retRi hx hb hr hlk hS dX10_chance_28 (trivial)
  · have zc2 := neK rfl (show (0 : Int32).toInt = 0 by decide) c2
    refine lv_aload_n hx hb dX10_chance_8 rfl (lv_at hl 0 rfl) ?_
    refine getF (v := .ref (qm 6)) hx hb ht hown hK hP iTX10 0 6 rfl rfl (by decide) fl_RX10_48 rfl dX10_chance_9 ?_
    refine lv_aload_n hx hb dX10_chance_12 rfl (lv_at hl 0 rfl) ?_
    refine getF (v := .ref (qm 6)) hx hb ht hown hK hP iTX10 0 6 rfl rfl (by decide) fl_RX10_48 rfl dX10_chance_13 ?_
    refine lv_iload_n hx hb dX10_chance_16 rfl (lv_at hl 1 rfl) ?_
    refine behR (runVP (As := [.int a1]) (rest := [.ref (qm 6)]) ⟨hx, hb, hml, hown, ht⟩ (sX5_of l G cs (qm 6) qmn Fmn Amn Bmn Dmn hImn a1 ) okV_RX10_148 ⟨by decide, by decide⟩ hK hP [13, 14, 15] rfl 13 rfl rfl hl.1 rfl (Nat.le_of_ble_eq_true rfl) dX10_chance_17 ⟨by decide, by decide⟩) hP hS (fun _ h => h) (fun r3 H locs hr3 hP hS => ?_)
    refine behR (runVP (As := [.int r3]) (rest := []) ⟨hx, hb, hml, hown, ht⟩ (sX5_chanceOf l G cs (qm 6) qmn Fmn Amn Bmn Dmn hImn r3 ) okV_RX10_169 ⟨by decide, by decide⟩ hK hP [13, 14, 15] rfl 13 rfl rfl hl.1 rfl (Nat.le_of_ble_eq_true rfl) dX10_chance_20 ⟨by decide, by decide⟩) hP hS (fun _ h => h) (fun r4 H locs hr4 hP hS => ?_)
    refine lv_goto (tgt := 28) hx hb dX10_chance_23 (by decide) ?_
    exact retRi hx hb hr hlk hS dX10_chance_28 (trivial)

set_option maxRecDepth 100000 in
set_option maxHeartbeats 16000000 in
theorem sX10_call (l : Launch) (G : va_G) (cs : Nat → ClassId) (adm : Nat) (qm : Nat → Nat) (Fm : Nat → Int32) (Am : Nat → Nat → Int32) (Bm : Nat → Nat → Int64) (Dm : Int64) (hIm : IX10 Fm Am) (qms : Nat → Nat) (Fms : Nat → Int32) (Ams : Nat → Nat → Int32) (Bms : Nat → Nat → Int64) (Dms : Int64) (hIms : IX8 Fms Ams) (qmh : Nat → Nat) (Fmh : Nat → Int32) (Amh : Nat → Nat → Int32) (Bmh : Nat → Nat → Int64) (Dmh : Int64) (hImh : IX3 Fmh Amh) (qmn : Nat → Nat) (Fmn : Nat → Int32) (Amn : Nat → Nat → Int32) (Bmn : Nat → Nat → Int64) (Dmn : Int64) (hImn : IX5 Fmn Amn) (a1 : Int32) : ∀ sz : Nat, Met l yX10_call (wk yX10_call cX10_call 2 (some .int)) (rmk 4 0 0) (PreD G (TY cs) [.ref adm, .int a1] ((uX10 cs adm qm Fm Am Bm Dm) ++ ((uX8 cs (qm 3) qms Fms Ams Bms Dms) ++ ((uX3 cs (qms 0) qmh Fmh Amh Bmh Dmh) ++ (uX5 cs (qm 6) qmn Fmn Amn Bmn Dmn)))) sz) ((QDi G (fun (r : Int32) (u : Int32 × Int32 × (Nat → Int32) × (Nat → Int32) × (Nat → Int32)) => ((0 : Int) ≤ u.2.1.toInt ∧ u.2.1.toInt ≤ 60) ∧ (True)) (fun u : Int32 × Int32 × (Nat → Int32) × (Nat → Int32) × (Nat → Int32) => ((uX10 cs adm qm Fm Am Bm Dm) ++ ((wX8 cs (qm 3) qms (upd Fms 2 u.2.1) (vA Ams 1 u.2.2.2.2) Bms Dms) ++ ((uX3 cs (qms 0) qmh Fmh Amh Bmh Dmh) ++ (wX5 cs (qm 6) qmn (upd Fmn 3 u.1) (vA (vA Amn 0 u.2.2.1) 1 u.2.2.2.1) Bmn Dmn)))))) (va_A ((uX10 cs adm qm Fm Am Bm Dm) ++ ((uX8 cs (qm 3) qms Fms Ams Bms Dms) ++ ((uX3 cs (qms 0) qmh Fmh Amh Bmh Dmh) ++ (uX5 cs (qm 6) qmn Fmn Amn Bmn Dmn)))) sz)) 0 0 (va_A ((uX10 cs adm qm Fm Am Bm Dm) ++ ((uX8 cs (qm 3) qms Fms Ams Bms Dms) ++ ((uX3 cs (qms 0) qmh Fmh Amh Bmh Dmh) ++ (uX5 cs (qm 6) qmn Fmn Amn Bmn Dmn)))) sz) := by
  refine mkD (Qc := (QDi G (fun (r : Int32) (u : Int32 × Int32 × (Nat → Int32) × (Nat → Int32) × (Nat → Int32)) => ((0 : Int) ≤ u.2.1.toInt ∧ u.2.1.toInt ≤ 60) ∧ (True)) (fun u : Int32 × Int32 × (Nat → Int32) × (Nat → Int32) × (Nat → Int32) => ((uX10 cs adm qm Fm Am Bm Dm) ++ ((wX8 cs (qm 3) qms (upd Fms 2 u.2.1) (vA Ams 1 u.2.2.2.2) Bms Dms) ++ ((uX3 cs (qms 0) qmh Fmh Amh Bmh Dmh) ++ (wX5 cs (qm 6) qmn (upd Fmn 3 u.1) (vA (vA Amn 0 u.2.2.1) 1 u.2.2.2.1) Bmn Dmn))))))) (by decide) (by simp [lg_sl, Value.category]) ?_
  intro p e s m args below meth c ls A0 hx hb hml hr hlk hown hmn ht hK hP hD hS hA hl
  have hl : lv_has ls 2 [(0, .ref adm), (1, .int a1)] := hl
  refine lv_aload_n hx hb dX10_call_0 rfl (lv_at hl 0 rfl) ?_
  refine lv_iload_n hx hb dX10_call_1 rfl (lv_at hl 1 rfl) ?_
  refine behR (runVP (As := [.int a1]) (rest := []) ⟨hx, hb, hml, hown, ht⟩ (sX10_isRoomOrOut l G cs adm qm Fm Am Bm Dm hIm qms Fms Ams Bms Dms hIms qmh Fmh Amh Bmh Dmh hImh a1 ) okV_RX10_145 ⟨by decide, by decide⟩ hK hP [0, 1, 2, 3, 4, 5, 6, 7, 8, 9, 10, 11, 12] rfl 0 rfl rfl hl.1 rfl (Nat.le_of_ble_eq_true rfl) dX10_call_2 ⟨by decide, by decide⟩) hP hS hA (fun r1 H locs hr1 hP hS => ?_)
  have hr1 : (r1.toInt = 1 ∧ -1 ≤ a1.toInt ∧ a1.toInt ≤ 6) ∨ r1.toInt = 0 := hr1
  refine lv_if_ne (tgt := 11) hx hb dX10_call_5 (by decide) (fun c2 => ?_) (fun c2 => ?_)
  · have zc2 := neK rfl (show (0 : Int32).toInt = 0 by decide) c2
    refine lv_aload_n hx hb dX10_call_11 rfl (lv_at hl 0 rfl) ?_
    refine getF (v := .ref (qm 3)) hx hb ht hown hK hP iTX10 0 3 rfl rfl (by decide) fl_RX10_31 rfl dX10_call_12 ?_
    refine getF (v := .int (Fms 2)) hx hb ht hown hK hP iTX8 3 2 rfl rfl (by decide) fl_RX10_105 rfl dX10_call_15 ?_
    have zf3 : (0 : Int) ≤ (Fms 2).toInt ∧ (Fms 2).toInt ≤ 60 := hIms.1 2
    refine lv_bipush (v := 60) hx hb dX10_call_18 (by decide) ?_
    refine lv_icmp_lt (tgt := 26) hx hb dX10_call_20 (by decide) (fun c4 => ?_) (fun c4 => ?_)
    · have zc4 := ltK rfl (show (60 : Int32).toInt = 60 by decide) c4
      refine lv_aload_n hx hb dX10_call_26 rfl (lv_at hl 0 rfl) ?_
      refine getF (v := .ref (qm 3)) hx hb ht hown hK hP iTX10 0 3 rfl rfl (by decide) fl_RX10_31 rfl dX10_call_27 ?_
      refine getF (v := .ref (qms 1)) hx hb ht hown hK hP iTX8 3 1 rfl rfl (by decide) fl_RX10_172 rfl dX10_call_30 ?_
      refine lv_aload_n hx hb dX10_call_33 rfl (lv_at hl 0 rfl) ?_
      refine getF (v := .ref (qm 3)) hx hb ht hown hK hP iTX10 0 3 rfl rfl (by decide) fl_RX10_31 rfl dX10_call_34 ?_
      refine getF (v := .int (Fms 2)) hx hb ht hown hK hP iTX8 3 2 rfl rfl (by decide) fl_RX10_105 rfl dX10_call_37 ?_
      have zf5 : (0 : Int) ≤ (Fms 2).toInt ∧ (Fms 2).toInt ≤ 60 := hIms.1 2
      refine lv_iload_n hx hb dX10_call_40 rfl (lv_at hl 1 rfl) ?_
      refine va_iast hx hb hK.1 hP hD hS 4 0 rfl rfl (inK rfl (by omega) (by decide)) dX10_call_41 (fun H locs hP hD hS => ?_)
      obtain ⟨g6, hP, hD⟩ : ∃ g6 : Nat → Int32, va_P G vwCl ((uX10 cs adm qm Fm Am Bm Dm) ++ ((uX8 cs (qm 3) qms Fms (vB 1 g6 Ams) Bms Dms) ++ ((uX3 cs (qms 0) qmh Fmh Amh Bmh Dmh) ++ (uX5 cs (qm 6) qmn Fmn Amn Bmn Dmn)))) H ∧ va_D A0 ((uX10 cs adm qm Fm Am Bm Dm) ++ ((uX8 cs (qm 3) qms Fms (vB 1 g6 Ams) Bms Dms) ++ ((uX3 cs (qms 0) qmh Fmh Amh Bmh Dmh) ++ (uX5 cs (qm 6) qmn Fmn Amn Bmn Dmn)))) := ⟨upd (Ams 1) (Fms 2).toNatClampNeg a1, hP, hD⟩
      refine lv_aload_n hx hb dX10_call_42 rfl (lv_at hl 0 rfl) ?_
      refine getF (v := .ref (qm 3)) hx hb ht hown hK hP iTX10 0 3 rfl rfl (by decide) fl_RX10_31 rfl dX10_call_43 ?_
      refine lv_dup hx hb dX10_call_46 rfl ?_
      refine getF (v := .int (Fms 2)) hx hb ht hown hK hP iTX8 3 2 rfl rfl (by decide) fl_RX10_105 rfl dX10_call_47 ?_
      have zf7 : (0 : Int) ≤ (Fms 2).toInt ∧ (Fms 2).toInt ≤ 60 := hIms.1 2
      refine lv_iconst (v := 1) hx hb dX10_call_50 (by decide) ?_
      refine lv_iadd hx hb dX10_call_51 ?_
      refine lv_topi (fun v8 ev8 => ?_)
      have tv8 : v8.toInt = (Fms 2).toInt + 1 := by rw [ev8]; exact addT rfl (show (1 : Int32).toInt = 1 by decide) (by omega)
      refine putD hx hb ht hown hK hP hD hS iTX8 tyX8 tyX8_ok nmX8 3 2 rfl rfl (by decide) fl_RX10_105 rfl rfl rfl (Nat.le_of_ble_eq_true rfl) dX10_call_52 (fun H locs hP hD hS => ?_)
      have hP : va_P G vwCl ((uX10 cs adm qm Fm Am Bm Dm) ++ ((uX8 cs (qm 3) qms (upv 2 v8 Fms) (vB 1 g6 Ams) Bms Dms) ++ ((uX3 cs (qms 0) qmh Fmh Amh Bmh Dmh) ++ (uX5 cs (qm 6) qmn Fmn Amn Bmn Dmn)))) H := hP
      have hD : va_D A0 ((uX10 cs adm qm Fm Am Bm Dm) ++ ((uX8 cs (qm 3) qms (upv 2 v8 Fms) (vB 1 g6 Ams) Bms Dms) ++ ((uX3 cs (qms 0) qmh Fmh Amh Bmh Dmh) ++ (uX5 cs (qm 6) qmn Fmn Amn Bmn Dmn)))) := hD
      refine lv_aload_n hx hb dX10_call_55 rfl (lv_at hl 0 rfl) ?_
      refine getF (v := .ref (qm 6)) hx hb ht hown hK hP iTX10 0 6 rfl rfl (by decide) fl_RX10_48 rfl dX10_call_56 ?_
      refine lv_aload_n hx hb dX10_call_59 rfl (lv_at hl 0 rfl) ?_
      refine getF (v := .ref (qm 3)) hx hb ht hown hK hP iTX10 0 3 rfl rfl (by decide) fl_RX10_31 rfl dX10_call_60 ?_
      refine getF (v := .ref (qms 0)) hx hb ht hown hK hP iTX8 3 0 rfl rfl (by decide) fl_RX10_98 rfl dX10_call_63 ?_
      refine lv_iload_n hx hb dX10_call_66 rfl (lv_at hl 1 rfl) ?_
      refine lv_iconst (v := 0) hx hb dX10_call_67 (by decide) ?_
      refine behDi (wr := ((uX10 cs adm qm Fm Am Bm Dm) ++ (uX8 cs (qm 3) qms (upv 2 v8 Fms) (vB 1 g6 Ams) Bms Dms))) (runVD (As := [.ref (qms 0), .int a1, .int 0]) (rest := []) ⟨hx, hb, hml, hown, ht⟩ (sX5_live l G cs (qm 6) qmn Fmn Amn Bmn Dmn hImn (qms 0) qmh Fmh Amh Bmh Dmh hImh a1 0 (by decide)) okV_RX10_175 ⟨by decide, by decide⟩ hK hP hD [13, 14, 15, 5, 6, 7, 8, 9, 10, 11, 12] rfl (by decide) rfl 13 rfl rfl hl.1 rfl (Nat.le_of_ble_eq_true rfl) dX10_call_68 ⟨(Nat.le_of_ble_eq_true rfl), (Nat.le_of_ble_eq_true rfl)⟩) hP hD hS hA [13, 14, 15, 5, 6, 7, 8, 9, 10, 11, 12] [0, 1, 2, 3, 4] rfl rfl (by decide) (by decide) (fun r9 u H locs hu hP hD hS => ?_)
      obtain ⟨x9, g10, g11⟩ := u
      obtain ⟨r12, rfl⟩ : ∃ z, z = r9 := ⟨_, rfl⟩
      have hr12 := hu
      have hP : va_P G vwCl ((uX10 cs adm qm Fm Am Bm Dm) ++ ((uX8 cs (qm 3) qms (upv 2 v8 Fms) (vB 1 g6 Ams) Bms Dms) ++ ((uX3 cs (qms 0) qmh Fmh Amh Bmh Dmh) ++ (uX5 cs (qm 6) qmn (upv 3 x9 Fmn) (vB 1 g11 (vB 0 g10 Amn)) Bmn Dmn)))) H := hP.sub [0, 1, 2, 3, 4, 8, 9, 10, 11, 12, 13, 14, 15, 5, 6, 7] rfl
      have hD : va_D A0 ((uX10 cs adm qm Fm Am Bm Dm) ++ ((uX8 cs (qm 3) qms (upv 2 v8 Fms) (vB 1 g6 Ams) Bms Dms) ++ ((uX3 cs (qms 0) qmh Fmh Amh Bmh Dmh) ++ (uX5 cs (qm 6) qmn (upv 3 x9 Fmn) (vB 1 g11 (vB 0 g10 Amn)) Bmn Dmn)))) := hD.sub [0, 1, 2, 3, 4, 8, 9, 10, 11, 12, 13, 14, 15, 5, 6, 7] (by decide) rfl
      exact retDi (x9, v8, g10, g11, g6) hx hb hr hlk hP hD hS dX10_call_71 (⟨show (0 : Int) ≤ v8.toInt ∧ v8.toInt ≤ 60 by omega, trivial⟩) (Nat.le_of_ble_eq_true rfl) (Nat.le_of_ble_eq_true rfl)
    · have zc4 := nltK rfl (show (60 : Int32).toInt = 60 by decide) c4
      refine lv_bipush (v := (-5)) hx hb dX10_call_23 (by decide) ?_
      exact retDi ((Fmn 3), (Fms 2), (Amn 0), (Amn 1), (Ams 1)) hx hb hr hlk hP hD hS dX10_call_25 (⟨hIms.1 2, trivial⟩) (Nat.le_of_ble_eq_true rfl) (Nat.le_of_ble_eq_true rfl)
  · have zc2 := eqK rfl (show (0 : Int32).toInt = 0 by decide) c2
    refine lv_bipush (v := (-2)) hx hb dX10_call_8 (by decide) ?_
    exact retDi ((Fmn 3), (Fms 2), (Amn 0), (Amn 1), (Ams 1)) hx hb hr hlk hP hD hS dX10_call_10 (⟨hIms.1 2, trivial⟩) (Nat.le_of_ble_eq_true rfl) (Nat.le_of_ble_eq_true rfl)

set_option maxRecDepth 100000 in
set_option maxHeartbeats 16000000 in
theorem sX10_undo (l : Launch) (G : va_G) (cs : Nat → ClassId) (adm : Nat) (qm : Nat → Nat) (Fm : Nat → Int32) (Am : Nat → Nat → Int32) (Bm : Nat → Nat → Int64) (Dm : Int64) (hIm : IX10 Fm Am) (qms : Nat → Nat) (Fms : Nat → Int32) (Ams : Nat → Nat → Int32) (Bms : Nat → Nat → Int64) (Dms : Int64) (hIms : IX8 Fms Ams) (qmh : Nat → Nat) (Fmh : Nat → Int32) (Amh : Nat → Nat → Int32) (Bmh : Nat → Nat → Int64) (Dmh : Int64) (hImh : IX3 Fmh Amh) (qmn : Nat → Nat) (Fmn : Nat → Int32) (Amn : Nat → Nat → Int32) (Bmn : Nat → Nat → Int64) (Dmn : Int64) (hImn : IX5 Fmn Amn) : ∀ sz : Nat, Met l yX10_undo (wk yX10_undo cX10_undo 1 (some .int)) (rmk 5 0 0) (PreD G (TY cs) [.ref adm] ((uX10 cs adm qm Fm Am Bm Dm) ++ ((uX8 cs (qm 3) qms Fms Ams Bms Dms) ++ ((uX3 cs (qms 0) qmh Fmh Amh Bmh Dmh) ++ (uX5 cs (qm 6) qmn Fmn Amn Bmn Dmn)))) sz) ((QDi G (fun (r : Int32) (u : Int32 × Int32 × Int32 × (Nat → Int32) × (Nat → Int32)) => ((0 : Int) ≤ u.2.2.1.toInt ∧ u.2.2.1.toInt ≤ 60) ∧ (True)) (fun u : Int32 × Int32 × Int32 × (Nat → Int32) × (Nat → Int32) => ((uX10 cs adm qm Fm Am Bm Dm) ++ ((wX8 cs (qm 3) qms (upd Fms 2 u.2.2.1) Ams Bms Dms) ++ ((uX3 cs (qms 0) qmh Fmh Amh Bmh Dmh) ++ (wX5 cs (qm 6) qmn (upd (upd Fmn 2 u.1) 3 u.2.1) (vA (vA Amn 0 u.2.2.2.1) 1 u.2.2.2.2) Bmn Dmn)))))) (va_A ((uX10 cs adm qm Fm Am Bm Dm) ++ ((uX8 cs (qm 3) qms Fms Ams Bms Dms) ++ ((uX3 cs (qms 0) qmh Fmh Amh Bmh Dmh) ++ (uX5 cs (qm 6) qmn Fmn Amn Bmn Dmn)))) sz)) 0 0 (va_A ((uX10 cs adm qm Fm Am Bm Dm) ++ ((uX8 cs (qm 3) qms Fms Ams Bms Dms) ++ ((uX3 cs (qms 0) qmh Fmh Amh Bmh Dmh) ++ (uX5 cs (qm 6) qmn Fmn Amn Bmn Dmn)))) sz) := by
  refine mkD (Qc := (QDi G (fun (r : Int32) (u : Int32 × Int32 × Int32 × (Nat → Int32) × (Nat → Int32)) => ((0 : Int) ≤ u.2.2.1.toInt ∧ u.2.2.1.toInt ≤ 60) ∧ (True)) (fun u : Int32 × Int32 × Int32 × (Nat → Int32) × (Nat → Int32) => ((uX10 cs adm qm Fm Am Bm Dm) ++ ((wX8 cs (qm 3) qms (upd Fms 2 u.2.2.1) Ams Bms Dms) ++ ((uX3 cs (qms 0) qmh Fmh Amh Bmh Dmh) ++ (wX5 cs (qm 6) qmn (upd (upd Fmn 2 u.1) 3 u.2.1) (vA (vA Amn 0 u.2.2.2.1) 1 u.2.2.2.2) Bmn Dmn))))))) (by decide) (by simp [lg_sl, Value.category]) ?_
  intro p e s m args below meth c ls A0 hx hb hml hr hlk hown hmn ht hK hP hD hS hA hl
  have hl : lv_has ls 1 [(0, .ref adm)] := hl
  refine lv_aload_n hx hb dX10_undo_0 rfl (lv_at hl 0 rfl) ?_
  refine behR (runVP (As := []) (rest := []) ⟨hx, hb, hml, hown, ht⟩ (sX10_hasHouse l G cs adm qm Fm Am Bm Dm hIm qms Fms Ams Bms Dms hIms qmh Fmh Amh Bmh Dmh hImh ) okV_RX10_152 ⟨by decide, by decide⟩ hK hP [0, 1, 2, 3, 4, 5, 6, 7, 8, 9, 10, 11, 12] rfl 0 rfl rfl hl.1 rfl (Nat.le_of_ble_eq_true rfl) dX10_undo_1 ⟨by decide, by decide⟩) hP hS hA (fun r1 H locs hr1 hP hS => ?_)
  have hr1 : (0 : Int) ≤ r1.toInt ∧ r1.toInt ≤ 1 := hr1
  refine lv_if_ne (tgt := 10) hx hb dX10_undo_4 (by decide) (fun c2 => ?_) (fun c2 => ?_)
  · have zc2 := neK rfl (show (0 : Int32).toInt = 0 by decide) c2
    refine lv_aload_n hx hb dX10_undo_10 rfl (lv_at hl 0 rfl) ?_
    refine getF (v := .ref (qm 3)) hx hb ht hown hK hP iTX10 0 3 rfl rfl (by decide) fl_RX10_31 rfl dX10_undo_11 ?_
    refine getF (v := .int (Fms 2)) hx hb ht hown hK hP iTX8 3 2 rfl rfl (by decide) fl_RX10_105 rfl dX10_undo_14 ?_
    have zf3 : (0 : Int) ≤ (Fms 2).toInt ∧ (Fms 2).toInt ≤ 60 := hIms.1 2
    refine lv_iconst (v := 1) hx hb dX10_undo_17 (by decide) ?_
    refine lv_icmp_ge (tgt := 24) hx hb dX10_undo_18 (by decide) (fun c4 => ?_) (fun c4 => ?_)
    · have zc4 := leK (show (1 : Int32).toInt = 1 by decide) rfl c4
      refine lv_aload_n hx hb dX10_undo_24 rfl (lv_at hl 0 rfl) ?_
      refine getF (v := .ref (qm 3)) hx hb ht hown hK hP iTX10 0 3 rfl rfl (by decide) fl_RX10_31 rfl dX10_undo_25 ?_
      refine lv_dup hx hb dX10_undo_28 rfl ?_
      refine getF (v := .int (Fms 2)) hx hb ht hown hK hP iTX8 3 2 rfl rfl (by decide) fl_RX10_105 rfl dX10_undo_29 ?_
      have zf5 : (0 : Int) ≤ (Fms 2).toInt ∧ (Fms 2).toInt ≤ 60 := hIms.1 2
      refine lv_iconst (v := 1) hx hb dX10_undo_32 (by decide) ?_
      refine lv_isub hx hb dX10_undo_33 ?_
      refine lv_topi (fun v6 ev6 => ?_)
      have tv6 : v6.toInt = (Fms 2).toInt - 1 := by rw [ev6]; exact subT rfl (show (1 : Int32).toInt = 1 by decide) (by omega)
      refine putD hx hb ht hown hK hP hD hS iTX8 tyX8 tyX8_ok nmX8 3 2 rfl rfl (by decide) fl_RX10_105 rfl rfl rfl (Nat.le_of_ble_eq_true rfl) dX10_undo_34 (fun H locs hP hD hS => ?_)
      have hP : va_P G vwCl ((uX10 cs adm qm Fm Am Bm Dm) ++ ((uX8 cs (qm 3) qms (upv 2 v6 Fms) Ams Bms Dms) ++ ((uX3 cs (qms 0) qmh Fmh Amh Bmh Dmh) ++ (uX5 cs (qm 6) qmn Fmn Amn Bmn Dmn)))) H := hP
      have hD : va_D A0 ((uX10 cs adm qm Fm Am Bm Dm) ++ ((uX8 cs (qm 3) qms (upv 2 v6 Fms) Ams Bms Dms) ++ ((uX3 cs (qms 0) qmh Fmh Amh Bmh Dmh) ++ (uX5 cs (qm 6) qmn Fmn Amn Bmn Dmn)))) := hD
      refine lv_aload_n hx hb dX10_undo_37 rfl (lv_at hl 0 rfl) ?_
      refine behDw (wr := ([] : va_W)) (runVD (As := []) (rest := []) ⟨hx, hb, hml, hown, ht⟩ (sX10_replay l G cs adm qm Fm Am Bm Dm hIm qms (upv 2 v6 Fms) Ams Bms Dms (IB_pv (k := 2) hIms (show (0 : Int) ≤ v6.toInt ∧ v6.toInt ≤ 60 by omega)) qmh Fmh Amh Bmh Dmh hImh qmn Fmn Amn Bmn Dmn hImn ) okV_RX10_108 ⟨by decide, by decide⟩ hK hP hD [0, 1, 2, 3, 4, 5, 6, 7, 8, 9, 10, 11, 12, 13, 14, 15] rfl (by decide) rfl 0 rfl rfl hl.1 rfl (Nat.le_of_ble_eq_true rfl) dX10_undo_38 ⟨(Nat.le_of_ble_eq_true rfl), (Nat.le_of_ble_eq_true rfl)⟩) hP hD hS hA [0, 1, 2, 3, 4, 5, 6, 7, 8, 9, 10, 11, 12, 13, 14, 15] [] rfl rfl (by decide) (by decide) (fun u H locs hu hP hD hS => ?_)
      obtain ⟨x7, x8, g9, g10⟩ := u
      have hr11 := hu
      have hP : va_P G vwCl ((uX10 cs adm qm Fm Am Bm Dm) ++ ((uX8 cs (qm 3) qms (upv 2 v6 Fms) Ams Bms Dms) ++ ((uX3 cs (qms 0) qmh Fmh Amh Bmh Dmh) ++ (uX5 cs (qm 6) qmn (upv 3 x8 (upv 2 x7 Fmn)) (vB 1 g10 (vB 0 g9 Amn)) Bmn Dmn)))) H := hP.sub [0, 1, 2, 3, 4, 5, 6, 7, 8, 9, 10, 11, 12, 13, 14, 15] rfl
      have hD : va_D A0 ((uX10 cs adm qm Fm Am Bm Dm) ++ ((uX8 cs (qm 3) qms (upv 2 v6 Fms) Ams Bms Dms) ++ ((uX3 cs (qms 0) qmh Fmh Amh Bmh Dmh) ++ (uX5 cs (qm 6) qmn (upv 3 x8 (upv 2 x7 Fmn)) (vB 1 g10 (vB 0 g9 Amn)) Bmn Dmn)))) := hD.sub [0, 1, 2, 3, 4, 5, 6, 7, 8, 9, 10, 11, 12, 13, 14, 15] (by decide) rfl
      refine lv_aload_n hx hb dX10_undo_41 rfl (lv_at hl 0 rfl) ?_
      refine getF (v := .ref (qm 3)) hx hb ht hown hK hP iTX10 0 3 rfl rfl (by decide) fl_RX10_31 rfl dX10_undo_42 ?_
      refine getF (v := .int v6) hx hb ht hown hK hP iTX8 3 2 rfl rfl (by decide) fl_RX10_105 rfl dX10_undo_45 ?_
      exact retDi (x7, x8, v6, g9, g10) hx hb hr hlk hP hD hS dX10_undo_48 (⟨show (0 : Int) ≤ v6.toInt ∧ v6.toInt ≤ 60 by omega, trivial⟩) (Nat.le_of_ble_eq_true rfl) (Nat.le_of_ble_eq_true rfl)
    · have zc4 := nleK (show (1 : Int32).toInt = 1 by decide) rfl c4
      refine lv_bipush (v := (-5)) hx hb dX10_undo_21 (by decide) ?_
      exact retDi ((Fmn 2), (Fmn 3), (Fms 2), (Amn 0), (Amn 1)) hx hb hr hlk hP hD hS dX10_undo_23 (⟨hIms.1 2, trivial⟩) (Nat.le_of_ble_eq_true rfl) (Nat.le_of_ble_eq_true rfl)
  · have zc2 := eqK rfl (show (0 : Int32).toInt = 0 by decide) c2
    refine lv_bipush (v := (-2)) hx hb dX10_undo_7 (by decide) ?_
    exact retDi ((Fmn 2), (Fmn 3), (Fms 2), (Amn 0), (Amn 1)) hx hb hr hlk hP hD hS dX10_undo_9 (⟨hIms.1 2, trivial⟩) (Nat.le_of_ble_eq_true rfl) (Nat.le_of_ble_eq_true rfl)

set_option maxRecDepth 100000 in
set_option maxHeartbeats 16000000 in
theorem sX10_anew (l : Launch) (G : va_G) (cs : Nat → ClassId) (adm : Nat) (qm : Nat → Nat) (Fm : Nat → Int32) (Am : Nat → Nat → Int32) (Bm : Nat → Nat → Int64) (Dm : Int64) (hIm : IX10 Fm Am) (qms : Nat → Nat) (Fms : Nat → Int32) (Ams : Nat → Nat → Int32) (Bms : Nat → Nat → Int64) (Dms : Int64) (hIms : IX8 Fms Ams) (qmh : Nat → Nat) (Fmh : Nat → Int32) (Amh : Nat → Nat → Int32) (Bmh : Nat → Nat → Int64) (Dmh : Int64) (hImh : IX3 Fmh Amh) (qmn : Nat → Nat) (Fmn : Nat → Int32) (Amn : Nat → Nat → Int32) (Bmn : Nat → Nat → Int64) (Dmn : Int64) (hImn : IX5 Fmn Amn) : ∀ sz : Nat, Met l yX10_anew (wk yX10_anew cX10_anew 2 (some .int)) (rmk 5 0 0) (PreD G (TY cs) [.ref adm] ((uX10 cs adm qm Fm Am Bm Dm) ++ ((uX8 cs (qm 3) qms Fms Ams Bms Dms) ++ ((uX3 cs (qms 0) qmh Fmh Amh Bmh Dmh) ++ (uX5 cs (qm 6) qmn Fmn Amn Bmn Dmn)))) sz) ((QDi G (fun (r : Int32) (u : Int32 × Int32 × Int32 × (Nat → Int32) × (Nat → Int32)) => ((0 : Int) ≤ u.2.2.1.toInt ∧ u.2.2.1.toInt ≤ 60) ∧ (True)) (fun u : Int32 × Int32 × Int32 × (Nat → Int32) × (Nat → Int32) => ((uX10 cs adm qm Fm Am Bm Dm) ++ ((wX8 cs (qm 3) qms (upd Fms 2 u.2.2.1) Ams Bms Dms) ++ ((uX3 cs (qms 0) qmh Fmh Amh Bmh Dmh) ++ (wX5 cs (qm 6) qmn (upd (upd Fmn 2 u.1) 3 u.2.1) (vA (vA Amn 0 u.2.2.2.1) 1 u.2.2.2.2) Bmn Dmn)))))) (va_A ((uX10 cs adm qm Fm Am Bm Dm) ++ ((uX8 cs (qm 3) qms Fms Ams Bms Dms) ++ ((uX3 cs (qms 0) qmh Fmh Amh Bmh Dmh) ++ (uX5 cs (qm 6) qmn Fmn Amn Bmn Dmn)))) sz)) 0 0 (va_A ((uX10 cs adm qm Fm Am Bm Dm) ++ ((uX8 cs (qm 3) qms Fms Ams Bms Dms) ++ ((uX3 cs (qms 0) qmh Fmh Amh Bmh Dmh) ++ (uX5 cs (qm 6) qmn Fmn Amn Bmn Dmn)))) sz) := by
  refine mkD (Qc := (QDi G (fun (r : Int32) (u : Int32 × Int32 × Int32 × (Nat → Int32) × (Nat → Int32)) => ((0 : Int) ≤ u.2.2.1.toInt ∧ u.2.2.1.toInt ≤ 60) ∧ (True)) (fun u : Int32 × Int32 × Int32 × (Nat → Int32) × (Nat → Int32) => ((uX10 cs adm qm Fm Am Bm Dm) ++ ((wX8 cs (qm 3) qms (upd Fms 2 u.2.2.1) Ams Bms Dms) ++ ((uX3 cs (qms 0) qmh Fmh Amh Bmh Dmh) ++ (wX5 cs (qm 6) qmn (upd (upd Fmn 2 u.1) 3 u.2.1) (vA (vA Amn 0 u.2.2.2.1) 1 u.2.2.2.2) Bmn Dmn))))))) (by decide) (by simp [lg_sl, Value.category]) ?_
  intro p e s m args below meth c ls A0 hx hb hml hr hlk hown hmn ht hK hP hD hS hA hl
  have hl : lv_has ls 2 [(0, .ref adm)] := hl
  refine lv_aload_n hx hb dX10_anew_0 rfl (lv_at hl 0 rfl) ?_
  refine behR (runVP (As := []) (rest := []) ⟨hx, hb, hml, hown, ht⟩ (sX10_hasHouse l G cs adm qm Fm Am Bm Dm hIm qms Fms Ams Bms Dms hIms qmh Fmh Amh Bmh Dmh hImh ) okV_RX10_152 ⟨by decide, by decide⟩ hK hP [0, 1, 2, 3, 4, 5, 6, 7, 8, 9, 10, 11, 12] rfl 0 rfl rfl hl.1 rfl (Nat.le_of_ble_eq_true rfl) dX10_anew_1 ⟨by decide, by decide⟩) hP hS hA (fun r1 H locs hr1 hP hS => ?_)
  have hr1 : (0 : Int) ≤ r1.toInt ∧ r1.toInt ≤ 1 := hr1
  refine lv_if_ne (tgt := 10) hx hb dX10_anew_4 (by decide) (fun c2 => ?_) (fun c2 => ?_)
  · have zc2 := neK rfl (show (0 : Int32).toInt = 0 by decide) c2
    refine lv_aload_n hx hb dX10_anew_10 rfl (lv_at hl 0 rfl) ?_
    refine getF (v := .ref (qm 3)) hx hb ht hown hK hP iTX10 0 3 rfl rfl (by decide) fl_RX10_31 rfl dX10_anew_11 ?_
    refine getF (v := .int (Fms 2)) hx hb ht hown hK hP iTX8 3 2 rfl rfl (by decide) fl_RX10_105 rfl dX10_anew_14 ?_
    have zf3 : (0 : Int) ≤ (Fms 2).toInt ∧ (Fms 2).toInt ≤ 60 := hIms.1 2
    refine lv_istore_n (lv' := [(1, .int (Fms 2)), (0, .ref adm)]) hx hb dX10_anew_17 rfl hl (by decide) rfl (fun ls hl => ?_)
    refine lv_aload_n hx hb dX10_anew_18 rfl (lv_at hl 1 rfl) ?_
    refine getF (v := .ref (qm 3)) hx hb ht hown hK hP iTX10 0 3 rfl rfl (by decide) fl_RX10_31 rfl dX10_anew_19 ?_
    refine lv_iconst (v := 0) hx hb dX10_anew_22 (by decide) ?_
    refine putD hx hb ht hown hK hP hD hS iTX8 tyX8 tyX8_ok nmX8 3 2 rfl rfl (by decide) fl_RX10_105 rfl rfl rfl (Nat.le_of_ble_eq_true rfl) dX10_anew_23 (fun H locs hP hD hS => ?_)
    have hP : va_P G vwCl ((uX10 cs adm qm Fm Am Bm Dm) ++ ((uX8 cs (qm 3) qms (upv 2 (0 : Int32) Fms) Ams Bms Dms) ++ ((uX3 cs (qms 0) qmh Fmh Amh Bmh Dmh) ++ (uX5 cs (qm 6) qmn Fmn Amn Bmn Dmn)))) H := hP
    have hD : va_D A0 ((uX10 cs adm qm Fm Am Bm Dm) ++ ((uX8 cs (qm 3) qms (upv 2 (0 : Int32) Fms) Ams Bms Dms) ++ ((uX3 cs (qms 0) qmh Fmh Amh Bmh Dmh) ++ (uX5 cs (qm 6) qmn Fmn Amn Bmn Dmn)))) := hD
    refine lv_aload_n hx hb dX10_anew_26 rfl (lv_at hl 1 rfl) ?_
    refine behDw (wr := ([] : va_W)) (runVD (As := []) (rest := []) ⟨hx, hb, hml, hown, ht⟩ (sX10_replay l G cs adm qm Fm Am Bm Dm hIm qms (upv 2 (0 : Int32) Fms) Ams Bms Dms (IB_pv (k := 2) hIms (show (0 : Int) ≤ (0 : Int32).toInt ∧ (0 : Int32).toInt ≤ 60 by decide)) qmh Fmh Amh Bmh Dmh hImh qmn Fmn Amn Bmn Dmn hImn ) okV_RX10_108 ⟨by decide, by decide⟩ hK hP hD [0, 1, 2, 3, 4, 5, 6, 7, 8, 9, 10, 11, 12, 13, 14, 15] rfl (by decide) rfl 0 rfl rfl hl.1 rfl (Nat.le_of_ble_eq_true rfl) dX10_anew_27 ⟨(Nat.le_of_ble_eq_true rfl), (Nat.le_of_ble_eq_true rfl)⟩) hP hD hS hA [0, 1, 2, 3, 4, 5, 6, 7, 8, 9, 10, 11, 12, 13, 14, 15] [] rfl rfl (by decide) (by decide) (fun u H locs hu hP hD hS => ?_)
    obtain ⟨x4, x5, g6, g7⟩ := u
    have hr8 := hu
    have hP : va_P G vwCl ((uX10 cs adm qm Fm Am Bm Dm) ++ ((uX8 cs (qm 3) qms (upv 2 (0 : Int32) Fms) Ams Bms Dms) ++ ((uX3 cs (qms 0) qmh Fmh Amh Bmh Dmh) ++ (uX5 cs (qm 6) qmn (upv 3 x5 (upv 2 x4 Fmn)) (vB 1 g7 (vB 0 g6 Amn)) Bmn Dmn)))) H := hP.sub [0, 1, 2, 3, 4, 5, 6, 7, 8, 9, 10, 11, 12, 13, 14, 15] rfl
    have hD : va_D A0 ((uX10 cs adm qm Fm Am Bm Dm) ++ ((uX8 cs (qm 3) qms (upv 2 (0 : Int32) Fms) Ams Bms Dms) ++ ((uX3 cs (qms 0) qmh Fmh Amh Bmh Dmh) ++ (uX5 cs (qm 6) qmn (upv 3 x5 (upv 2 x4 Fmn)) (vB 1 g7 (vB 0 g6 Amn)) Bmn Dmn)))) := hD.sub [0, 1, 2, 3, 4, 5, 6, 7, 8, 9, 10, 11, 12, 13, 14, 15] (by decide) rfl
    refine lv_iload_n hx hb dX10_anew_30 rfl (lv_at hl 0 rfl) ?_
    exact retDi (x4, x5, (0 : Int32), g6, g7) hx hb hr hlk hP hD hS dX10_anew_31 (⟨show (0 : Int) ≤ (0 : Int32).toInt ∧ (0 : Int32).toInt ≤ 60 by decide, trivial⟩) (Nat.le_of_ble_eq_true rfl) (Nat.le_of_ble_eq_true rfl)
  · have zc2 := eqK rfl (show (0 : Int32).toInt = 0 by decide) c2
    refine lv_bipush (v := (-2)) hx hb dX10_anew_7 (by decide) ?_
    exact retDi ((Fmn 2), (Fmn 3), (Fms 2), (Amn 0), (Amn 1)) hx hb hr hlk hP hD hS dX10_anew_9 (⟨hIms.1 2, trivial⟩) (Nat.le_of_ble_eq_true rfl) (Nat.le_of_ble_eq_true rfl)

