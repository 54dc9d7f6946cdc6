set_option maxRecDepth 100000 in
set_option maxHeartbeats 16000000 in
theorem sX10_isBestLength (l : Launch) (G : va_G) (cs : Nat → ClassId) (adm : Nat) (qm : Nat → Nat) (Fm : Nat → Int32) (Am : Nat → Nat → Int32) (Bm : Nat → Nat → Int64) (Dm : Int64) (hIm : IX10 Fm Am) (a1 : Int32) : ∀ sz : Nat, Met l yX10_isBestLength (wk yX10_isBestLength cX10_isBestLength 2 (some .boolean)) (rmk 0 0 0) (PreP G (TY cs) [.ref adm, .int a1] (uX10 cs adm qm Fm Am Bm Dm) sz) (QRi (fun r : Int32 => (r.toInt = 1 ∧ 0 ≤ a1.toInt ∧ a1.toInt ≤ 5) ∨ (r.toInt = 0 ∧ (a1.toInt < 0 ∨ 5 < a1.toInt))) sz) 0 0 (fun q => sz ≤ q) := by
  refine mkP (Qc := QRi (fun r : Int32 => (r.toInt = 1 ∧ 0 ≤ a1.toInt ∧ a1.toInt ≤ 5) ∨ (r.toInt = 0 ∧ (a1.toInt < 0 ∨ 5 < a1.toInt)))) (by decide) (by simp [lg_sl, Value.category]) ?_
  intro p e s m args below meth c ls hx hb hml hr hlk hown ht hK hP hS hl
  have hl : lv_has ls 2 [(0, .ref adm), (1, .int a1)] := hl
  refine lv_iload_n hx hb dX10_isBestLength_0 rfl (lv_at hl 1 rfl) ?_
  refine lv_if_lt (tgt := 13) hx hb dX10_isBestLength_1 (by decide) (fun c1 => ?_) (fun c1 => ?_)
  · have zc1 := ltK rfl (show (0 : Int32).toInt = 0 by decide) c1
    refine lv_iconst (v := 0) hx hb dX10_isBestLength_13 (by decide) ?_
    exact retRz hx hb hr hlk hS dX10_isBestLength_14 (rfl) (show ((0 : Int32).toInt = 1 ∧ 0 ≤ a1.toInt ∧ a1.toInt ≤ 5) ∨ ((0 : Int32).toInt = 0 ∧ (a1.toInt < 0 ∨ 5 < a1.toInt)) by have kk : (0 : Int32).toInt = 0 := (by decide); omega)
  · have zc1 := nltK rfl (show (0 : Int32).toInt = 0 by decide) c1
    refine lv_iload_n hx hb dX10_isBestLength_4 rfl (lv_at hl 1 rfl) ?_
    refine lv_iconst (v := 5) hx hb dX10_isBestLength_5 (by decide) ?_
    refine lv_icmp_gt (tgt := 13) hx hb dX10_isBestLength_6 (by decide) (fun c2 => ?_) (fun c2 => ?_)
    · have zc2 := ltK (show (5 : Int32).toInt = 5 by decide) rfl c2
      refine lv_iconst (v := 0) hx hb dX10_isBestLength_13 (by decide) ?_
      exact retRz hx hb hr hlk hS dX10_isBestLength_14 (rfl) (show ((0 : Int32).toInt = 1 ∧ 0 ≤ a1.toInt ∧ a1.toInt ≤ 5) ∨ ((0 : Int32).toInt = 0 ∧ (a1.toInt < 0 ∨ 5 < a1.toInt)) by have kk : (0 : Int32).toInt = 0 := (by decide); omega)
    · have zc2 := nltK (show (5 : Int32).toInt = 5 by decide) rfl c2
      refine lv_iconst (v := 1) hx hb dX10_isBestLength_9 (by decide) ?_
      refine lv_goto (tgt := 14) hx hb dX10_isBestLength_10 (by decide) ?_
      exact retRz hx hb hr hlk hS dX10_isBestLength_14 (rfl) (show ((1 : Int32).toInt = 1 ∧ 0 ≤ a1.toInt ∧ a1.toInt ≤ 5) ∨ ((1 : Int32).toInt = 0 ∧ (a1.toInt < 0 ∨ 5 < a1.toInt)) by have kk : (1 : Int32).toInt = 1 := (by decide); omega)

set_option maxRecDepth 100000 in
set_option maxHeartbeats 16000000 in
theorem sX10_isSeed (l : Launch) (G : va_G) (cs : Nat → ClassId) (adm : Nat) (qm : Nat → Nat) (Fm : Nat → Int32) (Am : Nat → Nat → Int32) (Bm : Nat → Nat → Int64) (Dm : Int64) (hIm : IX10 Fm Am) (a1 : Int32) : ∀ sz : Nat, Met l yX10_isSeed (wk yX10_isSeed cX10_isSeed 2 (some .boolean)) (rmk 0 0 0) (PreP G (TY cs) [.ref adm, .int a1] (uX10 cs adm qm Fm Am Bm Dm) sz) (QRi (fun r : Int32 => (r.toInt = 1 ∧ 0 ≤ a1.toInt ∧ a1.toInt ≤ 2000000000) ∨ (r.toInt = 0 ∧ (a1.toInt < 0 ∨ 2000000000 < a1.toInt))) sz) 0 0 (fun q => sz ≤ q) := by
  refine mkP (Qc := QRi (fun r : Int32 => (r.toInt = 1 ∧ 0 ≤ a1.toInt ∧ a1.toInt ≤ 2000000000) ∨ (r.toInt = 0 ∧ (a1.toInt < 0 ∨ 2000000000 < a1.toInt)))) (by decide) (by simp [lg_sl, Value.category]) ?_
  intro p e s m args below meth c ls hx hb hml hr hlk hown ht hK hP hS hl
  have hl : lv_has ls 2 [(0, .ref adm), (1, .int a1)] := hl
  refine lv_iload_n hx hb dX10_isSeed_0 rfl (lv_at hl 1 rfl) ?_
  refine lv_if_lt (tgt := 15) hx hb dX10_isSeed_1 (by decide) (fun c1 => ?_) (fun c1 => ?_)
  · have zc1 := ltK rfl (show (0 : Int32).toInt = 0 by decide) c1
    refine lv_iconst (v := 0) hx hb dX10_isSeed_15 (by decide) ?_
    exact retRz hx hb hr hlk hS dX10_isSeed_16 (rfl) (show ((0 : Int32).toInt = 1 ∧ 0 ≤ a1.toInt ∧ a1.toInt ≤ 2000000000) ∨ ((0 : Int32).toInt = 0 ∧ (a1.toInt < 0 ∨ 2000000000 < a1.toInt)) by have kk : (0 : Int32).toInt = 0 := (by decide); omega)
  · have zc1 := nltK rfl (show (0 : Int32).toInt = 0 by decide) c1
    refine lv_iload_n hx hb dX10_isSeed_4 rfl (lv_at hl 1 rfl) ?_
    refine lv_ldcw hx hb hown (ht _ ki_RX10_380) dX10_isSeed_5 ?_
    refine lv_icmp_gt (tgt := 15) hx hb dX10_isSeed_8 (by decide) (fun c2 => ?_) (fun c2 => ?_)
    · have zc2 := ltK (show (2000000000 : Int32).toInt = 2000000000 by decide) rfl c2
      refine lv_iconst (v := 0) hx hb dX10_isSeed_15 (by decide) ?_
      exact retRz hx hb hr hlk hS dX10_isSeed_16 (rfl) (show ((0 : Int32).toInt = 1 ∧ 0 ≤ a1.toInt ∧ a1.toInt ≤ 2000000000) ∨ ((0 : Int32).toInt = 0 ∧ (a1.toInt < 0 ∨ 2000000000 < a1.toInt)) by have kk : (0 : Int32).toInt = 0 := (by decide); omega)
    · have zc2 := nltK (show (2000000000 : Int32).toInt = 2000000000 by decide) rfl c2
      refine lv_iconst (v := 1) hx hb dX10_isSeed_11 (by decide) ?_
      refine lv_goto (tgt := 16) hx hb dX10_isSeed_12 (by decide) ?_
      exact retRz hx hb hr hlk hS dX10_isSeed_16 (rfl) (show ((1 : Int32).toInt = 1 ∧ 0 ≤ a1.toInt ∧ a1.toInt ≤ 2000000000) ∨ ((1 : Int32).toInt = 0 ∧ (a1.toInt < 0 ∨ 2000000000 < a1.toInt)) by have kk : (1 : Int32).toInt = 1 := (by decide); omega)

set_option maxRecDepth 100000 in
set_option maxHeartbeats 16000000 in
theorem sX10_hasHouse (l : Launch) (G : va_G) (cs : Nat → ClassId) (adm : Nat) (qm : Nat → Nat) (Fm : Nat → Int32) (Am : Nat → Nat → Int32) (Bm : Nat → Nat → Int64) (Dm : Int64) (hIm : IX10 Fm Am) (qms : Nat → Nat) (Fms : Nat → Int32) (Ams : Nat → Nat → Int32) (Bms : Nat → Nat → Int64) (Dms : Int64) (hIms : IX8 Fms Ams) (qmh : Nat → Nat) (Fmh : Nat → Int32) (Amh : Nat → Nat → Int32) (Bmh : Nat → Nat → Int64) (Dmh : Int64) (hImh : IX3 Fmh Amh) : ∀ sz : Nat, Met l yX10_hasHouse (wk yX10_hasHouse cX10_hasHouse 1 (some .boolean)) (rmk 0 0 0) (PreP G (TY cs) [.ref adm] ((uX10 cs adm qm Fm Am Bm Dm) ++ ((uX8 cs (qm 3) qms Fms Ams Bms Dms) ++ (uX3 cs (qms 0) qmh Fmh Amh Bmh Dmh))) sz) (QRi (fun r : Int32 => (0 : Int) ≤ r.toInt ∧ r.toInt ≤ 1) sz) 0 0 (fun q => sz ≤ q) := by
  refine mkP (Qc := QRi (fun r : Int32 => (0 : Int) ≤ r.toInt ∧ r.toInt ≤ 1)) (by decide) (by simp [lg_sl, Value.category]) ?_
  intro p e s m args below meth c ls hx hb hml hr hlk hown ht hK hP hS hl
  have hl : lv_has ls 1 [(0, .ref adm)] := hl
  refine lv_aload_n hx hb dX10_hasHouse_0 rfl (lv_at hl 0 rfl) ?_
  refine getF (v := .ref (qm 3)) hx hb ht hown hK hP iTX10 0 3 rfl rfl (by decide) fl_RX10_31 rfl dX10_hasHouse_1 ?_
  refine getF (v := .ref (qms 0)) hx hb ht hown hK hP iTX8 3 0 rfl rfl (by decide) fl_RX10_98 rfl dX10_hasHouse_4 ?_
  refine getF (v := .int (Fmh 0)) hx hb ht hown hK hP iTX3 5 0 rfl rfl (by decide) fl_RX10_111 rfl dX10_hasHouse_7 ?_
  refine lv_if_le (tgt := 17) hx hb dX10_hasHouse_10 (by decide) (fun c1 => ?_) (fun c1 => ?_)
  · have zc1 := leK rfl (show (0 : Int32).toInt = 0 by decide) c1
    refine lv_iconst (v := 0) hx hb dX10_hasHouse_17 (by decide) ?_
    exact retRz hx hb hr hlk hS dX10_hasHouse_18 (rfl) (show (0 : Int) ≤ (0 : Int32).toInt ∧ (0 : Int32).toInt ≤ 1 by have kk : (0 : Int32).toInt = 0 := (by decide); omega)
  · have zc1 := nleK rfl (show (0 : Int32).toInt = 0 by decide) c1
    refine lv_iconst (v := 1) hx hb dX10_hasHouse_13 (by decide) ?_
    refine lv_goto (tgt := 18) hx hb dX10_hasHouse_14 (by decide) ?_
    exact retRz hx hb hr hlk hS dX10_hasHouse_18 (rfl) (show (0 : Int) ≤ (1 : Int32).toInt ∧ (1 : Int32).toInt ≤ 1 by have kk : (1 : Int32).toInt = 1 := (by decide); omega)

set_option maxRecDepth 100000 in
set_option maxHeartbeats 16000000 in
theorem sX10_isRoom (l : Launch) (G : va_G) (cs : Nat → ClassId) (adm : Nat) (qm : Nat → Nat) (Fm : Nat → Int32) (Am : Nat → Nat → Int32) (Bm : Nat → Nat → Int64) (Dm : Int64) (hIm : IX10 Fm Am) (qms : Nat → Nat) (Fms : Nat → Int32) (Ams : Nat → Nat → Int32) (Bms : Nat → Nat → Int64) (Dms : Int64) (hIms : IX8 Fms Ams) (qmh : Nat → Nat) (Fmh : Nat → Int32) (Amh : Nat → Nat → Int32) (Bmh : Nat → Nat → Int64) (Dmh : Int64) (hImh : IX3 Fmh Amh) (a1 : Int32) : ∀ sz : Nat, Met l yX10_isRoom (wk yX10_isRoom cX10_isRoom 2 (some .boolean)) (rmk 1 0 0) (PreP G (TY cs) [.ref adm, .int a1] ((uX10 cs adm qm Fm Am Bm Dm) ++ ((uX8 cs (qm 3) qms Fms Ams Bms Dms) ++ (uX3 cs (qms 0) qmh Fmh Amh Bmh Dmh))) sz) (QRi (fun r : Int32 => (r.toInt = 1 ∧ 0 ≤ a1.toInt ∧ a1.toInt < (Fmh 5).toInt ∧ a1.toInt ≤ 6) ∨ r.toInt = 0) sz) 0 0 (fun q => sz ≤ q) := by
  refine mkP (Qc := QRi (fun r : Int32 => (r.toInt = 1 ∧ 0 ≤ a1.toInt ∧ a1.toInt < (Fmh 5).toInt ∧ a1.toInt ≤ 6) ∨ r.toInt = 0)) (by decide) (by simp [lg_sl, Value.category]) ?_
  intro p e s m args below meth c ls hx hb hml hr hlk hown ht hK hP hS hl
  have hl : lv_has ls 2 [(0, .ref adm), (1, .int a1)] := hl
  refine lv_aload_n hx hb dX10_isRoom_0 rfl (lv_at hl 0 rfl) ?_
  refine getF (v := .ref (qm 3)) hx hb ht hown hK hP iTX10 0 3 rfl rfl (by decide) fl_RX10_31 rfl dX10_isRoom_1 ?_
  refine getF (v := .ref (qms 0)) hx hb ht hown hK hP iTX8 3 0 rfl rfl (by decide) fl_RX10_98 rfl dX10_isRoom_4 ?_
  refine lv_iload_n hx hb dX10_isRoom_7 rfl (lv_at hl 1 rfl) ?_
  refine behR (runVP (As := [.int a1]) (rest := []) ⟨hx, hb, hml, hown, ht⟩ (sX3_hasRoom l G cs (qms 0) qmh Fmh Amh Bmh Dmh hImh a1 ) okV_RX10_377 ⟨by decide, by decide⟩ hK hP [5, 6, 7, 8, 9, 10, 11, 12] rfl 5 rfl rfl hl.1 rfl (Nat.le_of_ble_eq_true rfl) dX10_isRoom_8 ⟨by decide, by decide⟩) hP hS (fun _ h => h) (fun r1 H locs hr1 hP hS => ?_)
  have hr1 : (r1.toInt = 1 ∧ 0 ≤ a1.toInt ∧ a1.toInt < (Fmh 5).toInt ∧ a1.toInt ≤ 6) ∨ r1.toInt = 0 := hr1
  exact retRz hx hb hr hlk hS dX10_isRoom_11 (narZ (by omega)) (show (r1.toInt = 1 ∧ 0 ≤ a1.toInt ∧ a1.toInt < (Fmh 5).toInt ∧ a1.toInt ≤ 6) ∨ r1.toInt = 0 by omega)

set_option maxRecDepth 100000 in
set_option maxHeartbeats 16000000 in
theorem sX10_isMan (l : Launch) (G : va_G) (cs : Nat → ClassId) (adm : Nat) (qm : Nat → Nat) (Fm : Nat → Int32) (Am : Nat → Nat → Int32) (Bm : Nat → Nat → Int64) (Dm : Int64) (hIm : IX10 Fm Am) (qms : Nat → Nat) (Fms : Nat → Int32) (Ams : Nat → Nat → Int32) (Bms : Nat → Nat → Int64) (Dms : Int64) (hIms : IX8 Fms Ams) (qmh : Nat → Nat) (Fmh : Nat → Int32) (Amh : Nat → Nat → Int32) (Bmh : Nat → Nat → Int64) (Dmh : Int64) (hImh : IX3 Fmh Amh) (a1 : Int32) : ∀ sz : Nat, Met l yX10_isMan (wk yX10_isMan cX10_isMan 2 (some .boolean)) (rmk 0 0 0) (PreP G (TY cs) [.ref adm, .int a1] ((uX10 cs adm qm Fm Am Bm Dm) ++ ((uX8 cs (qm 3) qms Fms Ams Bms Dms) ++ (uX3 cs (qms 0) qmh Fmh Amh Bmh Dmh))) sz) (QRi (fun r : Int32 => (r.toInt = 1 ∧ 0 ≤ a1.toInt ∧ a1.toInt < (Fmh 6).toInt ∧ a1.toInt ≤ 5) ∨ r.toInt = 0) sz) 0 0 (fun q => sz ≤ q) := by
  refine mkP (Qc := QRi (fun r : Int32 => (r.toInt = 1 ∧ 0 ≤ a1.toInt ∧ a1.toInt < (Fmh 6).toInt ∧ a1.toInt ≤ 5) ∨ r.toInt = 0)) (by decide) (by simp [lg_sl, Value.category]) ?_
  intro p e s m args below meth c ls hx hb hml hr hlk hown ht hK hP hS hl
  have hl : lv_has ls 2 [(0, .ref adm), (1, .int a1)] := hl
  refine lv_iload_n hx hb dX10_isMan_0 rfl (lv_at hl 1 rfl) ?_
  refine lv_if_lt (tgt := 22) hx hb dX10_isMan_1 (by decide) (fun c1 => ?_) (fun c1 => ?_)
  · have zc1 := ltK rfl (show (0 : Int32).toInt = 0 by decide) c1
    refine lv_iconst (v := 0) hx hb dX10_isMan_22 (by decide) ?_
    exact retRz hx hb hr hlk hS dX10_isMan_23 (rfl) (show ((0 : Int32).toInt = 1 ∧ 0 ≤ a1.toInt ∧ a1.toInt < (Fmh 6).toInt ∧ a1.toInt ≤ 5) ∨ (0 : Int32).toInt = 0 by have kk : (0 : Int32).toInt = 0 := (by decide); omega)
  · have zc1 := nltK rfl (show (0 : Int32).toInt = 0 by decide) c1
    refine lv_iload_n hx hb dX10_isMan_4 rfl (lv_at hl 1 rfl) ?_
    refine lv_aload_n hx hb dX10_isMan_5 rfl (lv_at hl 0 rfl) ?_
    refine getF (v := .ref (qm 3)) hx hb ht hown hK hP iTX10 0 3 rfl rfl (by decide) fl_RX10_31 rfl dX10_isMan_6 ?_
    refine getF (v := .ref (qms 0)) hx hb ht hown hK hP iTX8 3 0 rfl rfl (by decide) fl_RX10_98 rfl dX10_isMan_9 ?_
    refine getF (v := .int (Fmh 6)) hx hb ht hown hK hP iTX3 5 6 rfl rfl (by decide) fl_RX10_283 rfl dX10_isMan_12 ?_
    have zf2 : (0 : Int) ≤ (Fmh 6).toInt ∧ (Fmh 6).toInt ≤ 6 := hImh.1 6
    refine lv_icmp_ge (tgt := 22) hx hb dX10_isMan_15 (by decide) (fun c3 => ?_) (fun c3 => ?_)
    · have zc3 := leK rfl rfl c3
      refine lv_iconst (v := 0) hx hb dX10_isMan_22 (by decide) ?_
      exact retRz hx hb hr hlk hS dX10_isMan_23 (rfl) (show ((0 : Int32).toInt = 1 ∧ 0 ≤ a1.toInt ∧ a1.toInt < (Fmh 6).toInt ∧ a1.toInt ≤ 5) ∨ (0 : Int32).toInt = 0 by have kk : (0 : Int32).toInt = 0 := (by decide); omega)
    · have zc3 := nleK rfl rfl c3
      refine lv_iconst (v := 1) hx hb dX10_isMan_18 (by decide) ?_
      refine lv_goto (tgt := 23) hx hb dX10_isMan_19 (by decide) ?_
      exact retRz hx hb hr hlk hS dX10_isMan_23 (rfl) (show ((1 : Int32).toInt = 1 ∧ 0 ≤ a1.toInt ∧ a1.toInt < (Fmh 6).toInt ∧ a1.toInt ≤ 5) ∨ (1 : Int32).toInt = 0 by have kk : (1 : Int32).toInt = 1 := (by decide); omega)

set_option maxRecDepth 100000 in
set_option maxHeartbeats 16000000 in
theorem sX10_isRoomOrOut (l : Launch) (G : va_G) (cs : Nat → ClassId) (adm : Nat) (qm : Nat → Nat) (Fm : Nat → Int32) (Am : Nat → Nat → Int32) (Bm : Nat → Nat → Int64) (Dm : Int64) (hIm : IX10 Fm Am) (qms : Nat → Nat) (Fms : Nat → Int32) (Ams : Nat → Nat → Int32) (Bms : Nat → Nat → Int64) (Dms : Int64) (hIms : IX8 Fms Ams) (qmh : Nat → Nat) (Fmh : Nat → Int32) (Amh : Nat → Nat → Int32) (Bmh : Nat → Nat → Int64) (Dmh : Int64) (hImh : IX3 Fmh Amh) (a1 : Int32) : ∀ sz : Nat, Met l yX10_isRoomOrOut (wk yX10_isRoomOrOut cX10_isRoomOrOut 2 (some .boolean)) (rmk 2 0 0) (PreP G (TY cs) [.ref adm, .int a1] ((uX10 cs adm qm Fm Am Bm Dm) ++ ((uX8 cs (qm 3) qms Fms Ams Bms Dms) ++ (uX3 cs (qms 0) qmh Fmh Amh Bmh Dmh))) sz) (QRi (fun r : Int32 => (r.toInt = 1 ∧ -1 ≤ a1.toInt ∧ a1.toInt ≤ 6) ∨ r.toInt = 0) sz) 0 0 (fun q => sz ≤ q) := by
  refine mkP (Qc := QRi (fun r : Int32 => (r.toInt = 1 ∧ -1 ≤ a1.toInt ∧ a1.toInt ≤ 6) ∨ r.toInt = 0)) (by decide) (by simp [lg_sl, Value.category]) ?_
  intro p e s m args below meth c ls hx hb hml hr hlk hown ht hK hP hS hl
  have hl : lv_has ls 2 [(0, .ref adm), (1, .int a1)] := hl
  refine lv_aload_n hx hb dX10_isRoomOrOut_0 rfl (lv_at hl 0 rfl) ?_
  refine behR (runVP (As := []) (rest := []) ⟨hx, hb, hml, hown, ht⟩ (sX10_hasHouse l G cs adm qm Fm Am Bm Dm hIm qms Fms Ams Bms Dms hIms qmh Fmh Amh Bmh Dmh hImh ) okV_RX10_152 ⟨by decide, by decide⟩ hK hP [0, 1, 2, 3, 4, 5, 6, 7, 8, 9, 10, 11, 12] rfl 0 rfl rfl hl.1 rfl (Nat.le_of_ble_eq_true rfl) dX10_isRoomOrOut_1 ⟨by decide, by decide⟩) hP hS (fun _ h => h) (fun r1 H locs hr1 hP hS => ?_)
  have hr1 : (0 : Int) ≤ r1.toInt ∧ r1.toInt ≤ 1 := hr1
  refine lv_if_eq (tgt := 24) hx hb dX10_isRoomOrOut_4 (by decide) (fun c2 => ?_) (fun c2 => ?_)
  · have zc2 := eqK rfl (show (0 : Int32).toInt = 0 by decide) c2
    refine lv_iconst (v := 0) hx hb dX10_isRoomOrOut_24 (by decide) ?_
    exact retRz hx hb hr hlk hS dX10_isRoomOrOut_25 (rfl) (show ((0 : Int32).toInt = 1 ∧ -1 ≤ a1.toInt ∧ a1.toInt ≤ 6) ∨ (0 : Int32).toInt = 0 by have kk : (0 : Int32).toInt = 0 := (by decide); omega)
  · have zc2 := neK rfl (show (0 : Int32).toInt = 0 by decide) c2
    refine lv_iload_n hx hb dX10_isRoomOrOut_7 rfl (lv_at hl 1 rfl) ?_
    refine lv_iconst (v := (-1)) hx hb dX10_isRoomOrOut_8 (by decide) ?_
    refine lv_icmp_eq (tgt := 20) hx hb dX10_isRoomOrOut_9 (by decide) (fun c3 => ?_) (fun c3 => ?_)
    · have zc3 := eqK rfl (show (-1 : Int32).toInt = (-1) by decide) c3
      refine lv_iconst (v := 1) hx hb dX10_isRoomOrOut_20 (by decide) ?_
      refine lv_goto (tgt := 25) hx hb dX10_isRoomOrOut_21 (by decide) ?_
      exact retRz hx hb hr hlk hS dX10_isRoomOrOut_25 (rfl) (show ((1 : Int32).toInt = 1 ∧ -1 ≤ a1.toInt ∧ a1.toInt ≤ 6) ∨ (1 : Int32).toInt = 0 by have kk : (1 : Int32).toInt = 1 := (by decide); omega)
    · have zc3 := neK rfl (show (-1 : Int32).toInt = (-1) by decide) c3
      refine lv_aload_n hx hb dX10_isRoomOrOut_12 rfl (lv_at hl 0 rfl) ?_
      refine lv_iload_n hx hb dX10_isRoomOrOut_13 rfl (lv_at hl 1 rfl) ?_
      refine behR (runVP (As := [.int a1]) (rest := []) ⟨hx, hb, hml, hown, ht⟩ (sX10_isRoom l G cs adm qm Fm Am Bm Dm hIm qms Fms Ams Bms Dms hIms qmh Fmh Amh Bmh Dmh hImh a1 ) okV_RX10_120 ⟨by decide, by decide⟩ hK hP [0, 1, 2, 3, 4, 5, 6, 7, 8, 9, 10, 11, 12] rfl 0 rfl rfl hl.1 rfl (Nat.le_of_ble_eq_true rfl) dX10_isRoomOrOut_14 ⟨by decide, by decide⟩) hP hS (fun _ h => h) (fun r4 H locs hr4 hP hS => ?_)
      have hr4 : (r4.toInt = 1 ∧ 0 ≤ a1.toInt ∧ a1.toInt < (Fmh 5).toInt ∧ a1.toInt ≤ 6) ∨ r4.toInt = 0 := hr4
      refine lv_if_eq (tgt := 24) hx hb dX10_isRoomOrOut_17 (by decide) (fun c5 => ?_) (fun c5 => ?_)
      · have zc5 := eqK rfl (show (0 : Int32).toInt = 0 by decide) c5
        refine lv_iconst (v := 0) hx hb dX10_isRoomOrOut_24 (by decide) ?_
        exact retRz hx hb hr hlk hS dX10_isRoomOrOut_25 (rfl) (show ((0 : Int32).toInt = 1 ∧ -1 ≤ a1.toInt ∧ a1.toInt ≤ 6) ∨ (0 : Int32).toInt = 0 by have kk : (0 : Int32).toInt = 0 := (by decide); omega)
      · have zc5 := neK rfl (show (0 : Int32).toInt = 0 by decide) c5
        refine lv_iconst (v := 1) hx hb dX10_isRoomOrOut_20 (by decide) ?_
        refine lv_goto (tgt := 25) hx hb dX10_isRoomOrOut_21 (by decide) ?_
        exact retRz hx hb hr hlk hS dX10_isRoomOrOut_25 (rfl) (show ((1 : Int32).toInt = 1 ∧ -1 ≤ a1.toInt ∧ a1.toInt ≤ 6) ∨ (1 : Int32).toInt = 0 by have kk : (1 : Int32).toInt = 1 := (by decide); omega)

