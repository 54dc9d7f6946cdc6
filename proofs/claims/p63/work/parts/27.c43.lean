set_option maxRecDepth 100000 in
set_option maxHeartbeats 16000000 in
theorem sX10_quiet (l : Launch) (G : va_G) (cs : Nat → ClassId) (adm : Nat) (qm : Nat → Nat) (Fm : Nat → Int32) (Am : Nat → Nat → Int32) (Bm : Nat → Nat → Int64) (Dm : Int64) (hIm : IX10 Fm Am) (qms : Nat → Nat) (Fms : Nat → Int32) (Ams : Nat → Nat → Int32) (Bms : Nat → Nat → Int64) (Dms : Int64) (hIms : IX8 Fms Ams) (qmh : Nat → Nat) (Fmh : Nat → Int32) (Amh : Nat → Nat → Int32) (Bmh : Nat → Nat → Int64) (Dmh : Int64) (hImh : IX3 Fmh Amh) (qmn : Nat → Nat) (Fmn : Nat → Int32) (Amn : Nat → Nat → Int32) (Bmn : Nat → Nat → Int64) (Dmn : Int64) (hImn : IX5 Fmn Amn) (a1 : Int32) : ∀ sz : Nat, Met l yX10_quiet (wk yX10_quiet cX10_quiet 3 (some .int)) (rmk 5 0 0) (PreP G (TY cs) [.ref adm, .int a1] ((uX10 cs adm qm Fm Am Bm Dm) ++ ((uX8 cs (qm 3) qms Fms Ams Bms Dms) ++ ((uX3 cs (qms 0) qmh Fmh Amh Bmh Dmh) ++ (uX5 cs (qm 6) qmn Fmn Amn Bmn Dmn)))) sz) (QRi (fun r : Int32 => True) sz) 0 0 (fun q => sz ≤ q) := by
  refine mkP (Qc := QRi (fun r : Int32 => True)) (by decide) (by simp [lg_sl, Value.category]) ?_
  intro p e s m args below meth c ls hx hb hml hr hlk hown ht hK hP hS hl
  have hl : lv_has ls 3 [(0, .ref adm), (1, .int a1)] := hl
  refine lv_aload_n hx hb dX10_quiet_0 rfl (lv_at hl 0 rfl) ?_
  refine behR (runVP (As := []) (rest := []) ⟨hx, hb, hml, hown, ht⟩ (sX10_hasHouse l G cs adm qm Fm Am Bm Dm hIm qms Fms Ams Bms Dms hIms qmh Fmh Amh Bmh Dmh hImh ) okV_RX10_152 ⟨by decide, by decide⟩ hK hP [0, 1, 2, 3, 4, 5, 6, 7, 8, 9, 10, 11, 12] rfl 0 rfl rfl hl.1 rfl (Nat.le_of_ble_eq_true rfl) dX10_quiet_1 ⟨by decide, by decide⟩) hP hS (fun _ h => h) (fun r1 H locs hr1 hP hS => ?_)
  have hr1 : (0 : Int) ≤ r1.toInt ∧ r1.toInt ≤ 1 := hr1
  refine lv_if_eq (tgt := 15) hx hb dX10_quiet_4 (by decide) (fun c2 => ?_) (fun c2 => ?_)
  · have zc2 := eqK rfl (show (0 : Int32).toInt = 0 by decide) c2
    refine lv_bipush (v := (-2)) hx hb dX10_quiet_15 (by decide) ?_
    exact retRi hx hb hr hlk hS dX10_quiet_17 (trivial)
  · have zc2 := neK rfl (show (0 : Int32).toInt = 0 by decide) c2
    refine lv_aload_n hx hb dX10_quiet_7 rfl (lv_at hl 0 rfl) ?_
    refine lv_iload_n hx hb dX10_quiet_8 rfl (lv_at hl 1 rfl) ?_
    refine behR (runVP (As := [.int a1]) (rest := []) ⟨hx, hb, hml, hown, ht⟩ (sX10_isPartOfMillion l G cs adm qm Fm Am Bm Dm hIm a1 ) okV_RX10_205 ⟨by decide, by decide⟩ hK hP [0, 1, 2] rfl 0 rfl rfl hl.1 rfl (Nat.le_of_ble_eq_true rfl) dX10_quiet_9 ⟨by decide, by decide⟩) hP hS (fun _ h => h) (fun r3 H locs hr3 hP hS => ?_)
    have hr3 : (r3.toInt = 1 ∧ 0 ≤ a1.toInt ∧ a1.toInt ≤ 1000000) ∨ (r3.toInt = 0 ∧ (a1.toInt < 0 ∨ 1000000 < a1.toInt)) := hr3
    refine lv_if_ne (tgt := 18) hx hb dX10_quiet_12 (by decide) (fun c4 => ?_) (fun c4 => ?_)
    · have zc4 := neK rfl (show (0 : Int32).toInt = 0 by decide) c4
      refine lv_aload_n hx hb dX10_quiet_18 rfl (lv_at hl 0 rfl) ?_
      refine lv_iload_n hx hb dX10_quiet_19 rfl (lv_at hl 1 rfl) ?_
      refine behR (runVP (As := [.int a1]) (rest := []) ⟨hx, hb, hml, hown, ht⟩ (sX10_quietestSet l G cs adm qm Fm Am Bm Dm hIm qms Fms Ams Bms Dms hIms qmh Fmh Amh Bmh Dmh hImh qmn Fmn Amn Bmn Dmn hImn a1 ) okV_RX10_244 ⟨by decide, by decide⟩ hK hP [0, 1, 2, 3, 4, 5, 6, 7, 8, 9, 10, 11, 12, 13, 14, 15] rfl 0 rfl rfl hl.1 rfl (Nat.le_of_ble_eq_true rfl) dX10_quiet_20 ⟨by decide, by decide⟩) hP hS (fun _ h => h) (fun r5 H locs hr5 hP hS => ?_)
      refine lv_istore_n (lv' := [(2, .int r5), (0, .ref adm), (1, .int a1)]) hx hb dX10_quiet_23 rfl hl (by decide) rfl (fun ls hl => ?_)
      refine lv_iload_n hx hb dX10_quiet_24 rfl (lv_at hl 0 rfl) ?_
      refine lv_iconst (v := (-1)) hx hb dX10_quiet_25 (by decide) ?_
      refine lv_icmp_ne (tgt := 33) hx hb dX10_quiet_26 (by decide) (fun c6 => ?_) (fun c6 => ?_)
      · have zc6 := neK rfl (show (-1 : Int32).toInt = (-1) by decide) c6
        refine lv_aload_n hx hb dX10_quiet_33 rfl (lv_at hl 1 rfl) ?_
        refine lv_iload_n hx hb dX10_quiet_34 rfl (lv_at hl 0 rfl) ?_
        refine behR (runVP (As := [.int r5]) (rest := []) ⟨hx, hb, hml, hown, ht⟩ (sX10_peopleOf l G cs adm qm Fm Am Bm Dm hIm qms Fms Ams Bms Dms hIms qmh Fmh Amh Bmh Dmh hImh r5 ) okV_RX10_247 ⟨by decide, by decide⟩ hK hP [0, 1, 2, 3, 4, 5, 6, 7, 8, 9, 10, 11, 12] rfl 0 rfl rfl hl.1 rfl (Nat.le_of_ble_eq_true rfl) dX10_quiet_35 ⟨by decide, by decide⟩) hP hS (fun _ h => h) (fun r7 H locs hr7 hP hS => ?_)
        exact retRi hx hb hr hlk hS dX10_quiet_38 (trivial)
      · have zc6 := eqK rfl (show (-1 : Int32).toInt = (-1) by decide) c6
        refine lv_iconst (v := (-1)) hx hb dX10_quiet_29 (by decide) ?_
        refine lv_goto (tgt := 38) hx hb dX10_quiet_30 (by decide) ?_
        exact retRi hx hb hr hlk hS dX10_quiet_38 (trivial)
    · have zc4 := eqK rfl (show (0 : Int32).toInt = 0 by decide) c4
      refine lv_bipush (v := (-2)) hx hb dX10_quiet_15 (by decide) ?_
      exact retRi hx hb hr hlk hS dX10_quiet_17 (trivial)

set_option maxRecDepth 100000 in
set_option maxHeartbeats 16000000 in
theorem sX10_quietly (l : Launch) (G : va_G) (cs : Nat → ClassId) (adm : Nat) (qm : Nat → Nat) (Fm : Nat → Int32) (Am : Nat → Nat → Int32) (Bm : Nat → Nat → Int64) (Dm : Int64) (hIm : IX10 Fm Am) (qms : Nat → Nat) (Fms : Nat → Int32) (Ams : Nat → Nat → Int32) (Bms : Nat → Nat → Int64) (Dms : Int64) (hIms : IX8 Fms Ams) (qmh : Nat → Nat) (Fmh : Nat → Int32) (Amh : Nat → Nat → Int32) (Bmh : Nat → Nat → Int64) (Dmh : Int64) (hImh : IX3 Fmh Amh) (qmn : Nat → Nat) (Fmn : Nat → Int32) (Amn : Nat → Nat → Int32) (Bmn : Nat → Nat → Int64) (Dmn : Int64) (hImn : IX5 Fmn Amn) (a1 : Int32) : ∀ sz : Nat, Met l yX10_quietly (wk yX10_quietly cX10_quietly 2 (some .int)) (rmk 5 0 0) (PreP G (TY cs) [.ref adm, .int a1] ((uX10 cs adm qm Fm Am Bm Dm) ++ ((uX8 cs (qm 3) qms Fms Ams Bms Dms) ++ ((uX3 cs (qms 0) qmh Fmh Amh Bmh Dmh) ++ (uX5 cs (qm 6) qmn Fmn Amn Bmn Dmn)))) sz) (QRi (fun r : Int32 => True) sz) 0 0 (fun q => sz ≤ q) := by
  refine mkP (Qc := QRi (fun r : Int32 => True)) (by decide) (by simp [lg_sl, Value.category]) ?_
  intro p e s m args below meth c ls hx hb hml hr hlk hown ht hK hP hS hl
  have hl : lv_has ls 2 [(0, .ref adm), (1, .int a1)] := hl
  refine lv_aload_n hx hb dX10_quietly_0 rfl (lv_at hl 0 rfl) ?_
  refine behR (runVP (As := []) (rest := []) ⟨hx, hb, hml, hown, ht⟩ (sX10_hasHouse l G cs adm qm Fm Am Bm Dm hIm qms Fms Ams Bms Dms hIms qmh Fmh Amh Bmh Dmh hImh ) okV_RX10_152 ⟨by decide, by decide⟩ hK hP [0, 1, 2, 3, 4, 5, 6, 7, 8, 9, 10, 11, 12] rfl 0 rfl rfl hl.1 rfl (Nat.le_of_ble_eq_true rfl) dX10_quietly_1 ⟨by decide, by decide⟩) hP hS (fun _ h => h) (fun r1 H locs hr1 hP hS => ?_)
  have hr1 : (0 : Int) ≤ r1.toInt ∧ r1.toInt ≤ 1 := hr1
  refine lv_if_eq (tgt := 15) hx hb dX10_quietly_4 (by decide) (fun c2 => ?_) (fun c2 => ?_)
  · have zc2 := eqK rfl (show (0 : Int32).toInt = 0 by decide) c2
    refine lv_bipush (v := (-2)) hx hb dX10_quietly_15 (by decide) ?_
    exact retRi hx hb hr hlk hS dX10_quietly_17 (trivial)
  · have zc2 := neK rfl (show (0 : Int32).toInt = 0 by decide) c2
    refine lv_aload_n hx hb dX10_quietly_7 rfl (lv_at hl 0 rfl) ?_
    refine lv_iload_n hx hb dX10_quietly_8 rfl (lv_at hl 1 rfl) ?_
    refine behR (runVP (As := [.int a1]) (rest := []) ⟨hx, hb, hml, hown, ht⟩ (sX10_isPartOfMillion l G cs adm qm Fm Am Bm Dm hIm a1 ) okV_RX10_205 ⟨by decide, by decide⟩ hK hP [0, 1, 2] rfl 0 rfl rfl hl.1 rfl (Nat.le_of_ble_eq_true rfl) dX10_quietly_9 ⟨by decide, by decide⟩) hP hS (fun _ h => h) (fun r3 H locs hr3 hP hS => ?_)
    have hr3 : (r3.toInt = 1 ∧ 0 ≤ a1.toInt ∧ a1.toInt ≤ 1000000) ∨ (r3.toInt = 0 ∧ (a1.toInt < 0 ∨ 1000000 < a1.toInt)) := hr3
    refine lv_if_ne (tgt := 18) hx hb dX10_quietly_12 (by decide) (fun c4 => ?_) (fun c4 => ?_)
    · have zc4 := neK rfl (show (0 : Int32).toInt = 0 by decide) c4
      refine lv_aload_n hx hb dX10_quietly_18 rfl (lv_at hl 0 rfl) ?_
      refine lv_iload_n hx hb dX10_quietly_19 rfl (lv_at hl 1 rfl) ?_
      refine behR (runVP (As := [.int a1]) (rest := []) ⟨hx, hb, hml, hown, ht⟩ (sX10_quietestSet l G cs adm qm Fm Am Bm Dm hIm qms Fms Ams Bms Dms hIms qmh Fmh Amh Bmh Dmh hImh qmn Fmn Amn Bmn Dmn hImn a1 ) okV_RX10_244 ⟨by decide, by decide⟩ hK hP [0, 1, 2, 3, 4, 5, 6, 7, 8, 9, 10, 11, 12, 13, 14, 15] rfl 0 rfl rfl hl.1 rfl (Nat.le_of_ble_eq_true rfl) dX10_quietly_20 ⟨by decide, by decide⟩) hP hS (fun _ h => h) (fun r5 H locs hr5 hP hS => ?_)
      exact retRi hx hb hr hlk hS dX10_quietly_23 (trivial)
    · have zc4 := eqK rfl (show (0 : Int32).toInt = 0 by decide) c4
      refine lv_bipush (v := (-2)) hx hb dX10_quietly_15 (by decide) ?_
      exact retRi hx hb hr hlk hS dX10_quietly_17 (trivial)

set_option maxRecDepth 100000 in
set_option maxHeartbeats 16000000 in
theorem sX10_card (l : Launch) (G : va_G) (cs : Nat → ClassId) (adm : Nat) (qm : Nat → Nat) (Fm : Nat → Int32) (Am : Nat → Nat → Int32) (Bm : Nat → Nat → Int64) (Dm : Int64) (hIm : IX10 Fm Am) (qms : Nat → Nat) (Fms : Nat → Int32) (Ams : Nat → Nat → Int32) (Bms : Nat → Nat → Int64) (Dms : Int64) (hIms : IX8 Fms Ams) (qmh : Nat → Nat) (Fmh : Nat → Int32) (Amh : Nat → Nat → Int32) (Bmh : Nat → Nat → Int64) (Dmh : Int64) (hImh : IX3 Fmh Amh) (qmn : Nat → Nat) (Fmn : Nat → Int32) (Amn : Nat → Nat → Int32) (Bmn : Nat → Nat → Int64) (Dmn : Int64) (hImn : IX5 Fmn Amn) (qmw : Nat → Nat) (Fmw : Nat → Int32) (Amw : Nat → Nat → Int32) (Bmw : Nat → Nat → Int64) (Dmw : Int64) (hImw : IX5 Fmw Amw) (a1 : Int32) (a2 : Int32) : ∀ sz : Nat, Met l yX10_card (wk yX10_card cX10_card 3 (some .int)) (rmk 4 0 0) (PreD G (TY cs) [.ref adm, .int a1, .int a2] ((uX10 cs adm qm Fm Am Bm Dm) ++ ((uX8 cs (qm 3) qms Fms Ams Bms Dms) ++ ((uX3 cs (qms 0) qmh Fmh Amh Bmh Dmh) ++ ((uX5 cs (qm 6) qmn Fmn Amn Bmn Dmn) ++ (uX5 cs (qm 7) qmw Fmw Amw Bmw Dmw))))) sz) ((QDi G (fun (r : Int32) (u : Int32 × Int32 × (Nat → Int32) × (Nat → Int32)) => True) (fun u : Int32 × Int32 × (Nat → Int32) × (Nat → Int32) => ((uX10 cs adm qm Fm Am Bm Dm) ++ ((uX8 cs (qm 3) qms Fms Ams Bms Dms) ++ ((uX3 cs (qms 0) qmh Fmh Amh Bmh Dmh) ++ ((uX5 cs (qm 6) qmn Fmn Amn Bmn Dmn) ++ (uX5 cs (qm 7) qmw (upd (upd Fmw 2 u.1) 3 u.2.1) (vA (vA Amw 0 u.2.2.1) 1 u.2.2.2) Bmw Dmw))))))) (va_A ((uX10 cs adm qm Fm Am Bm Dm) ++ ((uX8 cs (qm 3) qms Fms Ams Bms Dms) ++ ((uX3 cs (qms 0) qmh Fmh Amh Bmh Dmh) ++ ((uX5 cs (qm 6) qmn Fmn Amn Bmn Dmn) ++ (uX5 cs (qm 7) qmw Fmw Amw Bmw Dmw))))) sz)) 0 0 (va_A ((uX10 cs adm qm Fm Am Bm Dm) ++ ((uX8 cs (qm 3) qms Fms Ams Bms Dms) ++ ((uX3 cs (qms 0) qmh Fmh Amh Bmh Dmh) ++ ((uX5 cs (qm 6) qmn Fmn Amn Bmn Dmn) ++ (uX5 cs (qm 7) qmw Fmw Amw Bmw Dmw))))) sz) := by
  refine mkD (Qc := (QDi G (fun (r : Int32) (u : Int32 × Int32 × (Nat → Int32) × (Nat → Int32)) => True) (fun u : Int32 × Int32 × (Nat → Int32) × (Nat → Int32) => ((uX10 cs adm qm Fm Am Bm Dm) ++ ((uX8 cs (qm 3) qms Fms Ams Bms Dms) ++ ((uX3 cs (qms 0) qmh Fmh Amh Bmh Dmh) ++ ((uX5 cs (qm 6) qmn Fmn Amn Bmn Dmn) ++ (uX5 cs (qm 7) qmw (upd (upd Fmw 2 u.1) 3 u.2.1) (vA (vA Amw 0 u.2.2.1) 1 u.2.2.2) Bmw Dmw)))))))) (by decide) (by simp [lg_sl, Value.category]) ?_
  intro p e s m args below meth c ls A0 hx hb hml hr hlk hown hmn ht hK hP hD hS hA hl
  have hl : lv_has ls 3 [(0, .ref adm), (1, .int a1), (2, .int a2)] := hl
  refine lv_aload_n hx hb dX10_card_0 rfl (lv_at hl 0 rfl) ?_
  refine lv_iload_n hx hb dX10_card_1 rfl (lv_at hl 1 rfl) ?_
  refine behR (runVP (As := [.int a1]) (rest := []) ⟨hx, hb, hml, hown, ht⟩ (sX10_isRoom l G cs adm qm Fm Am Bm Dm hIm qms Fms Ams Bms Dms hIms qmh Fmh Amh Bmh Dmh hImh a1 ) okV_RX10_120 ⟨by decide, by decide⟩ hK hP [0, 1, 2, 3, 4, 5, 6, 7, 8, 9, 10, 11, 12] rfl 0 rfl rfl hl.1 rfl (Nat.le_of_ble_eq_true rfl) dX10_card_2 ⟨by decide, by decide⟩) hP hS hA (fun r1 H locs hr1 hP hS => ?_)
  have hr1 : (r1.toInt = 1 ∧ 0 ≤ a1.toInt ∧ a1.toInt < (Fmh 5).toInt ∧ a1.toInt ≤ 6) ∨ r1.toInt = 0 := hr1
  refine lv_if_eq (tgt := 19) hx hb dX10_card_5 (by decide) (fun c2 => ?_) (fun c2 => ?_)
  · have zc2 := eqK rfl (show (0 : Int32).toInt = 0 by decide) c2
    refine lv_bipush (v := (-2)) hx hb dX10_card_19 (by decide) ?_
    exact retDi ((Fmw 2), (Fmw 3), (Amw 0), (Amw 1)) hx hb hr hlk hP hD hS dX10_card_21 (trivial) (Nat.le_of_ble_eq_true rfl) (Nat.le_of_ble_eq_true rfl)
  · have zc2 := neK rfl (show (0 : Int32).toInt = 0 by decide) c2
    refine lv_iload_n hx hb dX10_card_8 rfl (lv_at hl 2 rfl) ?_
    refine lv_if_lt (tgt := 19) hx hb dX10_card_9 (by decide) (fun c3 => ?_) (fun c3 => ?_)
    · have zc3 := ltK rfl (show (0 : Int32).toInt = 0 by decide) c3
      refine lv_bipush (v := (-2)) hx hb dX10_card_19 (by decide) ?_
      exact retDi ((Fmw 2), (Fmw 3), (Amw 0), (Amw 1)) hx hb hr hlk hP hD hS dX10_card_21 (trivial) (Nat.le_of_ble_eq_true rfl) (Nat.le_of_ble_eq_true rfl)
    · have zc3 := nltK rfl (show (0 : Int32).toInt = 0 by decide) c3
      refine lv_iload_n hx hb dX10_card_12 rfl (lv_at hl 2 rfl) ?_
      refine lv_sipush (v := 200) hx hb dX10_card_13 (by decide) ?_
      refine lv_icmp_le (tgt := 22) hx hb dX10_card_16 (by decide) (fun c4 => ?_) (fun c4 => ?_)
      · have zc4 := leK rfl (show (200 : Int32).toInt = 200 by decide) c4
        refine lv_aload_n hx hb dX10_card_22 rfl (lv_at hl 0 rfl) ?_
        refine lv_iload_n hx hb dX10_card_23 rfl (lv_at hl 1 rfl) ?_
        refine lv_iload_n hx hb dX10_card_24 rfl (lv_at hl 2 rfl) ?_
        refine behDi (wr := ([] : va_W)) (runVD (As := [.int a1, .int a2]) (rest := []) ⟨hx, hb, hml, hown, ht⟩ (sX10_comesInto l G cs adm qm Fm Am Bm Dm hIm qms Fms Ams Bms Dms hIms qmh Fmh Amh Bmh Dmh hImh qmn Fmn Amn Bmn Dmn hImn qmw Fmw Amw Bmw Dmw hImw a1 a2 (by omega)) okV_RX10_250 ⟨by decide, by decide⟩ hK hP hD [0, 1, 2, 3, 4, 5, 6, 7, 8, 9, 10, 11, 12, 13, 14, 15, 16, 17, 18] rfl (by decide) rfl 0 rfl rfl hl.1 rfl (Nat.le_of_ble_eq_true rfl) dX10_card_25 ⟨(Nat.le_of_ble_eq_true rfl), (Nat.le_of_ble_eq_true rfl)⟩) hP hD hS hA [0, 1, 2, 3, 4, 5, 6, 7, 8, 9, 10, 11, 12, 13, 14, 15, 16, 17, 18] [] rfl rfl (by decide) (by decide) (fun r9 u H locs hu hP hD hS => ?_)
        obtain ⟨x5, x6, g7, g8⟩ := u
        obtain ⟨r9, rfl⟩ : ∃ z, z = r9 := ⟨_, rfl⟩
        have hr9 := hu
        have hP : va_P G vwCl ((uX10 cs adm qm Fm Am Bm Dm) ++ ((uX8 cs (qm 3) qms Fms Ams Bms Dms) ++ ((uX3 cs (qms 0) qmh Fmh Amh Bmh Dmh) ++ ((uX5 cs (qm 6) qmn Fmn Amn Bmn Dmn) ++ (uX5 cs (qm 7) qmw (upd (upd Fmw 2 x5) 3 x6) (vA (vA Amw 0 g7) 1 g8) Bmw Dmw))))) H := hP.sub [0, 1, 2, 3, 4, 5, 6, 7, 8, 9, 10, 11, 12, 13, 14, 15, 16, 17, 18] rfl
        have hD : va_D A0 ((uX10 cs adm qm Fm Am Bm Dm) ++ ((uX8 cs (qm 3) qms Fms Ams Bms Dms) ++ ((uX3 cs (qms 0) qmh Fmh Amh Bmh Dmh) ++ ((uX5 cs (qm 6) qmn Fmn Amn Bmn Dmn) ++ (uX5 cs (qm 7) qmw (upd (upd Fmw 2 x5) 3 x6) (vA (vA Amw 0 g7) 1 g8) Bmw Dmw))))) := hD.sub [0, 1, 2, 3, 4, 5, 6, 7, 8, 9, 10, 11, 12, 13, 14, 15, 16, 17, 18] (by decide) rfl
        exact retDi (x5, x6, g7, g8) hx hb hr hlk hP hD hS dX10_card_28 (trivial) (Nat.le_of_ble_eq_true rfl) (Nat.le_of_ble_eq_true rfl)
      · have zc4 := nleK rfl (show (200 : Int32).toInt = 200 by decide) c4
        refine lv_bipush (v := (-2)) hx hb dX10_card_19 (by decide) ?_
        exact retDi ((Fmw 2), (Fmw 3), (Amw 0), (Amw 1)) hx hb hr hlk hP hD hS dX10_card_21 (trivial) (Nat.le_of_ble_eq_true rfl) (Nat.le_of_ble_eq_true rfl)

set_option maxRecDepth 100000 in
set_option maxHeartbeats 16000000 in
theorem sX10_desk (l : Launch) (G : va_G) (cs : Nat → ClassId) (adm : Nat) (qm : Nat → Nat) (Fm : Nat → Int32) (Am : Nat → Nat → Int32) (Bm : Nat → Nat → Int64) (Dm : Int64) (hIm : IX10 Fm Am) (qms : Nat → Nat) (Fms : Nat → Int32) (Ams : Nat → Nat → Int32) (Bms : Nat → Nat → Int64) (Dms : Int64) (hIms : IX8 Fms Ams) (qmh : Nat → Nat) (Fmh : Nat → Int32) (Amh : Nat → Nat → Int32) (Bmh : Nat → Nat → Int64) (Dmh : Int64) (hImh : IX3 Fmh Amh) (qmn : Nat → Nat) (Fmn : Nat → Int32) (Amn : Nat → Nat → Int32) (Bmn : Nat → Nat → Int64) (Dmn : Int64) (hImn : IX5 Fmn Amn) (qmw : Nat → Nat) (Fmw : Nat → Int32) (Amw : Nat → Nat → Int32) (Bmw : Nat → Nat → Int64) (Dmw : Int64) (hImw : IX5 Fmw Amw) (a1 : Int32) : ∀ sz : Nat, Met l yX10_desk (wk yX10_desk cX10_desk 6 (some .int)) (rmk 4 0 0) (PreD G (TY cs) [.ref adm, .int a1] ((uX10 cs adm qm Fm Am Bm Dm) ++ ((uX8 cs (qm 3) qms Fms Ams Bms Dms) ++ ((uX3 cs (qms 0) qmh Fmh Amh Bmh Dmh) ++ ((uX5 cs (qm 6) qmn Fmn Amn Bmn Dmn) ++ (uX5 cs (qm 7) qmw Fmw Amw Bmw Dmw))))) sz) ((QDi G (fun (r : Int32) (u : Int32 × Int32 × (Nat → Int32) × (Nat → Int32)) => True) (fun u : Int32 × Int32 × (Nat → Int32) × (Nat → Int32) => ((uX10 cs adm qm Fm Am Bm Dm) ++ ((uX8 cs (qm 3) qms Fms Ams Bms Dms) ++ ((uX3 cs (qms 0) qmh Fmh Amh Bmh Dmh) ++ ((uX5 cs (qm 6) qmn Fmn Amn Bmn Dmn) ++ (uX5 cs (qm 7) qmw (upd (upd Fmw 2 u.1) 3 u.2.1) (vA (vA Amw 0 u.2.2.1) 1 u.2.2.2) Bmw Dmw))))))) (va_A ((uX10 cs adm qm Fm Am Bm Dm) ++ ((uX8 cs (qm 3) qms Fms Ams Bms Dms) ++ ((uX3 cs (qms 0) qmh Fmh Amh Bmh Dmh) ++ ((uX5 cs (qm 6) qmn Fmn Amn Bmn Dmn) ++ (uX5 cs (qm 7) qmw Fmw Amw Bmw Dmw))))) sz)) 0 0 (va_A ((uX10 cs adm qm Fm Am Bm Dm) ++ ((uX8 cs (qm 3) qms Fms Ams Bms Dms) ++ ((uX3 cs (qms 0) qmh Fmh Amh Bmh Dmh) ++ ((uX5 cs (qm 6) qmn Fmn Amn Bmn Dmn) ++ (uX5 cs (qm 7) qmw Fmw Amw Bmw Dmw))))) sz) := by
  refine mkD (Qc := (QDi G (fun (r : Int32) (u : Int32 × Int32 × (Nat → Int32) × (Nat → Int32)) => True) (fun u : Int32 × Int32 × (Nat → Int32) × (Nat → Int32) => ((uX10 cs adm qm Fm Am Bm Dm) ++ ((uX8 cs (qm 3) qms Fms Ams Bms Dms) ++ ((uX3 cs (qms 0) qmh Fmh Amh Bmh Dmh) ++ ((uX5 cs (qm 6) qmn Fmn Amn Bmn Dmn) ++ (uX5 cs (qm 7) qmw (upd (upd Fmw 2 u.1) 3 u.2.1) (vA (vA Amw 0 u.2.2.1) 1 u.2.2.2) Bmw Dmw)))))))) (by decide) (by simp [lg_sl, Value.category]) ?_
  intro p e s m args below meth c ls A0 hx hb hml hr hlk hown hmn ht hK hP hD hS hA hl
  have hl : lv_has ls 6 [(0, .ref adm), (1, .int a1)] := hl
  refine lv_aload_n hx hb dX10_desk_0 rfl (lv_at hl 0 rfl) ?_
  refine getF (v := .ref (qm 3)) hx hb ht hown hK hP iTX10 0 3 rfl rfl (by decide) fl_RX10_31 rfl dX10_desk_1 ?_
  refine getF (v := .ref (qms 0)) hx hb ht hown hK hP iTX8 3 0 rfl rfl (by decide) fl_RX10_98 rfl dX10_desk_4 ?_
  refine getF (v := .int (Fmh 5)) hx hb ht hown hK hP iTX3 5 5 rfl rfl (by decide) fl_RX10_159 rfl dX10_desk_7 ?_
  have zf1 : (0 : Int) ≤ (Fmh 5).toInt ∧ (Fmh 5).toInt ≤ 7 := hImh.1 5
  refine lv_iconst (v := 1) hx hb dX10_desk_10 (by decide) ?_
  refine lv_icmp_lt (tgt := 25) hx hb dX10_desk_11 (by decide) (fun c2 => ?_) (fun c2 => ?_)
  · have zc2 := ltK rfl (show (1 : Int32).toInt = 1 by decide) c2
    refine lv_bipush (v := (-2)) hx hb dX10_desk_25 (by decide) ?_
    exact retDi ((Fmw 2), (Fmw 3), (Amw 0), (Amw 1)) hx hb hr hlk hP hD hS dX10_desk_27 (trivial) (Nat.le_of_ble_eq_true rfl) (Nat.le_of_ble_eq_true rfl)
  · have zc2 := nltK rfl (show (1 : Int32).toInt = 1 by decide) c2
    refine lv_iload_n hx hb dX10_desk_14 rfl (lv_at hl 1 rfl) ?_
    refine lv_if_lt (tgt := 25) hx hb dX10_desk_15 (by decide) (fun c3 => ?_) (fun c3 => ?_)
    · have zc3 := ltK rfl (show (0 : Int32).toInt = 0 by decide) c3
      refine lv_bipush (v := (-2)) hx hb dX10_desk_25 (by decide) ?_
      exact retDi ((Fmw 2), (Fmw 3), (Amw 0), (Amw 1)) hx hb hr hlk hP hD hS dX10_desk_27 (trivial) (Nat.le_of_ble_eq_true rfl) (Nat.le_of_ble_eq_true rfl)
    · have zc3 := nltK rfl (show (0 : Int32).toInt = 0 by decide) c3
      refine lv_iload_n hx hb dX10_desk_18 rfl (lv_at hl 1 rfl) ?_
      refine lv_sipush (v := 200) hx hb dX10_desk_19 (by decide) ?_
      refine lv_icmp_le (tgt := 28) hx hb dX10_desk_22 (by decide) (fun c4 => ?_) (fun c4 => ?_)
      · have zc4 := leK rfl (show (200 : Int32).toInt = 200 by decide) c4
        refine lv_iconst (v := 0) hx hb dX10_desk_28 (by decide) ?_
        refine lv_istore_n (lv' := [(2, .int 0), (0, .ref adm), (1, .int a1)]) hx hb dX10_desk_29 rfl hl (by decide) rfl (fun ls hl => ?_)
        refine lv_iconst (v := (-1)) hx hb dX10_desk_30 (by decide) ?_
        refine lv_istore_n (lv' := [(3, .int (-1)), (2, .int 0), (0, .ref adm), (1, .int a1)]) hx hb dX10_desk_31 rfl hl (by decide) rfl (fun ls hl => ?_)
        refine lv_iconst (v := 0) hx hb dX10_desk_32 (by decide) ?_
        refine lv_istore (lv' := [(4, .int 0), (3, .int (-1)), (2, .int 0), (0, .ref adm), (1, .int a1)]) hx hb dX10_desk_33 hl (by decide) rfl (fun ls hl => ?_)
        have B35 : ∀ (n : Nat) (x35_2 : Int32) (x35_3 : Int32) (x35_4 : Int32) (fmw2_35 : Int32) (fmw3_35 : Int32) (amw0_35 : (Nat → Int32)) (amw1_35 : (Nat → Int32)) (H : Heap) (locs : List Loc) (ls : Array Slot), (7 - x35_4.toInt).toNat < n → (0 : Int) ≤ x35_2.toInt ∧ x35_2.toInt ≤ 6 → (-1 : Int) ≤ x35_3.toInt → (0 : Int) ≤ x35_4.toInt ∧ x35_4.toInt ≤ 7 → va_P G vwCl ((uX10 cs adm qm Fm Am Bm Dm) ++ ((uX8 cs (qm 3) qms Fms Ams Bms Dms) ++ ((uX3 cs (qms 0) qmh Fmh Amh Bmh Dmh) ++ ((uX5 cs (qm 6) qmn Fmn Amn Bmn Dmn) ++ (uX5 cs (qm 7) qmw (upd (upd Fmw 2 fmw2_35) 3 fmw3_35) (vA (vA Amw 0 amw0_35) 1 amw1_35) Bmw Dmw))))) H → va_D A0 ((uX10 cs adm qm Fm Am Bm Dm) ++ ((uX8 cs (qm 3) qms Fms Ams Bms Dms) ++ ((uX3 cs (qms 0) qmh Fmh Amh Bmh Dmh) ++ ((uX5 cs (qm 6) qmn Fmn Amn Bmn Dmn) ++ (uX5 cs (qm 7) qmw (upd (upd Fmw 2 fmw2_35) 3 fmw3_35) (vA (vA Amw 0 amw0_35) 1 amw1_35) Bmw Dmw))))) → va_S A0 s.heap H locs → lv_has ls 6 [(0, .ref adm), (1, .int a1), (2, .int x35_2), (3, .int x35_3), (4, .int x35_4)] → W p l e (rmk 4 0 0) s m args below meth c H locs 0 0 (MQ below ((QDi G (fun (r : Int32) (u : Int32 × Int32 × (Nat → Int32) × (Nat → Int32)) => True) (fun u : Int32 × Int32 × (Nat → Int32) × (Nat → Int32) => ((uX10 cs adm qm Fm Am Bm Dm) ++ ((uX8 cs (qm 3) qms Fms Ams Bms Dms) ++ ((uX3 cs (qms 0) qmh Fmh Amh Bmh Dmh) ++ ((uX5 cs (qm 6) qmn Fmn Amn Bmn Dmn) ++ (uX5 cs (qm 7) qmw (upd (upd Fmw 2 u.1) 3 u.2.1) (vA (vA Amw 0 u.2.2.1) 1 u.2.2.2) Bmw Dmw))))))) A0) args s 0 0 A0) (F0 m 35 ls []) := by
          intro n
          induction n with
          | zero => intro x35_2 x35_3 x35_4 fmw2_35 fmw3_35 amw0_35 amw1_35 H locs ls hmeas hx35_2 hx35_3 hx35_4 hP hD hS hl; exact absurd hmeas (Nat.not_lt_zero _)
          | succ n ih35 =>
            intro x35_2 x35_3 x35_4 fmw2_35 fmw3_35 amw0_35 amw1_35 H locs ls hmeas hx35_2 hx35_3 hx35_4 hP hD hS hl
            refine lv_iload hx hb dX10_desk_35 (lv_at hl 4 rfl) ?_
            refine lv_aload_n hx hb dX10_desk_37 rfl (lv_at hl 0 rfl) ?_
            refine getF (v := .ref (qm 3)) hx hb ht hown hK hP iTX10 0 3 rfl rfl (by decide) fl_RX10_31 rfl dX10_desk_38 ?_
            refine getF (v := .ref (qms 0)) hx hb ht hown hK hP iTX8 3 0 rfl rfl (by decide) fl_RX10_98 rfl dX10_desk_41 ?_
            refine getF (v := .int (Fmh 5)) hx hb ht hown hK hP iTX3 5 5 rfl rfl (by decide) fl_RX10_159 rfl dX10_desk_44 ?_
            have zf18001 : (0 : Int) ≤ (Fmh 5).toInt ∧ (Fmh 5).toInt ≤ 7 := hImh.1 5
            refine lv_icmp_ge (tgt := 77) hx hb dX10_desk_47 (by decide) (fun c18002 => ?_) (fun c18002 => ?_)
            · have zc18002 := leK rfl rfl c18002
              refine lv_iload_n hx hb dX10_desk_77 rfl (lv_at hl 2 rfl) ?_
              exact retDi (fmw2_35, fmw3_35, amw0_35, amw1_35) hx hb hr hlk hP hD hS dX10_desk_78 (trivial) (Nat.le_of_ble_eq_true rfl) (Nat.le_of_ble_eq_true rfl)
            · have zc18002 := nleK rfl rfl c18002
              refine lv_aload_n hx hb dX10_desk_50 rfl (lv_at hl 0 rfl) ?_
              refine lv_iload hx hb dX10_desk_51 (lv_at hl 4 rfl) ?_
              refine lv_iload_n hx hb dX10_desk_53 rfl (lv_at hl 1 rfl) ?_
              refine behDi (wr := ([] : va_W)) (runVD (As := [.int x35_4, .int a1]) (rest := []) ⟨hx, hb, hml, hown, ht⟩ (sX10_comesInto l G cs adm qm Fm Am Bm Dm hIm qms Fms Ams Bms Dms hIms qmh Fmh Amh Bmh Dmh hImh qmn Fmn Amn Bmn Dmn hImn qmw (upd (upd Fmw 2 fmw2_35) 3 fmw3_35) (vA (vA Amw 0 amw0_35) 1 amw1_35) Bmw Dmw (IB_arr (k := 1) (IB_arr (k := 0) (IB_put (k := 3) (IB_put (k := 2) hImw (i32b _)) (i32b _)) (AJ_full _)) (AJ_full _)) x35_4 a1 (by omega)) okV_RX10_250 ⟨by decide, by decide⟩ hK hP hD [0, 1, 2, 3, 4, 5, 6, 7, 8, 9, 10, 11, 12, 13, 14, 15, 16, 17, 18] rfl (by decide) rfl 0 rfl rfl hl.1 rfl (Nat.le_of_ble_eq_true rfl) dX10_desk_54 ⟨(Nat.le_of_ble_eq_true rfl), (Nat.le_of_ble_eq_true rfl)⟩) hP hD hS hA [0, 1, 2, 3, 4, 5, 6, 7, 8, 9, 10, 11, 12, 13, 14, 15, 16, 17, 18] [] rfl rfl (by decide) (by decide) (fun r9 u H locs hu hP hD hS => ?_)
              obtain ⟨x18003, x18004, g18005, g18006⟩ := u
              obtain ⟨r18007, rfl⟩ : ∃ z, z = r9 := ⟨_, rfl⟩
              have hr18007 := hu
              have hP : va_P G vwCl ((uX10 cs adm qm Fm Am Bm Dm) ++ ((uX8 cs (qm 3) qms Fms Ams Bms Dms) ++ ((uX3 cs (qms 0) qmh Fmh Amh Bmh Dmh) ++ ((uX5 cs (qm 6) qmn Fmn Amn Bmn Dmn) ++ (uX5 cs (qm 7) qmw (upd (upd Fmw 2 x18003) 3 x18004) (vA (vA Amw 0 g18005) 1 g18006) Bmw Dmw))))) H := hP.sub [0, 1, 2, 3, 4, 5, 6, 7, 8, 9, 10, 11, 12, 13, 14, 15, 16, 17, 18] rfl
              have hD : va_D A0 ((uX10 cs adm qm Fm Am Bm Dm) ++ ((uX8 cs (qm 3) qms Fms Ams Bms Dms) ++ ((uX3 cs (qms 0) qmh Fmh Amh Bmh Dmh) ++ ((uX5 cs (qm 6) qmn Fmn Amn Bmn Dmn) ++ (uX5 cs (qm 7) qmw (upd (upd Fmw 2 x18003) 3 x18004) (vA (vA Amw 0 g18005) 1 g18006) Bmw Dmw))))) := hD.sub [0, 1, 2, 3, 4, 5, 6, 7, 8, 9, 10, 11, 12, 13, 14, 15, 16, 17, 18] (by decide) rfl
              refine lv_istore (lv' := [(5, .int r18007), (0, .ref adm), (1, .int a1), (2, .int x35_2), (3, .int x35_3), (4, .int x35_4)]) hx hb dX10_desk_57 hl (by decide) rfl (fun ls hl => ?_)
              refine lv_iload hx hb dX10_desk_59 (lv_at hl 0 rfl) ?_
              refine lv_iload_n hx hb dX10_desk_61 rfl (lv_at hl 4 rfl) ?_
              have B71 : ∀ (x71_2 : Int32) (x71_3 : Int32) (H : Heap) (locs : List Loc) (ls : Array Slot), (0 : Int) ≤ x71_2.toInt ∧ x71_2.toInt ≤ 6 → (-1 : Int) ≤ x71_3.toInt → va_P G vwCl ((uX10 cs adm qm Fm Am Bm Dm) ++ ((uX8 cs (qm 3) qms Fms Ams Bms Dms) ++ ((uX3 cs (qms 0) qmh Fmh Amh Bmh Dmh) ++ ((uX5 cs (qm 6) qmn Fmn Amn Bmn Dmn) ++ (uX5 cs (qm 7) qmw (upd (upd Fmw 2 x18003) 3 x18004) (vA (vA Amw 0 g18005) 1 g18006) Bmw Dmw))))) H → va_D A0 ((uX10 cs adm qm Fm Am Bm Dm) ++ ((uX8 cs (qm 3) qms Fms Ams Bms Dms) ++ ((uX3 cs (qms 0) qmh Fmh Amh Bmh Dmh) ++ ((uX5 cs (qm 6) qmn Fmn Amn Bmn Dmn) ++ (uX5 cs (qm 7) qmw (upd (upd Fmw 2 x18003) 3 x18004) (vA (vA Amw 0 g18005) 1 g18006) Bmw Dmw))))) → va_S A0 s.heap H locs → lv_has ls 6 [(0, .ref adm), (1, .int a1), (2, .int x71_2), (3, .int x71_3), (4, .int x35_4)] → W p l e (rmk 4 0 0) s m args below meth c H locs 0 0 (MQ below ((QDi G (fun (r : Int32) (u : Int32 × Int32 × (Nat → Int32) × (Nat → Int32)) => True) (fun u : Int32 × Int32 × (Nat → Int32) × (Nat → Int32) => ((uX10 cs adm qm Fm Am Bm Dm) ++ ((uX8 cs (qm 3) qms Fms Ams Bms Dms) ++ ((uX3 cs (qms 0) qmh Fmh Amh Bmh Dmh) ++ ((uX5 cs (qm 6) qmn Fmn Amn Bmn Dmn) ++ (uX5 cs (qm 7) qmw (upd (upd Fmw 2 u.1) 3 u.2.1) (vA (vA Amw 0 u.2.2.1) 1 u.2.2.2) Bmw Dmw))))))) A0) args s 0 0 A0) (F0 m 71 ls []) := by
                intro x71_2 x71_3 H locs ls hx71_2 hx71_3 hP hD hS hl
                obtain ⟨v36001, ev36001⟩ : ∃ z : Int32, z = x35_4 + 1 := ⟨_, rfl⟩
                have tv36001 : v36001.toInt = x35_4.toInt + 1 := by rw [ev36001]; exact addT rfl (by decide) (by omega)
                refine lv_iinc (v := v36001) (lv' := [(4, .int v36001), (0, .ref adm), (1, .int a1), (2, .int x71_2), (3, .int x71_3)]) hx hb dX10_desk_71 hl (k := 4) rfl (by rw [ev36001]; rfl) (by decide) rfl (fun ls hl => ?_)
                refine lv_goto (tgt := 35) hx hb dX10_desk_74 (by decide) ?_
                exact ih35 x71_2 x71_3 v36001 x18003 x18004 g18005 g18006 H locs ls (by omega) (by omega) (by omega) (by omega) hP hD hS (lv_sub hl [1, 2, 3, 4, 0] rfl)
              refine lv_icmp_le (tgt := 71) hx hb dX10_desk_62 (by decide) (fun c18008 => ?_) (fun c18008 => ?_)
              · have zc18008 := leK rfl rfl c18008
                exact B71 x35_2 x35_3 H locs ls (by omega) (by omega) hP hD hS (lv_sub hl [1, 2, 3, 4, 5] rfl)
              · have zc18008 := nleK rfl rfl c18008
                refine lv_iload hx hb dX10_desk_65 (lv_at hl 0 rfl) ?_
                refine lv_istore_n (lv' := [(3, .int r18007), (5, .int r18007), (0, .ref adm), (1, .int a1), (2, .int x35_2), (4, .int x35_4)]) hx hb dX10_desk_67 rfl hl (by decide) rfl (fun ls hl => ?_)
                refine lv_iload hx hb dX10_desk_68 (lv_at hl 5 rfl) ?_
                refine lv_istore_n (lv' := [(2, .int x35_4), (3, .int r18007), (5, .int r18007), (0, .ref adm), (1, .int a1), (4, .int x35_4)]) hx hb dX10_desk_70 rfl hl (by decide) rfl (fun ls hl => ?_)
                exact B71 x35_4 r18007 H locs ls (by omega) (by omega) hP hD hS (lv_sub hl [3, 4, 0, 1, 5] rfl)
        exact B35 _ 0 (-1) 0 (Fmw 2) (Fmw 3) (Amw 0) (Amw 1) s.heap [] ls (Nat.lt_succ_self _) (by decide) (by decide) (by decide) hP hD hS (lv_sub hl [3, 4, 2, 1, 0] rfl)
      · have zc4 := nleK rfl (show (200 : Int32).toInt = 200 by decide) c4
        refine lv_bipush (v := (-2)) hx hb dX10_desk_25 (by decide) ?_
        exact retDi ((Fmw 2), (Fmw 3), (Amw 0), (Amw 1)) hx hb hr hlk hP hD hS dX10_desk_27 (trivial) (Nat.le_of_ble_eq_true rfl) (Nat.le_of_ble_eq_true rfl)

set_option maxRecDepth 100000 in
set_option maxHeartbeats 16000000 in
theorem sX10_one (l : Launch) (G : va_G) (cs : Nat → ClassId) (adm : Nat) (qm : Nat → Nat) (Fm : Nat → Int32) (Am : Nat → Nat → Int32) (Bm : Nat → Nat → Int64) (Dm : Int64) (hIm : IX10 Fm Am) (qms : Nat → Nat) (Fms : Nat → Int32) (Ams : Nat → Nat → Int32) (Bms : Nat → Nat → Int64) (Dms : Int64) (hIms : IX8 Fms Ams) (qmh : Nat → Nat) (Fmh : Nat → Int32) (Amh : Nat → Nat → Int32) (Bmh : Nat → Nat → Int64) (Dmh : Int64) (hImh : IX3 Fmh Amh) (qmc : Nat → Nat) (Fmc : Nat → Int32) (Amc : Nat → Nat → Int32) (Bmc : Nat → Nat → Int64) (Dmc : Int64) (hImc : IX1 Fmc Amc) (a1 : Int32) : ∀ sz : Nat, Met l yX10_one (wk yX10_one cX10_one 2 (some .int)) (rmk 5 0 0) (PreD G (TY cs) [.ref adm, .int a1] ((uX10 cs adm qm Fm Am Bm Dm) ++ ((uX8 cs (qm 3) qms Fms Ams Bms Dms) ++ ((uX3 cs (qms 0) qmh Fmh Amh Bmh Dmh) ++ (uX1 cs (qm 9) qmc Fmc Amc Bmc Dmc)))) sz) ((QDi G (fun (r : Int32) (u : Int32 × Int32 × (Nat → Int32) × (Nat → Int32) × (Nat → Int64)) => ((0 : Int) ≤ u.1.toInt ∧ u.1.toInt ≤ 1792) ∧ ((-1 : Int) ≤ u.2.1.toInt ∧ u.2.1.toInt ≤ 1791) ∧ AJ (0) 6271 u.2.2.1 ∧ AJ (-1) 1791 u.2.2.2.1 ∧ (True)) (fun u : Int32 × Int32 × (Nat → Int32) × (Nat → Int32) × (Nat → Int64) => ((uX10 cs adm qm Fm Am Bm Dm) ++ ((uX8 cs (qm 3) qms Fms Ams Bms Dms) ++ ((uX3 cs (qms 0) qmh Fmh Amh Bmh Dmh) ++ (uX1 cs (qm 9) qmc (upd (upd Fmc 5 u.1) 6 u.2.1) (vA (vA Amc 1 u.2.2.1) 2 u.2.2.2.1) (vA Bmc 0 u.2.2.2.2) Dmc)))))) (va_A ((uX10 cs adm qm Fm Am Bm Dm) ++ ((uX8 cs (qm 3) qms Fms Ams Bms Dms) ++ ((uX3 cs (qms 0) qmh Fmh Amh Bmh Dmh) ++ (uX1 cs (qm 9) qmc Fmc Amc Bmc Dmc)))) sz)) 0 0 (va_A ((uX10 cs adm qm Fm Am Bm Dm) ++ ((uX8 cs (qm 3) qms Fms Ams Bms Dms) ++ ((uX3 cs (qms 0) qmh Fmh Amh Bmh Dmh) ++ (uX1 cs (qm 9) qmc Fmc Amc Bmc Dmc)))) sz) := by
  refine mkD (Qc := (QDi G (fun (r : Int32) (u : Int32 × Int32 × (Nat → Int32) × (Nat → Int32) × (Nat → Int64)) => ((0 : Int) ≤ u.1.toInt ∧ u.1.toInt ≤ 1792) ∧ ((-1 : Int) ≤ u.2.1.toInt ∧ u.2.1.toInt ≤ 1791) ∧ AJ (0) 6271 u.2.2.1 ∧ AJ (-1) 1791 u.2.2.2.1 ∧ (True)) (fun u : Int32 × Int32 × (Nat → Int32) × (Nat → Int32) × (Nat → Int64) => ((uX10 cs adm qm Fm Am Bm Dm) ++ ((uX8 cs (qm 3) qms Fms Ams Bms Dms) ++ ((uX3 cs (qms 0) qmh Fmh Amh Bmh Dmh) ++ (uX1 cs (qm 9) qmc (upd (upd Fmc 5 u.1) 6 u.2.1) (vA (vA Amc 1 u.2.2.1) 2 u.2.2.2.1) (vA Bmc 0 u.2.2.2.2) Dmc))))))) (by decide) (by simp [lg_sl, Value.category]) ?_
  intro p e s m args below meth c ls A0 hx hb hml hr hlk hown hmn ht hK hP hD hS hA hl
  have hl : lv_has ls 2 [(0, .ref adm), (1, .int a1)] := hl
  refine lv_aload_n hx hb dX10_one_0 rfl (lv_at hl 0 rfl) ?_
  refine lv_iload_n hx hb dX10_one_1 rfl (lv_at hl 1 rfl) ?_
  refine behR (runVP (As := [.int a1]) (rest := []) ⟨hx, hb, hml, hown, ht⟩ (sX10_isRoom l G cs adm qm Fm Am Bm Dm hIm qms Fms Ams Bms Dms hIms qmh Fmh Amh Bmh Dmh hImh a1 ) okV_RX10_120 ⟨by decide, by decide⟩ hK hP [0, 1, 2, 3, 4, 5, 6, 7, 8, 9, 10, 11, 12] rfl 0 rfl rfl hl.1 rfl (Nat.le_of_ble_eq_true rfl) dX10_one_2 ⟨by decide, by decide⟩) hP hS hA (fun r1 H locs hr1 hP hS => ?_)
  have hr1 : (r1.toInt = 1 ∧ 0 ≤ a1.toInt ∧ a1.toInt < (Fmh 5).toInt ∧ a1.toInt ≤ 6) ∨ r1.toInt = 0 := hr1
  refine lv_if_ne (tgt := 11) hx hb dX10_one_5 (by decide) (fun c2 => ?_) (fun c2 => ?_)
  · have zc2 := neK rfl (show (0 : Int32).toInt = 0 by decide) c2
    refine lv_aload_n hx hb dX10_one_11 rfl (lv_at hl 0 rfl) ?_
    refine getF (v := .ref (qm 9)) hx hb ht hown hK hP iTX10 0 9 rfl rfl (by decide) fl_RX10_65 rfl dX10_one_12 ?_
    refine lv_aload_n hx hb dX10_one_15 rfl (lv_at hl 0 rfl) ?_
    refine getF (v := .ref (qm 3)) hx hb ht hown hK hP iTX10 0 3 rfl rfl (by decide) fl_RX10_31 rfl dX10_one_16 ?_
    refine getF (v := .ref (qms 0)) hx hb ht hown hK hP iTX8 3 0 rfl rfl (by decide) fl_RX10_98 rfl dX10_one_19 ?_
    refine lv_iload_n hx hb dX10_one_22 rfl (lv_at hl 1 rfl) ?_
    refine lv_iload_n hx hb dX10_one_23 rfl (lv_at hl 1 rfl) ?_
    refine lv_iconst (v := 1) hx hb dX10_one_24 (by decide) ?_
    refine behDi (wr := ((uX10 cs adm qm Fm Am Bm Dm) ++ (uX8 cs (qm 3) qms Fms Ams Bms Dms))) (runVD (As := [.ref (qms 0), .int a1, .int a1, .int 1]) (rest := []) ⟨hx, hb, hml, hown, ht⟩ (sX1_hunt l G cs (qm 9) qmc Fmc Amc Bmc Dmc hImc (qms 0) qmh Fmh Amh Bmh Dmh hImh a1 a1 1 (by omega) (by omega) (by decide)) okV_RX10_253 ⟨by decide, by decide⟩ hK hP hD [13, 14, 15, 16, 17, 18, 5, 6, 7, 8, 9, 10, 11, 12] rfl (by decide) rfl 13 rfl rfl hl.1 rfl (Nat.le_of_ble_eq_true rfl) dX10_one_25 ⟨(Nat.le_of_ble_eq_true rfl), (Nat.le_of_ble_eq_true rfl)⟩) hP hD hS hA [13, 14, 15, 16, 17, 18, 5, 6, 7, 8, 9, 10, 11, 12] [0, 1, 2, 3, 4] rfl rfl (by decide) (by decide) (fun r9 u H locs hu hP hD hS => ?_)
    obtain ⟨x3, x4, g5, g6, y7⟩ := u
    have kk9 : (1 : Int32).toInt = 1 := by decide
    obtain ⟨r8, rfl⟩ : ∃ z, z = r9 := ⟨_, rfl⟩
    obtain ⟨hbx3, hbx4, hg5, hg6, hr8⟩ := hu
    have hbx3 : (0 : Int) ≤ x3.toInt ∧ x3.toInt ≤ 1792 := hbx3
    have hbx4 : (-1 : Int) ≤ x4.toInt ∧ x4.toInt ≤ 1791 := hbx4
    have hg5 : AJ (0) 6271 g5 := hg5
    have hg6 : AJ (-1) 1791 g6 := hg6
    have hr8 : (0 : Int) ≤ r8.toInt ∧ r8.toInt ≤ 1 := hr8
    have hP : va_P G vwCl ((uX10 cs adm qm Fm Am Bm Dm) ++ ((uX8 cs (qm 3) qms Fms Ams Bms Dms) ++ ((uX3 cs (qms 0) qmh Fmh Amh Bmh Dmh) ++ (uX1 cs (qm 9) qmc (upd (upd Fmc 5 x3) 6 x4) (vA (vA Amc 1 g5) 2 g6) (vA Bmc 0 y7) Dmc)))) H := hP.sub [0, 1, 2, 3, 4, 11, 12, 13, 14, 15, 16, 17, 18, 5, 6, 7, 8, 9, 10] rfl
    have hD : va_D A0 ((uX10 cs adm qm Fm Am Bm Dm) ++ ((uX8 cs (qm 3) qms Fms Ams Bms Dms) ++ ((uX3 cs (qms 0) qmh Fmh Amh Bmh Dmh) ++ (uX1 cs (qm 9) qmc (upd (upd Fmc 5 x3) 6 x4) (vA (vA Amc 1 g5) 2 g6) (vA Bmc 0 y7) Dmc)))) := hD.sub [0, 1, 2, 3, 4, 11, 12, 13, 14, 15, 16, 17, 18, 5, 6, 7, 8, 9, 10] (by decide) rfl
    refine lv_pop hx hb dX10_one_28 rfl ?_
    refine lv_aload_n hx hb dX10_one_29 rfl (lv_at hl 0 rfl) ?_
    refine getF (v := .ref (qm 9)) hx hb ht hown hK hP iTX10 0 9 rfl rfl (by decide) fl_RX10_65 rfl dX10_one_30 ?_
    refine behR (runVP (As := []) (rest := []) ⟨hx, hb, hml, hown, ht⟩ (sX1_minutesToClear l G cs (qm 9) qmc (upd (upd Fmc 5 x3) 6 x4) (vA (vA Amc 1 g5) 2 g6) (vA Bmc 0 y7) Dmc (IB_arr (k := 2) (IB_arr (k := 1) (IB_put (k := 6) (IB_put (k := 5) hImc (show (0 : Int) ≤ x3.toInt ∧ x3.toInt ≤ 1792 by omega)) (show (-1 : Int) ≤ x4.toInt ∧ x4.toInt ≤ 1791 by omega)) hg5) hg6) ) okV_RX10_257 ⟨by decide, by decide⟩ hK hP [13, 14, 15, 16, 17, 18] rfl 13 rfl rfl hl.1 rfl (Nat.le_of_ble_eq_true rfl) dX10_one_33 ⟨by decide, by decide⟩) hP hS hA (fun r10 H locs hr10 hP hS => ?_)
    have hr10 : r10.toInt = -1 ∨ 0 ≤ x4.toInt := hr10
    exact retDi (x3, x4, g5, g6, y7) hx hb hr hlk hP hD hS dX10_one_36 (⟨show (0 : Int) ≤ x3.toInt ∧ x3.toInt ≤ 1792 by omega, show (-1 : Int) ≤ x4.toInt ∧ x4.toInt ≤ 1791 by omega, hg5, hg6, trivial⟩) (Nat.le_of_ble_eq_true rfl) (Nat.le_of_ble_eq_true rfl)
  · have zc2 := eqK rfl (show (0 : Int32).toInt = 0 by decide) c2
    refine lv_bipush (v := (-2)) hx hb dX10_one_8 (by decide) ?_
    exact retDi ((Fmc 5), (Fmc 6), (Amc 1), (Amc 2), (Bmc 0)) hx hb hr hlk hP hD hS dX10_one_10 (⟨hImc.1 5, hImc.1 6, fun j => hImc.2 1 j, fun j => hImc.2 2 j, trivial⟩) (Nat.le_of_ble_eq_true rfl) (Nat.le_of_ble_eq_true rfl)

set_option maxRecDepth 100000 in
set_option maxHeartbeats 16000000 in
theorem sX10_two (l : Launch) (G : va_G) (cs : Nat → ClassId) (adm : Nat) (qm : Nat → Nat) (Fm : Nat → Int32) (Am : Nat → Nat → Int32) (Bm : Nat → Nat → Int64) (Dm : Int64) (hIm : IX10 Fm Am) (qms : Nat → Nat) (Fms : Nat → Int32) (Ams : Nat → Nat → Int32) (Bms : Nat → Nat → Int64) (Dms : Int64) (hIms : IX8 Fms Ams) (qmh : Nat → Nat) (Fmh : Nat → Int32) (Amh : Nat → Nat → Int32) (Bmh : Nat → Nat → Int64) (Dmh : Int64) (hImh : IX3 Fmh Amh) (qmc : Nat → Nat) (Fmc : Nat → Int32) (Amc : Nat → Nat → Int32) (Bmc : Nat → Nat → Int64) (Dmc : Int64) (hImc : IX1 Fmc Amc) (a1 : Int32) (a2 : Int32) : ∀ sz : Nat, Met l yX10_two (wk yX10_two cX10_two 3 (some .int)) (rmk 5 0 0) (PreD G (TY cs) [.ref adm, .int a1, .int a2] ((uX10 cs adm qm Fm Am Bm Dm) ++ ((uX8 cs (qm 3) qms Fms Ams Bms Dms) ++ ((uX3 cs (qms 0) qmh Fmh Amh Bmh Dmh) ++ (uX1 cs (qm 9) qmc Fmc Amc Bmc Dmc)))) sz) ((QDi G (fun (r : Int32) (u : Int32 × Int32 × (Nat → Int32) × (Nat → Int32) × (Nat → Int64)) => ((0 : Int) ≤ u.1.toInt ∧ u.1.toInt ≤ 1792) ∧ ((-1 : Int) ≤ u.2.1.toInt ∧ u.2.1.toInt ≤ 1791) ∧ AJ (0) 6271 u.2.2.1 ∧ AJ (-1) 1791 u.2.2.2.1 ∧ (True)) (fun u : Int32 × Int32 × (Nat → Int32) × (Nat → Int32) × (Nat → Int64) => ((uX10 cs adm qm Fm Am Bm Dm) ++ ((uX8 cs (qm 3) qms Fms Ams Bms Dms) ++ ((uX3 cs (qms 0) qmh Fmh Amh Bmh Dmh) ++ (uX1 cs (qm 9) qmc (upd (upd Fmc 5 u.1) 6 u.2.1) (vA (vA Amc 1 u.2.2.1) 2 u.2.2.2.1) (vA Bmc 0 u.2.2.2.2) Dmc)))))) (va_A ((uX10 cs adm qm Fm Am Bm Dm) ++ ((uX8 cs (qm 3) qms Fms Ams Bms Dms) ++ ((uX3 cs (qms 0) qmh Fmh Amh Bmh Dmh) ++ (uX1 cs (qm 9) qmc Fmc Amc Bmc Dmc)))) sz)) 0 0 (va_A ((uX10 cs adm qm Fm Am Bm Dm) ++ ((uX8 cs (qm 3) qms Fms Ams Bms Dms) ++ ((uX3 cs (qms 0) qmh Fmh Amh Bmh Dmh) ++ (uX1 cs (qm 9) qmc Fmc Amc Bmc Dmc)))) sz) := by
  refine mkD (Qc := (QDi G (fun (r : Int32) (u : Int32 × Int32 × (Nat → Int32) × (Nat → Int32) × (Nat → Int64)) => ((0 : Int) ≤ u.1.toInt ∧ u.1.toInt ≤ 1792) ∧ ((-1 : Int) ≤ u.2.1.toInt ∧ u.2.1.toInt ≤ 1791) ∧ AJ (0) 6271 u.2.2.1 ∧ AJ (-1) 1791 u.2.2.2.1 ∧ (True)) (fun u : Int32 × Int32 × (Nat → Int32) × (Nat → Int32) × (Nat → Int64) => ((uX10 cs adm qm Fm Am Bm Dm) ++ ((uX8 cs (qm 3) qms Fms Ams Bms Dms) ++ ((uX3 cs (qms 0) qmh Fmh Amh Bmh Dmh) ++ (uX1 cs (qm 9) qmc (upd (upd Fmc 5 u.1) 6 u.2.1) (vA (vA Amc 1 u.2.2.1) 2 u.2.2.2.1) (vA Bmc 0 u.2.2.2.2) Dmc))))))) (by decide) (by simp [lg_sl, Value.category]) ?_
  intro p e s m args below meth c ls A0 hx hb hml hr hlk hown hmn ht hK hP hD hS hA hl
  have hl : lv_has ls 3 [(0, .ref adm), (1, .int a1), (2, .int a2)] := hl
  refine lv_aload_n hx hb dX10_two_0 rfl (lv_at hl 0 rfl) ?_
  refine lv_iload_n hx hb dX10_two_1 rfl (lv_at hl 1 rfl) ?_
  refine behR (runVP (As := [.int a1]) (rest := []) ⟨hx, hb, hml, hown, ht⟩ (sX10_isRoom l G cs adm qm Fm Am Bm Dm hIm qms Fms Ams Bms Dms hIms qmh Fmh Amh Bmh Dmh hImh a1 ) okV_RX10_120 ⟨by decide, by decide⟩ hK hP [0, 1, 2, 3, 4, 5, 6, 7, 8, 9, 10, 11, 12] rfl 0 rfl rfl hl.1 rfl (Nat.le_of_ble_eq_true rfl) dX10_two_2 ⟨by decide, by decide⟩) hP hS hA (fun r1 H locs hr1 hP hS => ?_)
  have hr1 : (r1.toInt = 1 ∧ 0 ≤ a1.toInt ∧ a1.toInt < (Fmh 5).toInt ∧ a1.toInt ≤ 6) ∨ r1.toInt = 0 := hr1
  refine lv_if_eq (tgt := 16) hx hb dX10_two_5 (by decide) (fun c2 => ?_) (fun c2 => ?_)
  · have zc2 := eqK rfl (show (0 : Int32).toInt = 0 by decide) c2
    refine lv_bipush (v := (-2)) hx hb dX10_two_16 (by decide) ?_
    exact retDi ((Fmc 5), (Fmc 6), (Amc 1), (Amc 2), (Bmc 0)) hx hb hr hlk hP hD hS dX10_two_18 (⟨hImc.1 5, hImc.1 6, fun j => hImc.2 1 j, fun j => hImc.2 2 j, trivial⟩) (Nat.le_of_ble_eq_true rfl) (Nat.le_of_ble_eq_true rfl)
  · have zc2 := neK rfl (show (0 : Int32).toInt = 0 by decide) c2
    refine lv_aload_n hx hb dX10_two_8 rfl (lv_at hl 0 rfl) ?_
    refine lv_iload_n hx hb dX10_two_9 rfl (lv_at hl 2 rfl) ?_
    refine behR (runVP (As := [.int a2]) (rest := []) ⟨hx, hb, hml, hown, ht⟩ (sX10_isRoom l G cs adm qm Fm Am Bm Dm hIm qms Fms Ams Bms Dms hIms qmh Fmh Amh Bmh Dmh hImh a2 ) okV_RX10_120 ⟨by decide, by decide⟩ hK hP [0, 1, 2, 3, 4, 5, 6, 7, 8, 9, 10, 11, 12] rfl 0 rfl rfl hl.1 rfl (Nat.le_of_ble_eq_true rfl) dX10_two_10 ⟨by decide, by decide⟩) hP hS hA (fun r3 H locs hr3 hP hS => ?_)
    have hr3 : (r3.toInt = 1 ∧ 0 ≤ a2.toInt ∧ a2.toInt < (Fmh 5).toInt ∧ a2.toInt ≤ 6) ∨ r3.toInt = 0 := hr3
    refine lv_if_ne (tgt := 19) hx hb dX10_two_13 (by decide) (fun c4 => ?_) (fun c4 => ?_)
    · have zc4 := neK rfl (show (0 : Int32).toInt = 0 by decide) c4
      refine lv_aload_n hx hb dX10_two_19 rfl (lv_at hl 0 rfl) ?_
      refine getF (v := .ref (qm 9)) hx hb ht hown hK hP iTX10 0 9 rfl rfl (by decide) fl_RX10_65 rfl dX10_two_20 ?_
      refine lv_aload_n hx hb dX10_two_23 rfl (lv_at hl 0 rfl) ?_
      refine getF (v := .ref (qm 3)) hx hb ht hown hK hP iTX10 0 3 rfl rfl (by decide) fl_RX10_31 rfl dX10_two_24 ?_
      refine getF (v := .ref (qms 0)) hx hb ht hown hK hP iTX8 3 0 rfl rfl (by decide) fl_RX10_98 rfl dX10_two_27 ?_
      refine lv_iload_n hx hb dX10_two_30 rfl (lv_at hl 1 rfl) ?_
      refine lv_iload_n hx hb dX10_two_31 rfl (lv_at hl 2 rfl) ?_
      refine lv_iconst (v := 0) hx hb dX10_two_32 (by decide) ?_
      refine behDi (wr := ((uX10 cs adm qm Fm Am Bm Dm) ++ (uX8 cs (qm 3) qms Fms Ams Bms Dms))) (runVD (As := [.ref (qms 0), .int a1, .int a2, .int 0]) (rest := []) ⟨hx, hb, hml, hown, ht⟩ (sX1_hunt l G cs (qm 9) qmc Fmc Amc Bmc Dmc hImc (qms 0) qmh Fmh Amh Bmh Dmh hImh a1 a2 0 (by omega) (by omega) (by decide)) okV_RX10_253 ⟨by decide, by decide⟩ hK hP hD [13, 14, 15, 16, 17, 18, 5, 6, 7, 8, 9, 10, 11, 12] rfl (by decide) rfl 13 rfl rfl hl.1 rfl (Nat.le_of_ble_eq_true rfl) dX10_two_33 ⟨(Nat.le_of_ble_eq_true rfl), (Nat.le_of_ble_eq_true rfl)⟩) hP hD hS hA [13, 14, 15, 16, 17, 18, 5, 6, 7, 8, 9, 10, 11, 12] [0, 1, 2, 3, 4] rfl rfl (by decide) (by decide) (fun r9 u H locs hu hP hD hS => ?_)
      obtain ⟨x5, x6, g7, g8, y9⟩ := u
      have kk11 : (0 : Int32).toInt = 0 := by decide
      obtain ⟨r10, rfl⟩ : ∃ z, z = r9 := ⟨_, rfl⟩
      obtain ⟨hbx5, hbx6, hg7, hg8, hr10⟩ := hu
      have hbx5 : (0 : Int) ≤ x5.toInt ∧ x5.toInt ≤ 1792 := hbx5
      have hbx6 : (-1 : Int) ≤ x6.toInt ∧ x6.toInt ≤ 1791 := hbx6
      have hg7 : AJ (0) 6271 g7 := hg7
      have hg8 : AJ (-1) 1791 g8 := hg8
      have hr10 : (0 : Int) ≤ r10.toInt ∧ r10.toInt ≤ 1 := hr10
      have hP : va_P G vwCl ((uX10 cs adm qm Fm Am Bm Dm) ++ ((uX8 cs (qm 3) qms Fms Ams Bms Dms) ++ ((uX3 cs (qms 0) qmh Fmh Amh Bmh Dmh) ++ (uX1 cs (qm 9) qmc (upd (upd Fmc 5 x5) 6 x6) (vA (vA Amc 1 g7) 2 g8) (vA Bmc 0 y9) Dmc)))) H := hP.sub [0, 1, 2, 3, 4, 11, 12, 13, 14, 15, 16, 17, 18, 5, 6, 7, 8, 9, 10] rfl
      have hD : va_D A0 ((uX10 cs adm qm Fm Am Bm Dm) ++ ((uX8 cs (qm 3) qms Fms Ams Bms Dms) ++ ((uX3 cs (qms 0) qmh Fmh Amh Bmh Dmh) ++ (uX1 cs (qm 9) qmc (upd (upd Fmc 5 x5) 6 x6) (vA (vA Amc 1 g7) 2 g8) (vA Bmc 0 y9) Dmc)))) := hD.sub [0, 1, 2, 3, 4, 11, 12, 13, 14, 15, 16, 17, 18, 5, 6, 7, 8, 9, 10] (by decide) rfl
      refine lv_pop hx hb dX10_two_36 rfl ?_
      refine lv_aload_n hx hb dX10_two_37 rfl (lv_at hl 0 rfl) ?_
      refine getF (v := .ref (qm 9)) hx hb ht hown hK hP iTX10 0 9 rfl rfl (by decide) fl_RX10_65 rfl dX10_two_38 ?_
      refine behR (runVP (As := []) (rest := []) ⟨hx, hb, hml, hown, ht⟩ (sX1_minutesToClear l G cs (qm 9) qmc (upd (upd Fmc 5 x5) 6 x6) (vA (vA Amc 1 g7) 2 g8) (vA Bmc 0 y9) Dmc (IB_arr (k := 2) (IB_arr (k := 1) (IB_put (k := 6) (IB_put (k := 5) hImc (show (0 : Int) ≤ x5.toInt ∧ x5.toInt ≤ 1792 by omega)) (show (-1 : Int) ≤ x6.toInt ∧ x6.toInt ≤ 1791 by omega)) hg7) hg8) ) okV_RX10_257 ⟨by decide, by decide⟩ hK hP [13, 14, 15, 16, 17, 18] rfl 13 rfl rfl hl.1 rfl (Nat.le_of_ble_eq_true rfl) dX10_two_41 ⟨by decide, by decide⟩) hP hS hA (fun r12 H locs hr12 hP hS => ?_)
      have hr12 : r12.toInt = -1 ∨ 0 ≤ x6.toInt := hr12
      exact retDi (x5, x6, g7, g8, y9) hx hb hr hlk hP hD hS dX10_two_44 (⟨show (0 : Int) ≤ x5.toInt ∧ x5.toInt ≤ 1792 by omega, show (-1 : Int) ≤ x6.toInt ∧ x6.toInt ≤ 1791 by omega, hg7, hg8, trivial⟩) (Nat.le_of_ble_eq_true rfl) (Nat.le_of_ble_eq_true rfl)
    · have zc4 := eqK rfl (show (0 : Int32).toInt = 0 by decide) c4
      refine lv_bipush (v := (-2)) hx hb dX10_two_16 (by decide) ?_
      exact retDi ((Fmc 5), (Fmc 6), (Amc 1), (Amc 2), (Bmc 0)) hx hb hr hlk hP hD hS dX10_two_18 (⟨hImc.1 5, hImc.1 6, fun j => hImc.2 1 j, fun j => hImc.2 2 j, trivial⟩) (Nat.le_of_ble_eq_true rfl) (Nat.le_of_ble_eq_true rfl)

