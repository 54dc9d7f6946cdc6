set_option maxRecDepth 100000 in
set_option maxHeartbeats 4000000 in
theorem pX11_in (l : Launch) (G : va_G) (cs : Nat → ClassId) (h : Nat) (q : Nat → Nat) (a1 : Int64) (a2 : Int64) (a3 : Int64) : PureI l yX11_in cX11_in 6 (some .boolean) 0 G (TY cs) [.long a1, .long a2, .long a3] [] (inF a1 a2 a3) := by
  refine mkP (Qc := QPi (inF a1 a2 a3)) (by decide) (by simp [lg_sl, Value.category]) ?_
  intro p e s m args below meth c ls hx hb hml hr hlk hown ht hK hP hS hl
  have hl : lv_has ls 6 [(0, .long a1), (2, .long a2), (4, .long a3)] := hl
  refine lv_lload_n hx hb dX11_in_0 rfl (lv_at hl 0 rfl) ?_
  refine lv_lload_n hx hb dX11_in_1 rfl (lv_at hl 1 rfl) ?_
  refine W.lcmp hx hb dX11_in_2 ?_
  refine lv_if_lt (tgt := 17) hx hb dX11_in_3 (by decide) (fun c1 => ?_) (fun c1 => ?_)
  · refine lv_iconst (v := 0) hx hb dX11_in_17 (by decide) ?_
    exact retPz hx hb hr hlk hS dX11_in_18 (rfl) ((inF_a c1).symm)
  · refine lv_lload_n hx hb dX11_in_6 rfl (lv_at hl 0 rfl) ?_
    refine lv_lload hx hb dX11_in_7 (lv_at hl 2 rfl) ?_
    refine W.lcmp hx hb dX11_in_9 ?_
    refine lv_if_gt (tgt := 17) hx hb dX11_in_10 (by decide) (fun c2 => ?_) (fun c2 => ?_)
    · refine lv_iconst (v := 0) hx hb dX11_in_17 (by decide) ?_
      exact retPz hx hb hr hlk hS dX11_in_18 (rfl) ((inF_b c2).symm)
    · refine lv_iconst (v := 1) hx hb dX11_in_13 (by decide) ?_
      refine lv_goto (tgt := 18) hx hb dX11_in_14 (by decide) ?_
      exact retPz hx hb hr hlk hS dX11_in_18 (rfl) ((inF_c c1 c2).symm)

set_option maxRecDepth 100000 in
set_option maxHeartbeats 4000000 in
theorem pX11_isHouse (l : Launch) (G : va_G) (cs : Nat → ClassId) (h : Nat) (q : Nat → Nat)  : PureI l yX11_isHouse cX11_isHouse 1 (some .boolean) 0 G (TY cs) [.ref h] [(mc0 cs h q), (mc1 cs h q)] 0 := by
  refine mkP (Qc := QPi 0) (by decide) (by simp [lg_sl, Value.category]) ?_
  intro p e s m args below meth c ls hx hb hml hr hlk hown ht hK hP hS hl
  have hl : lv_has ls 1 [(0, .ref h)] := hl
  refine lv_aload_n hx hb dX11_isHouse_0 rfl (lv_at hl 0 rfl) ?_
  refine getF hx hb ht hown hK hP iTX11 0 1 rfl rfl (by decide) fl_RX11_9 rfl dX11_isHouse_1 ?_
  refine lv_bipush (v := 6) hx hb dX11_isHouse_4 (by decide) ?_
  refine va_iald hx hb hK.1 hP 1 0 rfl rfl (show ¬ (_ ∨ _) by decide) dX11_isHouse_6 ?_
  refine lv_topi (fun v1 ev1 => ?_)
  obtain rfl : v1 = 0 := ev1.trans rfl
  refine lv_if_le (tgt := 14) hx hb dX11_isHouse_7 (by decide) (fun c3 => ?_) (fun c2 => False.elim (by revert c2; decide))
  refine lv_iconst (v := 0) hx hb dX11_isHouse_14 (by decide) ?_
  exact retPz hx hb hr hlk hS dX11_isHouse_15 (rfl) (rfl)

set_option maxRecDepth 100000 in
set_option maxHeartbeats 4000000 in
theorem pX11_isRoom (l : Launch) (G : va_G) (cs : Nat → ClassId) (h : Nat) (q : Nat → Nat) (a1 : Int64) : PureI l yX11_isRoom cX11_isRoom 3 (some .boolean) 1 G (TY cs) [.ref h, .long a1] [(mc0 cs h q), (mc1 cs h q)] 0 := by
  refine mkP (Qc := QPi 0) (by decide) (by simp [lg_sl, Value.category]) ?_
  intro p e s m args below meth c ls hx hb hml hr hlk hown ht hK hP hS hl
  have hl : lv_has ls 3 [(0, .ref h), (1, .long a1)] := hl
  refine lv_lload_n hx hb dX11_isRoom_0 rfl (lv_at hl 1 rfl) ?_
  refine lv_lconst (v := 0) hx hb dX11_isRoom_1 (by decide) ?_
  refine lv_aload_n hx hb dX11_isRoom_2 rfl (lv_at hl 0 rfl) ?_
  refine getF hx hb ht hown hK hP iTX11 0 1 rfl rfl (by decide) fl_RX11_9 rfl dX11_isRoom_3 ?_
  refine lv_iconst (v := 4) hx hb dX11_isRoom_6 (by decide) ?_
  refine va_iald hx hb hK.1 hP 1 0 rfl rfl (show ¬ (_ ∨ _) by decide) dX11_isRoom_7 ?_
  refine lv_topi (fun v1 ev1 => ?_)
  obtain rfl : v1 = 0 := ev1.trans rfl
  refine lv_iconst (v := 1) hx hb dX11_isRoom_8 (by decide) ?_
  refine lv_isub hx hb dX11_isRoom_9 ?_
  refine lv_topi (fun v2 ev2 => ?_)
  obtain rfl : v2 = (-1) := ev2.trans (by decide)
  refine lv_i2l (v := (-1)) hx hb dX11_isRoom_10 (by decide) ?_
  refine behI (runSP (As := [.long a1, .long 0, .long (-1)]) (rest := []) ⟨hx, hb, hml, hown, ht⟩ (pX11_in l G cs h q a1 0 (-1)) okS_RX11_79 ⟨by decide, by decide⟩ hK hP [] rfl hl.1 rfl (Nat.le_of_ble_eq_true rfl) dX11_isRoom_11 ⟨by decide, by decide⟩) hP hS (fun _ h => h) (fun H locs hP hS => ?_)
  refine lv_topi (fun v3 ev3 => ?_)
  obtain rfl : v3 = 0 := ev3.trans (inF_o (by decide))
  exact retPz hx hb hr hlk hS dX11_isRoom_14 (rfl) (rfl)

set_option maxRecDepth 100000 in
set_option maxHeartbeats 4000000 in
theorem pX11_isRoomOrNone (l : Launch) (G : va_G) (cs : Nat → ClassId) (h : Nat) (q : Nat → Nat) (a1 : Int64) : PureI l yX11_isRoomOrNone cX11_isRoomOrNone 3 (some .boolean) 2 G (TY cs) [.ref h, .long a1] [(mc0 cs h q), (mc1 cs h q)] 0 := by
  refine mkP (Qc := QPi 0) (by decide) (by simp [lg_sl, Value.category]) ?_
  intro p e s m args below meth c ls hx hb hml hr hlk hown ht hK hP hS hl
  have hl : lv_has ls 3 [(0, .ref h), (1, .long a1)] := hl
  refine lv_aload_n hx hb dX11_isRoomOrNone_0 rfl (lv_at hl 0 rfl) ?_
  refine behI (runVP (As := []) (rest := []) ⟨hx, hb, hml, hown, ht⟩ (pX11_isHouse l G cs h q ) okV_RX11_83 ⟨by decide, by decide⟩ hK hP [0, 1] rfl 0 rfl rfl hl.1 rfl (Nat.le_of_ble_eq_true rfl) dX11_isRoomOrNone_1 ⟨by decide, by decide⟩) hP hS (fun _ h => h) (fun H locs hP hS => ?_)
  refine lv_if_eq (tgt := 15) hx hb dX11_isRoomOrNone_4 (by decide) (fun c2 => ?_) (fun c1 => False.elim (by revert c1; decide))
  refine lv_aload_n hx hb dX11_isRoomOrNone_15 rfl (lv_at hl 0 rfl) ?_
  refine lv_lload_n hx hb dX11_isRoomOrNone_16 rfl (lv_at hl 1 rfl) ?_
  refine behI (runVP (As := [.long a1]) (rest := []) ⟨hx, hb, hml, hown, ht⟩ (pX11_isRoom l G cs h q a1) okV_RX11_89 ⟨by decide, by decide⟩ hK hP [0, 1] rfl 0 rfl rfl hl.1 rfl (Nat.le_of_ble_eq_true rfl) dX11_isRoomOrNone_17 ⟨by decide, by decide⟩) hP hS (fun _ h => h) (fun H locs hP hS => ?_)
  refine lv_if_eq (tgt := 27) hx hb dX11_isRoomOrNone_20 (by decide) (fun c4 => ?_) (fun c3 => False.elim (by revert c3; decide))
  refine lv_iconst (v := 0) hx hb dX11_isRoomOrNone_27 (by decide) ?_
  exact retPz hx hb hr hlk hS dX11_isRoomOrNone_28 (rfl) (rfl)

set_option maxRecDepth 100000 in
set_option maxHeartbeats 4000000 in
theorem pX11_isMan (l : Launch) (G : va_G) (cs : Nat → ClassId) (h : Nat) (q : Nat → Nat) (a1 : Int32) : PureI l yX11_isMan cX11_isMan 2 (some .boolean) 1 G (TY cs) [.ref h, .int a1] [(mc0 cs h q), (mc1 cs h q)] 0 := by
  refine mkP (Qc := QPi 0) (by decide) (by simp [lg_sl, Value.category]) ?_
  intro p e s m args below meth c ls hx hb hml hr hlk hown ht hK hP hS hl
  have hl : lv_has ls 2 [(0, .ref h), (1, .int a1)] := hl
  refine lv_iload_n hx hb dX11_isMan_0 rfl (lv_at hl 1 rfl) ?_
  refine lv_i2l hx hb dX11_isMan_1 rfl ?_
  refine lv_lconst (v := 0) hx hb dX11_isMan_2 (by decide) ?_
  refine lv_aload_n hx hb dX11_isMan_3 rfl (lv_at hl 0 rfl) ?_
  refine getF hx hb ht hown hK hP iTX11 0 1 rfl rfl (by decide) fl_RX11_9 rfl dX11_isMan_4 ?_
  refine lv_iconst (v := 5) hx hb dX11_isMan_7 (by decide) ?_
  refine va_iald hx hb hK.1 hP 1 0 rfl rfl (show ¬ (_ ∨ _) by decide) dX11_isMan_8 ?_
  refine lv_topi (fun v1 ev1 => ?_)
  obtain rfl : v1 = 0 := ev1.trans rfl
  refine lv_iconst (v := 1) hx hb dX11_isMan_9 (by decide) ?_
  refine lv_isub hx hb dX11_isMan_10 ?_
  refine lv_topi (fun v2 ev2 => ?_)
  obtain rfl : v2 = (-1) := ev2.trans (by decide)
  refine lv_i2l (v := (-1)) hx hb dX11_isMan_11 (by decide) ?_
  refine behI (runSP (As := [.long a1.toInt64, .long 0, .long (-1)]) (rest := []) ⟨hx, hb, hml, hown, ht⟩ (pX11_in l G cs h q a1.toInt64 0 (-1)) okS_RX11_79 ⟨by decide, by decide⟩ hK hP [] rfl hl.1 rfl (Nat.le_of_ble_eq_true rfl) dX11_isMan_12 ⟨by decide, by decide⟩) hP hS (fun _ h => h) (fun H locs hP hS => ?_)
  refine lv_topi (fun v3 ev3 => ?_)
  obtain rfl : v3 = 0 := ev3.trans (inF_o (by decide))
  exact retPz hx hb hr hlk hS dX11_isMan_15 (rfl) (rfl)

set_option maxRecDepth 100000 in
set_option maxHeartbeats 4000000 in
theorem pX11_areMen (l : Launch) (G : va_G) (cs : Nat → ClassId) (h : Nat) (q : Nat → Nat) (a1 : Int32) : PureI l yX11_areMen cX11_areMen 2 (some .boolean) 1 G (TY cs) [.ref h, .int a1] [(mc0 cs h q), (mc1 cs h q)] 0 := by
  refine mkP (Qc := QPi 0) (by decide) (by simp [lg_sl, Value.category]) ?_
  intro p e s m args below meth c ls hx hb hml hr hlk hown ht hK hP hS hl
  have hl : lv_has ls 2 [(0, .ref h), (1, .int a1)] := hl
  refine lv_aload_n hx hb dX11_areMen_0 rfl (lv_at hl 0 rfl) ?_
  refine behI (runVP (As := []) (rest := []) ⟨hx, hb, hml, hown, ht⟩ (pX11_isHouse l G cs h q ) okV_RX11_83 ⟨by decide, by decide⟩ hK hP [0, 1] rfl 0 rfl rfl hl.1 rfl (Nat.le_of_ble_eq_true rfl) dX11_areMen_1 ⟨by decide, by decide⟩) hP hS (fun _ h => h) (fun H locs hP hS => ?_)
  refine lv_if_eq (tgt := 31) hx hb dX11_areMen_4 (by decide) (fun c2 => ?_) (fun c1 => False.elim (by revert c1; decide))
  refine lv_iconst (v := 0) hx hb dX11_areMen_31 (by decide) ?_
  exact retPz hx hb hr hlk hS dX11_areMen_32 (rfl) (rfl)

set_option maxRecDepth 100000 in
set_option maxHeartbeats 4000000 in
theorem pX11_isSlot (l : Launch) (G : va_G) (cs : Nat → ClassId) (h : Nat) (q : Nat → Nat) (a1 : Int32) : PureI l yX11_isSlot cX11_isSlot 1 (some .boolean) 1 G (TY cs) [.int a1] [] (inF a1.toInt64 0 3) := by
  refine mkP (Qc := QPi (inF a1.toInt64 0 3)) (by decide) (by simp [lg_sl, Value.category]) ?_
  intro p e s m args below meth c ls hx hb hml hr hlk hown ht hK hP hS hl
  have hl : lv_has ls 1 [(0, .int a1)] := hl
  refine lv_iload_n hx hb dX11_isSlot_0 rfl (lv_at hl 0 rfl) ?_
  refine lv_i2l hx hb dX11_isSlot_1 rfl ?_
  refine lv_lconst (v := 0) hx hb dX11_isSlot_2 (by decide) ?_
  refine lv_ldc2 hx hb hown (ht _ kl_RX11_225) dX11_isSlot_3 ?_
  refine behI (runSP (As := [.long a1.toInt64, .long 0, .long 3]) (rest := []) ⟨hx, hb, hml, hown, ht⟩ (pX11_in l G cs h q a1.toInt64 0 3) okS_RX11_79 ⟨by decide, by decide⟩ hK hP [] rfl hl.1 rfl (Nat.le_of_ble_eq_true rfl) dX11_isSlot_6 ⟨by decide, by decide⟩) hP hS (fun _ h => h) (fun H locs hP hS => ?_)
  exact retPz hx hb hr hlk hS dX11_isSlot_9 (inF_z a1.toInt64 0 3) (rfl)

set_option maxRecDepth 100000 in
set_option maxHeartbeats 4000000 in
theorem pX11_isSeed (l : Launch) (G : va_G) (cs : Nat → ClassId) (h : Nat) (q : Nat → Nat) (a1 : Int32) : PureI l yX11_isSeed cX11_isSeed 1 (some .boolean) 1 G (TY cs) [.int a1] [] (inF a1.toInt64 0 2000000000) := by
  refine mkP (Qc := QPi (inF a1.toInt64 0 2000000000)) (by decide) (by simp [lg_sl, Value.category]) ?_
  intro p e s m args below meth c ls hx hb hml hr hlk hown ht hK hP hS hl
  have hl : lv_has ls 1 [(0, .int a1)] := hl
  refine lv_iload_n hx hb dX11_isSeed_0 rfl (lv_at hl 0 rfl) ?_
  refine lv_i2l hx hb dX11_isSeed_1 rfl ?_
  refine lv_lconst (v := 0) hx hb dX11_isSeed_2 (by decide) ?_
  refine lv_ldc2 hx hb hown (ht _ kl_RX11_439) dX11_isSeed_3 ?_
  refine behI (runSP (As := [.long a1.toInt64, .long 0, .long 2000000000]) (rest := []) ⟨hx, hb, hml, hown, ht⟩ (pX11_in l G cs h q a1.toInt64 0 2000000000) okS_RX11_79 ⟨by decide, by decide⟩ hK hP [] rfl hl.1 rfl (Nat.le_of_ble_eq_true rfl) dX11_isSeed_6 ⟨by decide, by decide⟩) hP hS (fun _ h => h) (fun H locs hP hS => ?_)
  exact retPz hx hb hr hlk hS dX11_isSeed_9 (inF_z a1.toInt64 0 2000000000) (rfl)

set_option maxRecDepth 100000 in
set_option maxHeartbeats 4000000 in
theorem pX11_asksRound (l : Launch) (G : va_G) (cs : Nat → ClassId) (h : Nat) (q : Nat → Nat) (a1 : Int32) (a2 : Int32) : PureI l yX11_asksRound cX11_asksRound 4 (some .int) 2 G (TY cs) [.ref h, .int a1, .int a2] [(mc0 cs h q), (mc1 cs h q)] (-2) := by
  refine mkP (Qc := QPi (-2)) (by decide) (by simp [lg_sl, Value.category]) ?_
  intro p e s m args below meth c ls hx hb hml hr hlk hown ht hK hP hS hl
  have hl : lv_has ls 4 [(0, .ref h), (1, .int a1), (2, .int a2)] := hl
  refine lv_iload_n hx hb dX11_asksRound_0 rfl (lv_at hl 1 rfl) ?_
  refine behI (runSP (As := [.int a1]) (rest := []) ⟨hx, hb, hml, hown, ht⟩ (pX11_isSlot l G cs h q a1) okS_RX11_290 ⟨by decide, by decide⟩ hK hP [] rfl hl.1 rfl (Nat.le_of_ble_eq_true rfl) dX11_asksRound_1 ⟨by decide, by decide⟩) hP hS (fun _ h => h) (fun H locs hP hS => ?_)
  refine lv_if_eq (tgt := 18) hx hb dX11_asksRound_4 (by decide) (fun c1 => ?_) (fun c1 => ?_)
  · refine lv_bipush (v := (-2)) hx hb dX11_asksRound_18 (by decide) ?_
    exact retPi hx hb hr hlk hS dX11_asksRound_20 (rfl)
  · refine lv_aload_n hx hb dX11_asksRound_7 rfl (lv_at hl 0 rfl) ?_
    refine behI (runVP (As := []) (rest := []) ⟨hx, hb, hml, hown, ht⟩ (pX11_isHouse l G cs h q ) okV_RX11_83 ⟨by decide, by decide⟩ hK hP [0, 1] rfl 0 rfl rfl hl.1 rfl (Nat.le_of_ble_eq_true rfl) dX11_asksRound_8 ⟨by decide, by decide⟩) hP hS (fun _ h => h) (fun H locs hP hS => ?_)
    refine lv_if_eq (tgt := 18) hx hb dX11_asksRound_11 (by decide) (fun c3 => ?_) (fun c2 => False.elim (by revert c2; decide))
    refine lv_bipush (v := (-2)) hx hb dX11_asksRound_18 (by decide) ?_
    exact retPi hx hb hr hlk hS dX11_asksRound_20 (rfl)

set_option maxRecDepth 100000 in
set_option maxHeartbeats 4000000 in
theorem pX11_asksHabit (l : Launch) (G : va_G) (cs : Nat → ClassId) (h : Nat) (q : Nat → Nat) (a1 : Int32) (a2 : Int32) : PureI l yX11_asksHabit cX11_asksHabit 4 (some .int) 2 G (TY cs) [.ref h, .int a1, .int a2] [(mc0 cs h q), (mc1 cs h q)] (-2) := by
  refine mkP (Qc := QPi (-2)) (by decide) (by simp [lg_sl, Value.category]) ?_
  intro p e s m args below meth c ls hx hb hml hr hlk hown ht hK hP hS hl
  have hl : lv_has ls 4 [(0, .ref h), (1, .int a1), (2, .int a2)] := hl
  refine lv_iload_n hx hb dX11_asksHabit_0 rfl (lv_at hl 1 rfl) ?_
  refine behI (runSP (As := [.int a1]) (rest := []) ⟨hx, hb, hml, hown, ht⟩ (pX11_isSlot l G cs h q a1) okS_RX11_290 ⟨by decide, by decide⟩ hK hP [] rfl hl.1 rfl (Nat.le_of_ble_eq_true rfl) dX11_asksHabit_1 ⟨by decide, by decide⟩) hP hS (fun _ h => h) (fun H locs hP hS => ?_)
  refine lv_if_eq (tgt := 18) hx hb dX11_asksHabit_4 (by decide) (fun c1 => ?_) (fun c1 => ?_)
  · refine lv_bipush (v := (-2)) hx hb dX11_asksHabit_18 (by decide) ?_
    exact retPi hx hb hr hlk hS dX11_asksHabit_20 (rfl)
  · refine lv_aload_n hx hb dX11_asksHabit_7 rfl (lv_at hl 0 rfl) ?_
    refine behI (runVP (As := []) (rest := []) ⟨hx, hb, hml, hown, ht⟩ (pX11_isHouse l G cs h q ) okV_RX11_83 ⟨by decide, by decide⟩ hK hP [0, 1] rfl 0 rfl rfl hl.1 rfl (Nat.le_of_ble_eq_true rfl) dX11_asksHabit_8 ⟨by decide, by decide⟩) hP hS (fun _ h => h) (fun H locs hP hS => ?_)
    refine lv_if_eq (tgt := 18) hx hb dX11_asksHabit_11 (by decide) (fun c3 => ?_) (fun c2 => False.elim (by revert c2; decide))
    refine lv_bipush (v := (-2)) hx hb dX11_asksHabit_18 (by decide) ?_
    exact retPi hx hb hr hlk hS dX11_asksHabit_20 (rfl)

set_option maxRecDepth 100000 in
set_option maxHeartbeats 4000000 in
theorem pX11_room (l : Launch) (G : va_G) (cs : Nat → ClassId) (h : Nat) (q : Nat → Nat) (a1 : Int32) (a2 : Int32) : PureI l yX11_room cX11_room 3 (some .int) 2 G (TY cs) [.ref h, .int a1, .int a2] [(mc0 cs h q), (mc1 cs h q)] (-2) := by
  refine mkP (Qc := QPi (-2)) (by decide) (by simp [lg_sl, Value.category]) ?_
  intro p e s m args below meth c ls hx hb hml hr hlk hown ht hK hP hS hl
  have hl : lv_has ls 3 [(0, .ref h), (1, .int a1), (2, .int a2)] := hl
  refine lv_aload_n hx hb dX11_room_0 rfl (lv_at hl 0 rfl) ?_
  refine lv_iload_n hx hb dX11_room_1 rfl (lv_at hl 1 rfl) ?_
  refine lv_i2l hx hb dX11_room_2 rfl ?_
  refine behI (runVP (As := [.long a1.toInt64]) (rest := []) ⟨hx, hb, hml, hown, ht⟩ (pX11_isRoom l G cs h q a1.toInt64) okV_RX11_89 ⟨by decide, by decide⟩ hK hP [0, 1] rfl 0 rfl rfl hl.1 rfl (Nat.le_of_ble_eq_true rfl) dX11_room_3 ⟨by decide, by decide⟩) hP hS (fun _ h => h) (fun H locs hP hS => ?_)
  refine lv_if_eq (tgt := 30) hx hb dX11_room_6 (by decide) (fun c2 => ?_) (fun c1 => False.elim (by revert c1; decide))
  refine lv_bipush (v := (-2)) hx hb dX11_room_30 (by decide) ?_
  exact retPi hx hb hr hlk hS dX11_room_32 (rfl)

set_option maxRecDepth 100000 in
set_option maxHeartbeats 4000000 in
theorem pX11_man (l : Launch) (G : va_G) (cs : Nat → ClassId) (h : Nat) (q : Nat → Nat) (a1 : Int32) (a2 : Int32) : PureI l yX11_man cX11_man 3 (some .int) 2 G (TY cs) [.ref h, .int a1, .int a2] [(mc0 cs h q), (mc1 cs h q)] (-2) := by
  refine mkP (Qc := QPi (-2)) (by decide) (by simp [lg_sl, Value.category]) ?_
  intro p e s m args below meth c ls hx hb hml hr hlk hown ht hK hP hS hl
  have hl : lv_has ls 3 [(0, .ref h), (1, .int a1), (2, .int a2)] := hl
  refine lv_aload_n hx hb dX11_man_0 rfl (lv_at hl 0 rfl) ?_
  refine lv_iload_n hx hb dX11_man_1 rfl (lv_at hl 1 rfl) ?_
  refine behI (runVP (As := [.int a1]) (rest := []) ⟨hx, hb, hml, hown, ht⟩ (pX11_isMan l G cs h q a1) okV_RX11_230 ⟨by decide, by decide⟩ hK hP [0, 1] rfl 0 rfl rfl hl.1 rfl (Nat.le_of_ble_eq_true rfl) dX11_man_2 ⟨by decide, by decide⟩) hP hS (fun _ h => h) (fun H locs hP hS => ?_)
  refine lv_if_eq (tgt := 27) hx hb dX11_man_5 (by decide) (fun c2 => ?_) (fun c1 => False.elim (by revert c1; decide))
  refine lv_bipush (v := (-2)) hx hb dX11_man_27 (by decide) ?_
  exact retPi hx hb hr hlk hS dX11_man_29 (rfl)

set_option maxRecDepth 100000 in
set_option maxHeartbeats 4000000 in
theorem pX11_slate (l : Launch) (G : va_G) (cs : Nat → ClassId) (h : Nat) (q : Nat → Nat) (a1 : Int32) (a2 : Int32) : PureI l yX11_slate cX11_slate 3 (some .int) 2 G (TY cs) [.ref h, .int a1, .int a2] [(mc0 cs h q), (mc1 cs h q)] (-2) := by
  refine mkP (Qc := QPi (-2)) (by decide) (by simp [lg_sl, Value.category]) ?_
  intro p e s m args below meth c ls hx hb hml hr hlk hown ht hK hP hS hl
  have hl : lv_has ls 3 [(0, .ref h), (1, .int a1), (2, .int a2)] := hl
  refine lv_aload_n hx hb dX11_slate_0 rfl (lv_at hl 0 rfl) ?_
  refine lv_iload_n hx hb dX11_slate_1 rfl (lv_at hl 1 rfl) ?_
  refine behI (runVP (As := [.int a1]) (rest := []) ⟨hx, hb, hml, hown, ht⟩ (pX11_isMan l G cs h q a1) okV_RX11_230 ⟨by decide, by decide⟩ hK hP [0, 1] rfl 0 rfl rfl hl.1 rfl (Nat.le_of_ble_eq_true rfl) dX11_slate_2 ⟨by decide, by decide⟩) hP hS (fun _ h => h) (fun H locs hP hS => ?_)
  refine lv_if_eq (tgt := 27) hx hb dX11_slate_5 (by decide) (fun c2 => ?_) (fun c1 => False.elim (by revert c1; decide))
  refine lv_bipush (v := (-2)) hx hb dX11_slate_27 (by decide) ?_
  exact retPi hx hb hr hlk hS dX11_slate_29 (rfl)

set_option maxRecDepth 100000 in
set_option maxHeartbeats 4000000 in
theorem pX11_hears (l : Launch) (G : va_G) (cs : Nat → ClassId) (h : Nat) (q : Nat → Nat) (a1 : Int32) (a2 : Int32) : PureI l yX11_hears cX11_hears 3 (some .int) 2 G (TY cs) [.ref h, .int a1, .int a2] [(mc0 cs h q), (mc1 cs h q)] (-2) := by
  refine mkP (Qc := QPi (-2)) (by decide) (by simp [lg_sl, Value.category]) ?_
  intro p e s m args below meth c ls hx hb hml hr hlk hown ht hK hP hS hl
  have hl : lv_has ls 3 [(0, .ref h), (1, .int a1), (2, .int a2)] := hl
  refine lv_aload_n hx hb dX11_hears_0 rfl (lv_at hl 0 rfl) ?_
  refine lv_iload_n hx hb dX11_hears_1 rfl (lv_at hl 1 rfl) ?_
  refine lv_i2l hx hb dX11_hears_2 rfl ?_
  refine behI (runVP (As := [.long a1.toInt64]) (rest := []) ⟨hx, hb, hml, hown, ht⟩ (pX11_isRoom l G cs h q a1.toInt64) okV_RX11_89 ⟨by decide, by decide⟩ hK hP [0, 1] rfl 0 rfl rfl hl.1 rfl (Nat.le_of_ble_eq_true rfl) dX11_hears_3 ⟨by decide, by decide⟩) hP hS (fun _ h => h) (fun H locs hP hS => ?_)
  refine lv_if_eq (tgt := 30) hx hb dX11_hears_6 (by decide) (fun c2 => ?_) (fun c1 => False.elim (by revert c1; decide))
  refine lv_bipush (v := (-2)) hx hb dX11_hears_30 (by decide) ?_
  exact retPi hx hb hr hlk hS dX11_hears_32 (rfl)

set_option maxRecDepth 100000 in
set_option maxHeartbeats 4000000 in
theorem pX11_parts (l : Launch) (G : va_G) (cs : Nat → ClassId) (h : Nat) (q : Nat → Nat) (a1 : Int32) : PureI l yX11_parts cX11_parts 2 (some .int) 3 G (TY cs) [.ref h, .int a1] [(mc0 cs h q), (mc1 cs h q)] (-2) := by
  refine mkP (Qc := QPi (-2)) (by decide) (by simp [lg_sl, Value.category]) ?_
  intro p e s m args below meth c ls hx hb hml hr hlk hown ht hK hP hS hl
  have hl : lv_has ls 2 [(0, .ref h), (1, .int a1)] := hl
  refine lv_aload_n hx hb dX11_parts_0 rfl (lv_at hl 0 rfl) ?_
  refine lv_iload_n hx hb dX11_parts_1 rfl (lv_at hl 1 rfl) ?_
  refine lv_i2l hx hb dX11_parts_2 rfl ?_
  refine behI (runVP (As := [.long a1.toInt64]) (rest := []) ⟨hx, hb, hml, hown, ht⟩ (pX11_isRoomOrNone l G cs h q a1.toInt64) okV_RX11_275 ⟨by decide, by decide⟩ hK hP [0, 1] rfl 0 rfl rfl hl.1 rfl (Nat.le_of_ble_eq_true rfl) dX11_parts_3 ⟨by decide, by decide⟩) hP hS (fun _ h => h) (fun H locs hP hS => ?_)
  refine lv_if_ne (tgt := 12) hx hb dX11_parts_6 (by decide) (fun c1 => False.elim (by revert c1; decide)) (fun c2 => ?_)
  refine lv_bipush (v := (-2)) hx hb dX11_parts_9 (by decide) ?_
  exact retPi hx hb hr hlk hS dX11_parts_11 (rfl)

set_option maxRecDepth 100000 in
set_option maxHeartbeats 4000000 in
theorem pX11_found (l : Launch) (G : va_G) (cs : Nat → ClassId) (h : Nat) (q : Nat → Nat)  : PureI l yX11_found cX11_found 1 (some .int) 1 G (TY cs) [.ref h] [(mc0 cs h q), (mc1 cs h q)] (-2) := by
  refine mkP (Qc := QPi (-2)) (by decide) (by simp [lg_sl, Value.category]) ?_
  intro p e s m args below meth c ls hx hb hml hr hlk hown ht hK hP hS hl
  have hl : lv_has ls 1 [(0, .ref h)] := hl
  refine lv_aload_n hx hb dX11_found_0 rfl (lv_at hl 0 rfl) ?_
  refine behI (runVP (As := []) (rest := []) ⟨hx, hb, hml, hown, ht⟩ (pX11_isHouse l G cs h q ) okV_RX11_83 ⟨by decide, by decide⟩ hK hP [0, 1] rfl 0 rfl rfl hl.1 rfl (Nat.le_of_ble_eq_true rfl) dX11_found_1 ⟨by decide, by decide⟩) hP hS (fun _ h => h) (fun H locs hP hS => ?_)
  refine lv_if_ne (tgt := 10) hx hb dX11_found_4 (by decide) (fun c1 => False.elim (by revert c1; decide)) (fun c2 => ?_)
  refine lv_bipush (v := (-2)) hx hb dX11_found_7 (by decide) ?_
  exact retPi hx hb hr hlk hS dX11_found_9 (rfl)

set_option maxRecDepth 100000 in
set_option maxHeartbeats 4000000 in
theorem pX11_likely (l : Launch) (G : va_G) (cs : Nat → ClassId) (h : Nat) (q : Nat → Nat)  : PureI l yX11_likely cX11_likely 3 (some .int) 1 G (TY cs) [.ref h] [(mc0 cs h q), (mc1 cs h q)] (-2) := by
  refine mkP (Qc := QPi (-2)) (by decide) (by simp [lg_sl, Value.category]) ?_
  intro p e s m args below meth c ls hx hb hml hr hlk hown ht hK hP hS hl
  have hl : lv_has ls 3 [(0, .ref h)] := hl
  refine lv_aload_n hx hb dX11_likely_0 rfl (lv_at hl 0 rfl) ?_
  refine behI (runVP (As := []) (rest := []) ⟨hx, hb, hml, hown, ht⟩ (pX11_isHouse l G cs h q ) okV_RX11_83 ⟨by decide, by decide⟩ hK hP [0, 1] rfl 0 rfl rfl hl.1 rfl (Nat.le_of_ble_eq_true rfl) dX11_likely_1 ⟨by decide, by decide⟩) hP hS (fun _ h => h) (fun H locs hP hS => ?_)
  refine lv_if_ne (tgt := 10) hx hb dX11_likely_4 (by decide) (fun c1 => False.elim (by revert c1; decide)) (fun c2 => ?_)
  refine lv_bipush (v := (-2)) hx hb dX11_likely_7 (by decide) ?_
  exact retPi hx hb hr hlk hS dX11_likely_9 (rfl)

set_option maxRecDepth 100000 in
set_option maxHeartbeats 4000000 in
theorem pX11_here (l : Launch) (G : va_G) (cs : Nat → ClassId) (h : Nat) (q : Nat → Nat)  : PureI l yX11_here cX11_here 1 (some .int) 1 G (TY cs) [.ref h] [(mc0 cs h q), (mc1 cs h q)] (-2) := by
  refine mkP (Qc := QPi (-2)) (by decide) (by simp [lg_sl, Value.category]) ?_
  intro p e s m args below meth c ls hx hb hml hr hlk hown ht hK hP hS hl
  have hl : lv_has ls 1 [(0, .ref h)] := hl
  refine lv_aload_n hx hb dX11_here_0 rfl (lv_at hl 0 rfl) ?_
  refine behI (runVP (As := []) (rest := []) ⟨hx, hb, hml, hown, ht⟩ (pX11_isHouse l G cs h q ) okV_RX11_83 ⟨by decide, by decide⟩ hK hP [0, 1] rfl 0 rfl rfl hl.1 rfl (Nat.le_of_ble_eq_true rfl) dX11_here_1 ⟨by decide, by decide⟩) hP hS (fun _ h => h) (fun H locs hP hS => ?_)
  refine lv_if_ne (tgt := 10) hx hb dX11_here_4 (by decide) (fun c1 => False.elim (by revert c1; decide)) (fun c2 => ?_)
  refine lv_bipush (v := (-2)) hx hb dX11_here_7 (by decide) ?_
  exact retPi hx hb hr hlk hS dX11_here_9 (rfl)

set_option maxRecDepth 100000 in
set_option maxHeartbeats 4000000 in
theorem pX11_chance (l : Launch) (G : va_G) (cs : Nat → ClassId) (h : Nat) (q : Nat → Nat) (a1 : Int32) : PureI l yX11_chance cX11_chance 2 (some .int) 3 G (TY cs) [.ref h, .int a1] [(mc0 cs h q), (mc1 cs h q)] (-2) := by
  refine mkP (Qc := QPi (-2)) (by decide) (by simp [lg_sl, Value.category]) ?_
  intro p e s m args below meth c ls hx hb hml hr hlk hown ht hK hP hS hl
  have hl : lv_has ls 2 [(0, .ref h), (1, .int a1)] := hl
  refine lv_aload_n hx hb dX11_chance_0 rfl (lv_at hl 0 rfl) ?_
  refine lv_iload_n hx hb dX11_chance_1 rfl (lv_at hl 1 rfl) ?_
  refine lv_i2l hx hb dX11_chance_2 rfl ?_
  refine behI (runVP (As := [.long a1.toInt64]) (rest := []) ⟨hx, hb, hml, hown, ht⟩ (pX11_isRoomOrNone l G cs h q a1.toInt64) okV_RX11_275 ⟨by decide, by decide⟩ hK hP [0, 1] rfl 0 rfl rfl hl.1 rfl (Nat.le_of_ble_eq_true rfl) dX11_chance_3 ⟨by decide, by decide⟩) hP hS (fun _ h => h) (fun H locs hP hS => ?_)
  refine lv_if_ne (tgt := 12) hx hb dX11_chance_6 (by decide) (fun c1 => False.elim (by revert c1; decide)) (fun c2 => ?_)
  refine lv_bipush (v := (-2)) hx hb dX11_chance_9 (by decide) ?_
  exact retPi hx hb hr hlk hS dX11_chance_11 (rfl)

set_option maxRecDepth 100000 in
set_option maxHeartbeats 4000000 in
theorem pX11_call (l : Launch) (G : va_G) (cs : Nat → ClassId) (h : Nat) (q : Nat → Nat) (a1 : Int32) : PureI l yX11_call cX11_call 2 (some .int) 3 G (TY cs) [.ref h, .int a1] [(mc0 cs h q), (mc1 cs h q)] (-2) := by
  refine mkP (Qc := QPi (-2)) (by decide) (by simp [lg_sl, Value.category]) ?_
  intro p e s m args below meth c ls hx hb hml hr hlk hown ht hK hP hS hl
  have hl : lv_has ls 2 [(0, .ref h), (1, .int a1)] := hl
  refine lv_aload_n hx hb dX11_call_0 rfl (lv_at hl 0 rfl) ?_
  refine lv_iload_n hx hb dX11_call_1 rfl (lv_at hl 1 rfl) ?_
  refine lv_i2l hx hb dX11_call_2 rfl ?_
  refine behI (runVP (As := [.long a1.toInt64]) (rest := []) ⟨hx, hb, hml, hown, ht⟩ (pX11_isRoomOrNone l G cs h q a1.toInt64) okV_RX11_275 ⟨by decide, by decide⟩ hK hP [0, 1] rfl 0 rfl rfl hl.1 rfl (Nat.le_of_ble_eq_true rfl) dX11_call_3 ⟨by decide, by decide⟩) hP hS (fun _ h => h) (fun H locs hP hS => ?_)
  refine lv_if_ne (tgt := 12) hx hb dX11_call_6 (by decide) (fun c1 => False.elim (by revert c1; decide)) (fun c2 => ?_)
  refine lv_bipush (v := (-2)) hx hb dX11_call_9 (by decide) ?_
  exact retPi hx hb hr hlk hS dX11_call_11 (rfl)

