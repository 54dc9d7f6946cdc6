set_option maxRecDepth 100000 in
set_option maxHeartbeats 4000000 in
theorem pX3_hasRoom (l : Launch) (G : va_G) (cs : Nat → ClassId) (h : Nat) (q : Nat → Nat) (a1 : Int32) : PureI l yX3_hasRoom cX3_hasRoom 2 (some .boolean) 0 G (TY cs) [.ref (q 13), .int a1] [(xc13 cs h q)] 0 := by
  refine mkP (Qc := QPi 0) (by decide) (by simp [lg_sl, Value.category]) ?_
  intro p e s m args below meth c ls hx hb hml hr hlk hown ht hK hP hS hl
  have hl : lv_has ls 2 [(0, .ref (q 13)), (1, .int a1)] := hl
  refine lv_iload_n hx hb dX3_hasRoom_0 rfl (lv_at hl 1 rfl) ?_
  refine lv_if_lt (tgt := 16) hx hb dX3_hasRoom_1 (by decide) (fun c1 => ?_) (fun c1 => ?_)
  · refine lv_iconst (v := 0) hx hb dX3_hasRoom_16 (by decide) ?_
    exact retPz hx hb hr hlk hS dX3_hasRoom_17 (rfl) (rfl)
  · refine lv_iload_n hx hb dX3_hasRoom_4 rfl (lv_at hl 1 rfl) ?_
    refine lv_aload_n hx hb dX3_hasRoom_5 rfl (lv_at hl 0 rfl) ?_
    refine getF hx hb ht hown hK hP iTX3 0 5 rfl rfl (by decide) fl_RX3_49 rfl dX3_hasRoom_6 ?_
    refine lv_icmp_ge (tgt := 16) hx hb dX3_hasRoom_9 (by decide) (fun c3 => ?_) (fun c2 => False.elim (by have z0 := nltT c1; have z1 := nleT c2; have k0 : (0 : Int32).toInt = 0 := (by decide); omega))
    refine lv_iconst (v := 0) hx hb dX3_hasRoom_16 (by decide) ?_
    exact retPz hx hb hr hlk hS dX3_hasRoom_17 (rfl) (rfl)

set_option maxRecDepth 100000 in
set_option maxHeartbeats 4000000 in
theorem pX3_allRooms (l : Launch) (G : va_G) (cs : Nat → ClassId) (h : Nat) (q : Nat → Nat)  : PureI l yX3_allRooms cX3_allRooms 1 (some .int) 0 G (TY cs) [.ref (q 13)] [(xc13 cs h q)] 0 := by
  refine mkP (Qc := QPi 0) (by decide) (by simp [lg_sl, Value.category]) ?_
  intro p e s m args below meth c ls hx hb hml hr hlk hown ht hK hP hS hl
  have hl : lv_has ls 1 [(0, .ref (q 13))] := hl
  refine lv_iconst (v := 1) hx hb dX3_allRooms_0 (by decide) ?_
  refine lv_aload_n hx hb dX3_allRooms_1 rfl (lv_at hl 0 rfl) ?_
  refine getF hx hb ht hown hK hP iTX3 0 5 rfl rfl (by decide) fl_RX3_49 rfl dX3_allRooms_2 ?_
  refine lv_ishl hx hb dX3_allRooms_5 ?_
  refine lv_topi (fun v1 ev1 => ?_)
  obtain rfl : v1 = 1 := ev1.trans (by decide)
  refine lv_iconst (v := 1) hx hb dX3_allRooms_6 (by decide) ?_
  refine lv_isub hx hb dX3_allRooms_7 ?_
  refine lv_topi (fun v2 ev2 => ?_)
  obtain rfl : v2 = 0 := ev2.trans (by decide)
  exact retPi hx hb hr hlk hS dX3_allRooms_8 (rfl)

set_option maxRecDepth 100000 in
set_option maxHeartbeats 4000000 in
theorem pX3_countDoors (l : Launch) (G : va_G) (cs : Nat → ClassId) (h : Nat) (q : Nat → Nat)  : PureI l yX3_countDoors cX3_countDoors 3 (some .int) 0 G (TY cs) [.ref (q 13)] [(xc13 cs h q)] 0 := by
  refine mkP (Qc := QPi 0) (by decide) (by simp [lg_sl, Value.category]) ?_
  intro p e s m args below meth c ls hx hb hml hr hlk hown ht hK hP hS hl
  have hl : lv_has ls 3 [(0, .ref (q 13))] := hl
  refine lv_iconst (v := 0) hx hb dX3_countDoors_0 (by decide) ?_
  refine lv_istore_n (lv' := [(1, .int 0), (0, .ref (q 13))]) hx hb dX3_countDoors_1 rfl hl (by decide) rfl (fun ls hl => ?_)
  refine lv_iconst (v := 0) hx hb dX3_countDoors_2 (by decide) ?_
  refine lv_istore_n (lv' := [(2, .int 0), (1, .int 0), (0, .ref (q 13))]) hx hb dX3_countDoors_3 rfl hl (by decide) rfl (fun ls hl => ?_)
  refine lv_iload_n hx hb dX3_countDoors_4 rfl (lv_at hl 0 rfl) ?_
  refine lv_aload_n hx hb dX3_countDoors_5 rfl (lv_at hl 2 rfl) ?_
  refine getF hx hb ht hown hK hP iTX3 0 5 rfl rfl (by decide) fl_RX3_49 rfl dX3_countDoors_6 ?_
  refine lv_icmp_ge (tgt := 30) hx hb dX3_countDoors_9 (by decide) (fun c2 => ?_) (fun c1 => False.elim (by revert c1; decide))
  refine lv_iload_n hx hb dX3_countDoors_30 rfl (lv_at hl 1 rfl) ?_
  refine lv_iconst (v := 2) hx hb dX3_countDoors_31 (by decide) ?_
  refine lv_idiv hx hb dX3_countDoors_32 (by decide) ?_
  refine lv_topi (fun v3 ev3 => ?_)
  obtain rfl : v3 = 0 := ev3.trans (by decide)
  exact retPi hx hb hr hlk hS dX3_countDoors_33 (rfl)

set_option maxRecDepth 100000 in
set_option maxHeartbeats 4000000 in
theorem pX10_hasHouse (l : Launch) (G : va_G) (cs : Nat → ClassId) (h : Nat) (q : Nat → Nat)  : PureI l yX10_hasHouse cX10_hasHouse 1 (some .boolean) 0 G (TY cs) [.ref h] [(xc0 cs h q), (xc12 cs h q), (xc13 cs h q)] 0 := by
  refine mkP (Qc := QPi 0) (by decide) (by simp [lg_sl, Value.category]) ?_
  intro p e s m args below meth c ls hx hb hml hr hlk hown ht hK hP hS hl
  have hl : lv_has ls 1 [(0, .ref h)] := hl
  refine lv_aload_n hx hb dX10_hasHouse_0 rfl (lv_at hl 0 rfl) ?_
  refine getF hx hb ht hown hK hP iTX10 0 3 rfl rfl (by decide) fl_RX10_31 rfl dX10_hasHouse_1 ?_
  refine getF hx hb ht hown hK hP iTX8 1 0 rfl rfl (by decide) fl_RX10_98 rfl dX10_hasHouse_4 ?_
  refine getF hx hb ht hown hK hP iTX3 2 0 rfl rfl (by decide) fl_RX10_111 rfl dX10_hasHouse_7 ?_
  refine lv_if_le (tgt := 17) hx hb dX10_hasHouse_10 (by decide) (fun c2 => ?_) (fun c1 => False.elim (by revert c1; decide))
  refine lv_iconst (v := 0) hx hb dX10_hasHouse_17 (by decide) ?_
  exact retPz hx hb hr hlk hS dX10_hasHouse_18 (rfl) (rfl)

set_option maxRecDepth 100000 in
set_option maxHeartbeats 4000000 in
theorem pX10_isRoom (l : Launch) (G : va_G) (cs : Nat → ClassId) (h : Nat) (q : Nat → Nat) (a1 : Int32) : PureI l yX10_isRoom cX10_isRoom 2 (some .boolean) 1 G (TY cs) [.ref h, .int a1] [(xc0 cs h q), (xc12 cs h q), (xc13 cs h q)] 0 := by
  refine mkP (Qc := QPi 0) (by decide) (by simp [lg_sl, Value.category]) ?_
  intro p e s m args below meth c ls hx hb hml hr hlk hown ht hK hP hS hl
  have hl : lv_has ls 2 [(0, .ref h), (1, .int a1)] := hl
  refine lv_aload_n hx hb dX10_isRoom_0 rfl (lv_at hl 0 rfl) ?_
  refine getF hx hb ht hown hK hP iTX10 0 3 rfl rfl (by decide) fl_RX10_31 rfl dX10_isRoom_1 ?_
  refine getF hx hb ht hown hK hP iTX8 1 0 rfl rfl (by decide) fl_RX10_98 rfl dX10_isRoom_4 ?_
  refine lv_iload_n hx hb dX10_isRoom_7 rfl (lv_at hl 1 rfl) ?_
  refine behI (runVP (As := [.int a1]) (rest := []) ⟨hx, hb, hml, hown, ht⟩ (pX3_hasRoom l G cs h q a1) okV_RX10_377 ⟨by decide, by decide⟩ hK hP [2] rfl 2 rfl rfl hl.1 rfl (Nat.le_of_ble_eq_true rfl) dX10_isRoom_8 ⟨by decide, by decide⟩) hP hS (fun _ h => h) (fun H locs hP hS => ?_)
  exact retPz hx hb hr hlk hS dX10_isRoom_11 (rfl) (rfl)

set_option maxRecDepth 100000 in
set_option maxHeartbeats 4000000 in
theorem pX10_isRoomOrOut (l : Launch) (G : va_G) (cs : Nat → ClassId) (h : Nat) (q : Nat → Nat) (a1 : Int32) : PureI l yX10_isRoomOrOut cX10_isRoomOrOut 2 (some .boolean) 1 G (TY cs) [.ref h, .int a1] [(xc0 cs h q), (xc12 cs h q), (xc13 cs h q)] 0 := by
  refine mkP (Qc := QPi 0) (by decide) (by simp [lg_sl, Value.category]) ?_
  intro p e s m args below meth c ls hx hb hml hr hlk hown ht hK hP hS hl
  have hl : lv_has ls 2 [(0, .ref h), (1, .int a1)] := hl
  refine lv_aload_n hx hb dX10_isRoomOrOut_0 rfl (lv_at hl 0 rfl) ?_
  refine behI (runVP (As := []) (rest := []) ⟨hx, hb, hml, hown, ht⟩ (pX10_hasHouse l G cs h q ) okV_RX10_152 ⟨by decide, by decide⟩ hK hP [0, 1, 2] rfl 0 rfl rfl hl.1 rfl (Nat.le_of_ble_eq_true rfl) dX10_isRoomOrOut_1 ⟨by decide, by decide⟩) hP hS (fun _ h => h) (fun H locs hP hS => ?_)
  refine lv_if_eq (tgt := 24) hx hb dX10_isRoomOrOut_4 (by decide) (fun c2 => ?_) (fun c1 => False.elim (by revert c1; decide))
  refine lv_iconst (v := 0) hx hb dX10_isRoomOrOut_24 (by decide) ?_
  exact retPz hx hb hr hlk hS dX10_isRoomOrOut_25 (rfl) (rfl)

set_option maxRecDepth 100000 in
set_option maxHeartbeats 4000000 in
theorem pX10_isMan (l : Launch) (G : va_G) (cs : Nat → ClassId) (h : Nat) (q : Nat → Nat) (a1 : Int32) : PureI l yX10_isMan cX10_isMan 2 (some .boolean) 0 G (TY cs) [.ref h, .int a1] [(xc0 cs h q), (xc12 cs h q), (xc13 cs h q)] 0 := by
  refine mkP (Qc := QPi 0) (by decide) (by simp [lg_sl, Value.category]) ?_
  intro p e s m args below meth c ls hx hb hml hr hlk hown ht hK hP hS hl
  have hl : lv_has ls 2 [(0, .ref h), (1, .int a1)] := hl
  refine lv_iload_n hx hb dX10_isMan_0 rfl (lv_at hl 1 rfl) ?_
  refine lv_if_lt (tgt := 22) hx hb dX10_isMan_1 (by decide) (fun c1 => ?_) (fun c1 => ?_)
  · refine lv_iconst (v := 0) hx hb dX10_isMan_22 (by decide) ?_
    exact retPz hx hb hr hlk hS dX10_isMan_23 (rfl) (rfl)
  · refine lv_iload_n hx hb dX10_isMan_4 rfl (lv_at hl 1 rfl) ?_
    refine lv_aload_n hx hb dX10_isMan_5 rfl (lv_at hl 0 rfl) ?_
    refine getF hx hb ht hown hK hP iTX10 0 3 rfl rfl (by decide) fl_RX10_31 rfl dX10_isMan_6 ?_
    refine getF hx hb ht hown hK hP iTX8 1 0 rfl rfl (by decide) fl_RX10_98 rfl dX10_isMan_9 ?_
    refine getF hx hb ht hown hK hP iTX3 2 6 rfl rfl (by decide) fl_RX10_283 rfl dX10_isMan_12 ?_
    refine lv_icmp_ge (tgt := 22) hx hb dX10_isMan_15 (by decide) (fun c3 => ?_) (fun c2 => False.elim (by have z0 := nltT c1; have z1 := nleT c2; have k0 : (0 : Int32).toInt = 0 := (by decide); omega))
    refine lv_iconst (v := 0) hx hb dX10_isMan_22 (by decide) ?_
    exact retPz hx hb hr hlk hS dX10_isMan_23 (rfl) (rfl)

set_option maxRecDepth 100000 in
set_option maxHeartbeats 4000000 in
theorem pX10_isSet (l : Launch) (G : va_G) (cs : Nat → ClassId) (h : Nat) (q : Nat → Nat) (a1 : Int32) : PureI l yX10_isSet cX10_isSet 2 (some .boolean) 0 G (TY cs) [.ref h, .int a1] [(xc0 cs h q), (xc12 cs h q), (xc13 cs h q)] 0 := by
  refine mkP (Qc := QPi 0) (by decide) (by simp [lg_sl, Value.category]) ?_
  intro p e s m args below meth c ls hx hb hml hr hlk hown ht hK hP hS hl
  have hl : lv_has ls 2 [(0, .ref h), (1, .int a1)] := hl
  refine lv_iload_n hx hb dX10_isSet_0 rfl (lv_at hl 1 rfl) ?_
  refine lv_iconst (v := 1) hx hb dX10_isSet_1 (by decide) ?_
  refine lv_icmp_lt (tgt := 25) hx hb dX10_isSet_2 (by decide) (fun c1 => ?_) (fun c1 => ?_)
  · refine lv_iconst (v := 0) hx hb dX10_isSet_25 (by decide) ?_
    exact retPz hx hb hr hlk hS dX10_isSet_26 (rfl) (rfl)
  · refine lv_iload_n hx hb dX10_isSet_5 rfl (lv_at hl 1 rfl) ?_
    refine lv_iconst (v := 1) hx hb dX10_isSet_6 (by decide) ?_
    refine lv_aload_n hx hb dX10_isSet_7 rfl (lv_at hl 0 rfl) ?_
    refine getF hx hb ht hown hK hP iTX10 0 3 rfl rfl (by decide) fl_RX10_31 rfl dX10_isSet_8 ?_
    refine getF hx hb ht hown hK hP iTX8 1 0 rfl rfl (by decide) fl_RX10_98 rfl dX10_isSet_11 ?_
    refine getF hx hb ht hown hK hP iTX3 2 6 rfl rfl (by decide) fl_RX10_283 rfl dX10_isSet_14 ?_
    refine lv_ishl hx hb dX10_isSet_17 ?_
    refine lv_topi (fun v2 ev2 => ?_)
    obtain rfl : v2 = 1 := ev2.trans (by decide)
    refine lv_icmp_ge (tgt := 25) hx hb dX10_isSet_18 (by decide) (fun c4 => ?_) (fun c3 => False.elim (by have z0 := nltT c1; have z1 := nleT c3; have k0 : (1 : Int32).toInt = 1 := (by decide); omega))
    refine lv_iconst (v := 0) hx hb dX10_isSet_25 (by decide) ?_
    exact retPz hx hb hr hlk hS dX10_isSet_26 (rfl) (rfl)

set_option maxRecDepth 100000 in
set_option maxHeartbeats 4000000 in
theorem pX10_isPartOfMillion (l : Launch) (G : va_G) (cs : Nat → ClassId) (h : Nat) (q : Nat → Nat) (a1 : Int32) : PureI l yX10_isPartOfMillion cX10_isPartOfMillion 2 (some .boolean) 0 G (TY cs) [.ref h, .int a1] [] (inG a1 0 1000000) := by
  refine mkP (Qc := QPi (inG a1 0 1000000)) (by decide) (by simp [lg_sl, Value.category]) ?_
  intro p e s m args below meth c ls hx hb hml hr hlk hown ht hK hP hS hl
  have hl : lv_has ls 2 [(0, .ref h), (1, .int a1)] := hl
  refine lv_iload_n hx hb dX10_isPartOfMillion_0 rfl (lv_at hl 1 rfl) ?_
  refine lv_if_lt (tgt := 14) hx hb dX10_isPartOfMillion_1 (by decide) (fun c1 => ?_) (fun c1 => ?_)
  · refine lv_iconst (v := 0) hx hb dX10_isPartOfMillion_14 (by decide) ?_
    exact retPz hx hb hr hlk hS dX10_isPartOfMillion_15 (rfl) ((inG_a c1).symm)
  · refine lv_iload_n hx hb dX10_isPartOfMillion_4 rfl (lv_at hl 1 rfl) ?_
    refine lv_ldc hx hb hown (ht _ ki_RX10_201) dX10_isPartOfMillion_5 ?_
    refine lv_icmp_gt (tgt := 14) hx hb dX10_isPartOfMillion_7 (by decide) (fun c2 => ?_) (fun c2 => ?_)
    · refine lv_iconst (v := 0) hx hb dX10_isPartOfMillion_14 (by decide) ?_
      exact retPz hx hb hr hlk hS dX10_isPartOfMillion_15 (rfl) ((inG_b c2).symm)
    · refine lv_iconst (v := 1) hx hb dX10_isPartOfMillion_10 (by decide) ?_
      refine lv_goto (tgt := 15) hx hb dX10_isPartOfMillion_11 (by decide) ?_
      exact retPz hx hb hr hlk hS dX10_isPartOfMillion_15 (rfl) ((inG_c c1 c2).symm)

set_option maxRecDepth 100000 in
set_option maxHeartbeats 4000000 in
theorem pX10_isSeed (l : Launch) (G : va_G) (cs : Nat → ClassId) (h : Nat) (q : Nat → Nat) (a1 : Int32) : PureI l yX10_isSeed cX10_isSeed 2 (some .boolean) 0 G (TY cs) [.ref h, .int a1] [] (inG a1 0 2000000000) := by
  refine mkP (Qc := QPi (inG a1 0 2000000000)) (by decide) (by simp [lg_sl, Value.category]) ?_
  intro p e s m args below meth c ls hx hb hml hr hlk hown ht hK hP hS hl
  have hl : lv_has ls 2 [(0, .ref h), (1, .int a1)] := hl
  refine lv_iload_n hx hb dX10_isSeed_0 rfl (lv_at hl 1 rfl) ?_
  refine lv_if_lt (tgt := 15) hx hb dX10_isSeed_1 (by decide) (fun c1 => ?_) (fun c1 => ?_)
  · refine lv_iconst (v := 0) hx hb dX10_isSeed_15 (by decide) ?_
    exact retPz hx hb hr hlk hS dX10_isSeed_16 (rfl) ((inG_a c1).symm)
  · refine lv_iload_n hx hb dX10_isSeed_4 rfl (lv_at hl 1 rfl) ?_
    refine lv_ldcw hx hb hown (ht _ ki_RX10_380) dX10_isSeed_5 ?_
    refine lv_icmp_gt (tgt := 15) hx hb dX10_isSeed_8 (by decide) (fun c2 => ?_) (fun c2 => ?_)
    · refine lv_iconst (v := 0) hx hb dX10_isSeed_15 (by decide) ?_
      exact retPz hx hb hr hlk hS dX10_isSeed_16 (rfl) ((inG_b c2).symm)
    · refine lv_iconst (v := 1) hx hb dX10_isSeed_11 (by decide) ?_
      refine lv_goto (tgt := 16) hx hb dX10_isSeed_12 (by decide) ?_
      exact retPz hx hb hr hlk hS dX10_isSeed_16 (rfl) ((inG_c c1 c2).symm)

set_option maxRecDepth 100000 in
set_option maxHeartbeats 4000000 in
theorem pX10_isSlot (l : Launch) (G : va_G) (cs : Nat → ClassId) (h : Nat) (q : Nat → Nat) (a1 : Int32) : PureI l yX10_isSlot cX10_isSlot 2 (some .boolean) 0 G (TY cs) [.ref h, .int a1] [] (spk 4 a1 1 0) := by
  refine mkP (Qc := QPi (spk 4 a1 1 0)) (by decide) (by simp [lg_sl, Value.category]) ?_
  intro p e s m args below meth c ls hx hb hml hr hlk hown ht hK hP hS hl
  have hl : lv_has ls 2 [(0, .ref h), (1, .int a1)] := hl
  refine lv_iload_n hx hb dX10_isSlot_0 rfl (lv_at hl 1 rfl) ?_
  refine lv_if_lt (tgt := 13) hx hb dX10_isSlot_1 (by decide) (fun c1 => ?_) (fun c1 => ?_)
  · refine lv_iconst (v := 0) hx hb dX10_isSlot_13 (by decide) ?_
    exact retPz hx hb hr hlk hS dX10_isSlot_14 (rfl) ((spk_lo c1).symm)
  · refine lv_iload_n hx hb dX10_isSlot_4 rfl (lv_at hl 1 rfl) ?_
    refine lv_iconst (v := 4) hx hb dX10_isSlot_5 (by decide) ?_
    refine lv_icmp_ge (tgt := 13) hx hb dX10_isSlot_6 (by decide) (fun c2 => ?_) (fun c2 => ?_)
    · refine lv_iconst (v := 0) hx hb dX10_isSlot_13 (by decide) ?_
      exact retPz hx hb hr hlk hS dX10_isSlot_14 (rfl) ((spk_hi (by decide) c2).symm)
    · refine lv_iconst (v := 1) hx hb dX10_isSlot_9 (by decide) ?_
      refine lv_goto (tgt := 14) hx hb dX10_isSlot_10 (by decide) ?_
      exact retPz hx hb hr hlk hS dX10_isSlot_14 (rfl) ((by unfold spk; rw [if_neg c1, if_neg c2]))

set_option maxRecDepth 100000 in
set_option maxHeartbeats 4000000 in
theorem pX10_askRow (l : Launch) (G : va_G) (cs : Nat → ClassId) (h : Nat) (q : Nat → Nat) (a1 : Int32) (a2 : Int32) (a3 : Int32) : PureI l yX10_askRow cX10_askRow 4 (some .int) 1 G (TY cs) [.ref h, .int a1, .int a2, .int a3] [(xc0 cs h q), (xc12 cs h q), (xc13 cs h q)] (-2) := by
  refine mkP (Qc := QPi (-2)) (by decide) (by simp [lg_sl, Value.category]) ?_
  intro p e s m args below meth c ls hx hb hml hr hlk hown ht hK hP hS hl
  have hl : lv_has ls 4 [(0, .ref h), (1, .int a1), (2, .int a2), (3, .int a3)] := hl
  refine lv_aload_n hx hb dX10_askRow_0 rfl (lv_at hl 0 rfl) ?_
  refine lv_iload_n hx hb dX10_askRow_1 rfl (lv_at hl 1 rfl) ?_
  refine behI (runVP (As := [.int a1]) (rest := []) ⟨hx, hb, hml, hown, ht⟩ (pX10_isSlot l G cs h q a1) okV_RX10_348 ⟨by decide, by decide⟩ hK hP [] rfl 0 rfl rfl hl.1 rfl (Nat.le_of_ble_eq_true rfl) dX10_askRow_2 ⟨by decide, by decide⟩) hP hS (fun _ h => h) (fun H locs hP hS => ?_)
  refine lv_if_eq (tgt := 19) hx hb dX10_askRow_5 (by decide) (fun c1 => ?_) (fun c1 => ?_)
  · refine lv_bipush (v := (-2)) hx hb dX10_askRow_19 (by decide) ?_
    exact retPi hx hb hr hlk hS dX10_askRow_21 (rfl)
  · refine lv_aload_n hx hb dX10_askRow_8 rfl (lv_at hl 0 rfl) ?_
    refine behI (runVP (As := []) (rest := []) ⟨hx, hb, hml, hown, ht⟩ (pX10_hasHouse l G cs h q ) okV_RX10_152 ⟨by decide, by decide⟩ hK hP [0, 1, 2] rfl 0 rfl rfl hl.1 rfl (Nat.le_of_ble_eq_true rfl) dX10_askRow_9 ⟨by decide, by decide⟩) hP hS (fun _ h => h) (fun H locs hP hS => ?_)
    refine lv_if_eq (tgt := 19) hx hb dX10_askRow_12 (by decide) (fun c3 => ?_) (fun c2 => False.elim (by revert c2; decide))
    refine lv_bipush (v := (-2)) hx hb dX10_askRow_19 (by decide) ?_
    exact retPi hx hb hr hlk hS dX10_askRow_21 (rfl)

set_option maxRecDepth 100000 in
set_option maxHeartbeats 4000000 in
theorem pX10_askRound (l : Launch) (G : va_G) (cs : Nat → ClassId) (h : Nat) (q : Nat → Nat) (a1 : Int32) (a2 : Int32) : PureI l yX10_askRound cX10_askRound 3 (some .int) 2 G (TY cs) [.ref h, .int a1, .int a2] [(xc0 cs h q), (xc12 cs h q), (xc13 cs h q)] (-2) := by
  refine mkP (Qc := QPi (-2)) (by decide) (by simp [lg_sl, Value.category]) ?_
  intro p e s m args below meth c ls hx hb hml hr hlk hown ht hK hP hS hl
  have hl : lv_has ls 3 [(0, .ref h), (1, .int a1), (2, .int a2)] := hl
  refine lv_aload_n hx hb dX10_askRound_0 rfl (lv_at hl 0 rfl) ?_
  refine lv_iload_n hx hb dX10_askRound_1 rfl (lv_at hl 1 rfl) ?_
  refine lv_iload_n hx hb dX10_askRound_2 rfl (lv_at hl 2 rfl) ?_
  refine lv_iconst (v := (-1)) hx hb dX10_askRound_3 (by decide) ?_
  refine behI (runVP (As := [.int a1, .int a2, .int (-1)]) (rest := []) ⟨hx, hb, hml, hown, ht⟩ (pX10_askRow l G cs h q a1 a2 (-1)) okV_RX10_381 ⟨by decide, by decide⟩ hK hP [0, 1, 2] rfl 0 rfl rfl hl.1 rfl (Nat.le_of_ble_eq_true rfl) dX10_askRound_4 ⟨by decide, by decide⟩) hP hS (fun _ h => h) (fun H locs hP hS => ?_)
  exact retPi hx hb hr hlk hS dX10_askRound_7 (rfl)

set_option maxRecDepth 100000 in
set_option maxHeartbeats 4000000 in
theorem pX10_askHabits (l : Launch) (G : va_G) (cs : Nat → ClassId) (h : Nat) (q : Nat → Nat) (a1 : Int32) (a2 : Int32) : PureI l yX10_askHabits cX10_askHabits 3 (some .int) 2 G (TY cs) [.ref h, .int a1, .int a2] [(xc0 cs h q), (xc12 cs h q), (xc13 cs h q)] (-2) := by
  refine mkP (Qc := QPi (-2)) (by decide) (by simp [lg_sl, Value.category]) ?_
  intro p e s m args below meth c ls hx hb hml hr hlk hown ht hK hP hS hl
  have hl : lv_has ls 3 [(0, .ref h), (1, .int a1), (2, .int a2)] := hl
  refine lv_aload_n hx hb dX10_askHabits_0 rfl (lv_at hl 0 rfl) ?_
  refine lv_iload_n hx hb dX10_askHabits_1 rfl (lv_at hl 1 rfl) ?_
  refine lv_iload_n hx hb dX10_askHabits_2 rfl (lv_at hl 2 rfl) ?_
  refine lv_iconst (v := 0) hx hb dX10_askHabits_3 (by decide) ?_
  refine behI (runVP (As := [.int a1, .int a2, .int 0]) (rest := []) ⟨hx, hb, hml, hown, ht⟩ (pX10_askRow l G cs h q a1 a2 0) okV_RX10_381 ⟨by decide, by decide⟩ hK hP [0, 1, 2] rfl 0 rfl rfl hl.1 rfl (Nat.le_of_ble_eq_true rfl) dX10_askHabits_4 ⟨by decide, by decide⟩) hP hS (fun _ h => h) (fun H locs hP hS => ?_)
  exact retPi hx hb hr hlk hS dX10_askHabits_7 (rfl)

set_option maxRecDepth 100000 in
set_option maxHeartbeats 4000000 in
theorem pX10_peopleOf (l : Launch) (G : va_G) (cs : Nat → ClassId) (h : Nat) (q : Nat → Nat) (a1 : Int32) : PureI l yX10_peopleOf cX10_peopleOf 4 (some .int) 0 G (TY cs) [.ref h, .int a1] [(xc0 cs h q), (xc12 cs h q), (xc13 cs h q)] 0 := by
  refine mkP (Qc := QPi 0) (by decide) (by simp [lg_sl, Value.category]) ?_
  intro p e s m args below meth c ls hx hb hml hr hlk hown ht hK hP hS hl
  have hl : lv_has ls 4 [(0, .ref h), (1, .int a1)] := hl
  refine lv_iconst (v := 0) hx hb dX10_peopleOf_0 (by decide) ?_
  refine lv_istore_n (lv' := [(2, .int 0), (0, .ref h), (1, .int a1)]) hx hb dX10_peopleOf_1 rfl hl (by decide) rfl (fun ls hl => ?_)
  refine lv_iconst (v := 0) hx hb dX10_peopleOf_2 (by decide) ?_
  refine lv_istore_n (lv' := [(3, .int 0), (2, .int 0), (0, .ref h), (1, .int a1)]) hx hb dX10_peopleOf_3 rfl hl (by decide) rfl (fun ls hl => ?_)
  refine lv_iload_n hx hb dX10_peopleOf_4 rfl (lv_at hl 0 rfl) ?_
  refine lv_aload_n hx hb dX10_peopleOf_5 rfl (lv_at hl 2 rfl) ?_
  refine getF hx hb ht hown hK hP iTX10 0 3 rfl rfl (by decide) fl_RX10_31 rfl dX10_peopleOf_6 ?_
  refine getF hx hb ht hown hK hP iTX8 1 0 rfl rfl (by decide) fl_RX10_98 rfl dX10_peopleOf_9 ?_
  refine getF hx hb ht hown hK hP iTX3 2 5 rfl rfl (by decide) fl_RX10_159 rfl dX10_peopleOf_12 ?_
  refine lv_icmp_ge (tgt := 47) hx hb dX10_peopleOf_15 (by decide) (fun c2 => ?_) (fun c1 => False.elim (by revert c1; decide))
  refine lv_iload_n hx hb dX10_peopleOf_47 rfl (lv_at hl 1 rfl) ?_
  exact retPi hx hb hr hlk hS dX10_peopleOf_48 (rfl)

set_option maxRecDepth 100000 in
set_option maxHeartbeats 4000000 in
theorem pX10_countRows (l : Launch) (G : va_G) (cs : Nat → ClassId) (h : Nat) (q : Nat → Nat)  : PureI l yX10_countRows cX10_countRows 3 (some .int) 0 G (TY cs) [.ref h] [(xc0 cs h q), (xc53 cs h q), (xc54 cs h q), (xc56 cs h q), (xc58 cs h q), (xc60 cs h q)] 0 := by
  refine mkP (Qc := QPi 0) (by decide) (by simp [lg_sl, Value.category]) ?_
  intro p e s m args below meth c ls hx hb hml hr hlk hown ht hK hP hS hl
  have hl : lv_has ls 3 [(0, .ref h)] := hl
  refine lv_iconst (v := 0) hx hb dX10_countRows_0 (by decide) ?_
  refine lv_istore_n (lv' := [(1, .int 0), (0, .ref h)]) hx hb dX10_countRows_1 rfl hl (by decide) rfl (fun ls hl => ?_)
  refine lv_iconst (v := 0) hx hb dX10_countRows_2 (by decide) ?_
  refine lv_istore_n (lv' := [(2, .int 0), (1, .int 0), (0, .ref h)]) hx hb dX10_countRows_3 rfl hl (by decide) rfl (fun ls hl => ?_)
  refine lv_iload_n hx hb dX10_countRows_4 rfl (lv_at hl 0 rfl) ?_
  refine lv_iconst (v := 4) hx hb dX10_countRows_5 (by decide) ?_
  refine lv_icmp_ge (tgt := 30) hx hb dX10_countRows_6 (by decide) (fun c1 => False.elim (by revert c1; decide)) (fun c2 => ?_)
  refine lv_aload_n hx hb dX10_countRows_9 rfl (lv_at hl 2 rfl) ?_
  refine getF hx hb ht hown hK hP iTX10 0 5 rfl rfl (by decide) fl_RX10_41 rfl dX10_countRows_10 ?_
  refine lv_iload_n hx hb dX10_countRows_13 rfl (lv_at hl 0 rfl) ?_
  refine va_aldq hx hb hK.1 hP 1 5 rfl rfl (show ¬ (_ ∨ _) by decide) dX10_countRows_14 ?_
  refine W.eq (g2 := F0 m 15 ls [.ref (q 54)]) rfl ?_
  refine getF hx hb ht hown hK hP iTX7 2 1 rfl rfl (by decide) fl_RX10_354 rfl dX10_countRows_15 ?_
  refine lv_if_eq (tgt := 24) hx hb dX10_countRows_18 (by decide) (fun c4 => ?_) (fun c3 => False.elim (by revert c3; decide))
  refine lv_iinc (v := 1) (lv' := [(2, .int 1), (1, .int 0), (0, .ref h)]) hx hb dX10_countRows_24 hl (k := 0) rfl (by decide) (by decide) rfl (fun ls hl => ?_)
  refine lv_goto (tgt := 4) hx hb dX10_countRows_27 (by decide) ?_
  refine lv_iload_n hx hb dX10_countRows_4 rfl (lv_at hl 0 rfl) ?_
  refine lv_iconst (v := 4) hx hb dX10_countRows_5 (by decide) ?_
  refine lv_icmp_ge (tgt := 30) hx hb dX10_countRows_6 (by decide) (fun c5 => False.elim (by revert c5; decide)) (fun c6 => ?_)
  refine lv_aload_n hx hb dX10_countRows_9 rfl (lv_at hl 2 rfl) ?_
  refine getF hx hb ht hown hK hP iTX10 0 5 rfl rfl (by decide) fl_RX10_41 rfl dX10_countRows_10 ?_
  refine lv_iload_n hx hb dX10_countRows_13 rfl (lv_at hl 0 rfl) ?_
  refine va_aldq hx hb hK.1 hP 1 5 rfl rfl (show ¬ (_ ∨ _) by decide) dX10_countRows_14 ?_
  refine W.eq (g2 := F0 m 15 ls [.ref (q 56)]) rfl ?_
  refine getF hx hb ht hown hK hP iTX7 3 1 rfl rfl (by decide) fl_RX10_354 rfl dX10_countRows_15 ?_
  refine lv_if_eq (tgt := 24) hx hb dX10_countRows_18 (by decide) (fun c8 => ?_) (fun c7 => False.elim (by revert c7; decide))
  refine lv_iinc (v := 2) (lv' := [(2, .int 2), (1, .int 0), (0, .ref h)]) hx hb dX10_countRows_24 hl (k := 0) rfl (by decide) (by decide) rfl (fun ls hl => ?_)
  refine lv_goto (tgt := 4) hx hb dX10_countRows_27 (by decide) ?_
  refine lv_iload_n hx hb dX10_countRows_4 rfl (lv_at hl 0 rfl) ?_
  refine lv_iconst (v := 4) hx hb dX10_countRows_5 (by decide) ?_
  refine lv_icmp_ge (tgt := 30) hx hb dX10_countRows_6 (by decide) (fun c9 => False.elim (by revert c9; decide)) (fun c10 => ?_)
  refine lv_aload_n hx hb dX10_countRows_9 rfl (lv_at hl 2 rfl) ?_
  refine getF hx hb ht hown hK hP iTX10 0 5 rfl rfl (by decide) fl_RX10_41 rfl dX10_countRows_10 ?_
  refine lv_iload_n hx hb dX10_countRows_13 rfl (lv_at hl 0 rfl) ?_
  refine va_aldq hx hb hK.1 hP 1 5 rfl rfl (show ¬ (_ ∨ _) by decide) dX10_countRows_14 ?_
  refine W.eq (g2 := F0 m 15 ls [.ref (q 58)]) rfl ?_
  refine getF hx hb ht hown hK hP iTX7 4 1 rfl rfl (by decide) fl_RX10_354 rfl dX10_countRows_15 ?_
  refine lv_if_eq (tgt := 24) hx hb dX10_countRows_18 (by decide) (fun c12 => ?_) (fun c11 => False.elim (by revert c11; decide))
  refine lv_iinc (v := 3) (lv' := [(2, .int 3), (1, .int 0), (0, .ref h)]) hx hb dX10_countRows_24 hl (k := 0) rfl (by decide) (by decide) rfl (fun ls hl => ?_)
  refine lv_goto (tgt := 4) hx hb dX10_countRows_27 (by decide) ?_
  refine lv_iload_n hx hb dX10_countRows_4 rfl (lv_at hl 0 rfl) ?_
  refine lv_iconst (v := 4) hx hb dX10_countRows_5 (by decide) ?_
  refine lv_icmp_ge (tgt := 30) hx hb dX10_countRows_6 (by decide) (fun c13 => False.elim (by revert c13; decide)) (fun c14 => ?_)
  refine lv_aload_n hx hb dX10_countRows_9 rfl (lv_at hl 2 rfl) ?_
  refine getF hx hb ht hown hK hP iTX10 0 5 rfl rfl (by decide) fl_RX10_41 rfl dX10_countRows_10 ?_
  refine lv_iload_n hx hb dX10_countRows_13 rfl (lv_at hl 0 rfl) ?_
  refine va_aldq hx hb hK.1 hP 1 5 rfl rfl (show ¬ (_ ∨ _) by decide) dX10_countRows_14 ?_
  refine W.eq (g2 := F0 m 15 ls [.ref (q 60)]) rfl ?_
  refine getF hx hb ht hown hK hP iTX7 5 1 rfl rfl (by decide) fl_RX10_354 rfl dX10_countRows_15 ?_
  refine lv_if_eq (tgt := 24) hx hb dX10_countRows_18 (by decide) (fun c16 => ?_) (fun c15 => False.elim (by revert c15; decide))
  refine lv_iinc (v := 4) (lv' := [(2, .int 4), (1, .int 0), (0, .ref h)]) hx hb dX10_countRows_24 hl (k := 0) rfl (by decide) (by decide) rfl (fun ls hl => ?_)
  refine lv_goto (tgt := 4) hx hb dX10_countRows_27 (by decide) ?_
  refine lv_iload_n hx hb dX10_countRows_4 rfl (lv_at hl 0 rfl) ?_
  refine lv_iconst (v := 4) hx hb dX10_countRows_5 (by decide) ?_
  refine lv_icmp_ge (tgt := 30) hx hb dX10_countRows_6 (by decide) (fun c18 => ?_) (fun c17 => False.elim (by revert c17; decide))
  refine lv_iload_n hx hb dX10_countRows_30 rfl (lv_at hl 1 rfl) ?_
  exact retPi hx hb hr hlk hS dX10_countRows_31 (rfl)

set_option maxRecDepth 100000 in
set_option maxHeartbeats 4000000 in
theorem pX10_room (l : Launch) (G : va_G) (cs : Nat → ClassId) (h : Nat) (q : Nat → Nat) (a1 : Int32) (a2 : Int32) : PureI l yX10_room cX10_room 3 (some .int) 2 G (TY cs) [.ref h, .int a1, .int a2] [(xc0 cs h q), (xc12 cs h q), (xc13 cs h q)] (-2) := by
  refine mkP (Qc := QPi (-2)) (by decide) (by simp [lg_sl, Value.category]) ?_
  intro p e s m args below meth c ls hx hb hml hr hlk hown ht hK hP hS hl
  have hl : lv_has ls 3 [(0, .ref h), (1, .int a1), (2, .int a2)] := hl
  refine lv_aload_n hx hb dX10_room_0 rfl (lv_at hl 0 rfl) ?_
  refine lv_iload_n hx hb dX10_room_1 rfl (lv_at hl 1 rfl) ?_
  refine behI (runVP (As := [.int a1]) (rest := []) ⟨hx, hb, hml, hown, ht⟩ (pX10_isRoom l G cs h q a1) okV_RX10_120 ⟨by decide, by decide⟩ hK hP [0, 1, 2] rfl 0 rfl rfl hl.1 rfl (Nat.le_of_ble_eq_true rfl) dX10_room_2 ⟨by decide, by decide⟩) hP hS (fun _ h => h) (fun H locs hP hS => ?_)
  refine lv_if_eq (tgt := 17) hx hb dX10_room_5 (by decide) (fun c2 => ?_) (fun c1 => False.elim (by revert c1; decide))
  refine lv_bipush (v := (-2)) hx hb dX10_room_17 (by decide) ?_
  exact retPi hx hb hr hlk hS dX10_room_19 (rfl)

set_option maxRecDepth 100000 in
set_option maxHeartbeats 4000000 in
theorem pX10_man (l : Launch) (G : va_G) (cs : Nat → ClassId) (h : Nat) (q : Nat → Nat) (a1 : Int32) (a2 : Int32) : PureI l yX10_man cX10_man 3 (some .int) 1 G (TY cs) [.ref h, .int a1, .int a2] [(xc0 cs h q), (xc12 cs h q), (xc13 cs h q)] (-2) := by
  refine mkP (Qc := QPi (-2)) (by decide) (by simp [lg_sl, Value.category]) ?_
  intro p e s m args below meth c ls hx hb hml hr hlk hown ht hK hP hS hl
  have hl : lv_has ls 3 [(0, .ref h), (1, .int a1), (2, .int a2)] := hl
  refine lv_aload_n hx hb dX10_man_0 rfl (lv_at hl 0 rfl) ?_
  refine lv_iload_n hx hb dX10_man_1 rfl (lv_at hl 1 rfl) ?_
  refine behI (runVP (As := [.int a1]) (rest := []) ⟨hx, hb, hml, hown, ht⟩ (pX10_isMan l G cs h q a1) okV_RX10_128 ⟨by decide, by decide⟩ hK hP [0, 1, 2] rfl 0 rfl rfl hl.1 rfl (Nat.le_of_ble_eq_true rfl) dX10_man_2 ⟨by decide, by decide⟩) hP hS (fun _ h => h) (fun H locs hP hS => ?_)
  refine lv_if_eq (tgt := 17) hx hb dX10_man_5 (by decide) (fun c2 => ?_) (fun c1 => False.elim (by revert c1; decide))
  refine lv_bipush (v := (-2)) hx hb dX10_man_17 (by decide) ?_
  exact retPi hx hb hr hlk hS dX10_man_19 (rfl)

set_option maxRecDepth 100000 in
set_option maxHeartbeats 4000000 in
theorem pX10_slate (l : Launch) (G : va_G) (cs : Nat → ClassId) (h : Nat) (q : Nat → Nat) (a1 : Int32) (a2 : Int32) : PureI l yX10_slate cX10_slate 3 (some .int) 1 G (TY cs) [.ref h, .int a1, .int a2] [(xc0 cs h q), (xc12 cs h q), (xc13 cs h q)] (-2) := by
  refine mkP (Qc := QPi (-2)) (by decide) (by simp [lg_sl, Value.category]) ?_
  intro p e s m args below meth c ls hx hb hml hr hlk hown ht hK hP hS hl
  have hl : lv_has ls 3 [(0, .ref h), (1, .int a1), (2, .int a2)] := hl
  refine lv_aload_n hx hb dX10_slate_0 rfl (lv_at hl 0 rfl) ?_
  refine lv_iload_n hx hb dX10_slate_1 rfl (lv_at hl 1 rfl) ?_
  refine behI (runVP (As := [.int a1]) (rest := []) ⟨hx, hb, hml, hown, ht⟩ (pX10_isMan l G cs h q a1) okV_RX10_128 ⟨by decide, by decide⟩ hK hP [0, 1, 2] rfl 0 rfl rfl hl.1 rfl (Nat.le_of_ble_eq_true rfl) dX10_slate_2 ⟨by decide, by decide⟩) hP hS (fun _ h => h) (fun H locs hP hS => ?_)
  refine lv_if_eq (tgt := 16) hx hb dX10_slate_5 (by decide) (fun c2 => ?_) (fun c1 => False.elim (by revert c1; decide))
  refine lv_bipush (v := (-2)) hx hb dX10_slate_16 (by decide) ?_
  exact retPi hx hb hr hlk hS dX10_slate_18 (rfl)

set_option maxRecDepth 100000 in
set_option maxHeartbeats 4000000 in
theorem pX10_hears (l : Launch) (G : va_G) (cs : Nat → ClassId) (h : Nat) (q : Nat → Nat) (a1 : Int32) (a2 : Int32) : PureI l yX10_hears cX10_hears 3 (some .int) 2 G (TY cs) [.ref h, .int a1, .int a2] [(xc0 cs h q), (xc12 cs h q), (xc13 cs h q)] (-2) := by
  refine mkP (Qc := QPi (-2)) (by decide) (by simp [lg_sl, Value.category]) ?_
  intro p e s m args below meth c ls hx hb hml hr hlk hown ht hK hP hS hl
  have hl : lv_has ls 3 [(0, .ref h), (1, .int a1), (2, .int a2)] := hl
  refine lv_aload_n hx hb dX10_hears_0 rfl (lv_at hl 0 rfl) ?_
  refine lv_iload_n hx hb dX10_hears_1 rfl (lv_at hl 1 rfl) ?_
  refine behI (runVP (As := [.int a1]) (rest := []) ⟨hx, hb, hml, hown, ht⟩ (pX10_isRoom l G cs h q a1) okV_RX10_120 ⟨by decide, by decide⟩ hK hP [0, 1, 2] rfl 0 rfl rfl hl.1 rfl (Nat.le_of_ble_eq_true rfl) dX10_hears_2 ⟨by decide, by decide⟩) hP hS (fun _ h => h) (fun H locs hP hS => ?_)
  refine lv_if_eq (tgt := 18) hx hb dX10_hears_5 (by decide) (fun c2 => ?_) (fun c1 => False.elim (by revert c1; decide))
  refine lv_bipush (v := (-2)) hx hb dX10_hears_18 (by decide) ?_
  exact retPi hx hb hr hlk hS dX10_hears_20 (rfl)

