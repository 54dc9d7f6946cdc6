set_option maxRecDepth 100000 in
set_option maxHeartbeats 4000000 in
theorem pX10_parts (l : Launch) (G : va_G) (cs : Nat → ClassId) (h : Nat) (q : Nat → Nat) (a1 : Int32) : PureI l yX10_parts cX10_parts 2 (some .int) 2 G (TY cs) [.ref h, .int a1] [(xc0 cs h q), (xc12 cs h q), (xc13 cs h q)] (-2) := by
  refine mkP (Qc := QPi (-2)) (by decide) (by simp [lg_sl, Value.category]) ?_
  intro p e s m args below meth c ls hx hb hml hr hlk hown ht hK hP hS hl
  have hl : lv_has ls 2 [(0, .ref h), (1, .int a1)] := hl
  refine lv_aload_n hx hb dX10_parts_0 rfl (lv_at hl 0 rfl) ?_
  refine lv_iload_n hx hb dX10_parts_1 rfl (lv_at hl 1 rfl) ?_
  refine behI (runVP (As := [.int a1]) (rest := []) ⟨hx, hb, hml, hown, ht⟩ (pX10_isRoomOrOut l G cs h q a1) okV_RX10_145 ⟨by decide, by decide⟩ hK hP [0, 1, 2] rfl 0 rfl rfl hl.1 rfl (Nat.le_of_ble_eq_true rfl) dX10_parts_2 ⟨by decide, by decide⟩) hP hS (fun _ h => h) (fun H locs hP hS => ?_)
  refine lv_if_eq (tgt := 19) hx hb dX10_parts_5 (by decide) (fun c2 => ?_) (fun c1 => False.elim (by revert c1; decide))
  refine lv_bipush (v := (-2)) hx hb dX10_parts_19 (by decide) ?_
  exact retPi hx hb hr hlk hS dX10_parts_21 (rfl)

set_option maxRecDepth 100000 in
set_option maxHeartbeats 4000000 in
theorem pX10_found (l : Launch) (G : va_G) (cs : Nat → ClassId) (h : Nat) (q : Nat → Nat)  : PureI l yX10_found cX10_found 1 (some .int) 1 G (TY cs) [.ref h] [(xc0 cs h q), (xc12 cs h q), (xc13 cs h q)] (-2) := by
  refine mkP (Qc := QPi (-2)) (by decide) (by simp [lg_sl, Value.category]) ?_
  intro p e s m args below meth c ls hx hb hml hr hlk hown ht hK hP hS hl
  have hl : lv_has ls 1 [(0, .ref h)] := hl
  refine lv_aload_n hx hb dX10_found_0 rfl (lv_at hl 0 rfl) ?_
  refine behI (runVP (As := []) (rest := []) ⟨hx, hb, hml, hown, ht⟩ (pX10_hasHouse l G cs h q ) okV_RX10_152 ⟨by decide, by decide⟩ hK hP [0, 1, 2] rfl 0 rfl rfl hl.1 rfl (Nat.le_of_ble_eq_true rfl) dX10_found_1 ⟨by decide, by decide⟩) hP hS (fun _ h => h) (fun H locs hP hS => ?_)
  refine lv_if_eq (tgt := 17) hx hb dX10_found_4 (by decide) (fun c2 => ?_) (fun c1 => False.elim (by revert c1; decide))
  refine lv_bipush (v := (-2)) hx hb dX10_found_17 (by decide) ?_
  exact retPi hx hb hr hlk hS dX10_found_19 (rfl)

set_option maxRecDepth 100000 in
set_option maxHeartbeats 4000000 in
theorem pX10_likely (l : Launch) (G : va_G) (cs : Nat → ClassId) (h : Nat) (q : Nat → Nat)  : PureI l yX10_likely cX10_likely 3 (some .int) 1 G (TY cs) [.ref h] [(xc0 cs h q), (xc12 cs h q), (xc13 cs h q)] (-2) := by
  refine mkP (Qc := QPi (-2)) (by decide) (by simp [lg_sl, Value.category]) ?_
  intro p e s m args below meth c ls hx hb hml hr hlk hown ht hK hP hS hl
  have hl : lv_has ls 3 [(0, .ref h)] := hl
  refine lv_aload_n hx hb dX10_likely_0 rfl (lv_at hl 0 rfl) ?_
  refine behI (runVP (As := []) (rest := []) ⟨hx, hb, hml, hown, ht⟩ (pX10_hasHouse l G cs h q ) okV_RX10_152 ⟨by decide, by decide⟩ hK hP [0, 1, 2] rfl 0 rfl rfl hl.1 rfl (Nat.le_of_ble_eq_true rfl) dX10_likely_1 ⟨by decide, by decide⟩) hP hS (fun _ h => h) (fun H locs hP hS => ?_)
  refine lv_if_ne (tgt := 10) hx hb dX10_likely_4 (by decide) (fun c1 => False.elim (by revert c1; decide)) (fun c2 => ?_)
  refine lv_bipush (v := (-2)) hx hb dX10_likely_7 (by decide) ?_
  exact retPi hx hb hr hlk hS dX10_likely_9 (rfl)

set_option maxRecDepth 100000 in
set_option maxHeartbeats 4000000 in
theorem pX10_here (l : Launch) (G : va_G) (cs : Nat → ClassId) (h : Nat) (q : Nat → Nat)  : PureI l yX10_here cX10_here 1 (some .int) 1 G (TY cs) [.ref h] [(xc0 cs h q), (xc12 cs h q), (xc13 cs h q)] (-2) := by
  refine mkP (Qc := QPi (-2)) (by decide) (by simp [lg_sl, Value.category]) ?_
  intro p e s m args below meth c ls hx hb hml hr hlk hown ht hK hP hS hl
  have hl : lv_has ls 1 [(0, .ref h)] := hl
  refine lv_aload_n hx hb dX10_here_0 rfl (lv_at hl 0 rfl) ?_
  refine behI (runVP (As := []) (rest := []) ⟨hx, hb, hml, hown, ht⟩ (pX10_hasHouse l G cs h q ) okV_RX10_152 ⟨by decide, by decide⟩ hK hP [0, 1, 2] rfl 0 rfl rfl hl.1 rfl (Nat.le_of_ble_eq_true rfl) dX10_here_1 ⟨by decide, by decide⟩) hP hS (fun _ h => h) (fun H locs hP hS => ?_)
  refine lv_if_eq (tgt := 17) hx hb dX10_here_4 (by decide) (fun c2 => ?_) (fun c1 => False.elim (by revert c1; decide))
  refine lv_bipush (v := (-2)) hx hb dX10_here_17 (by decide) ?_
  exact retPi hx hb hr hlk hS dX10_here_19 (rfl)

set_option maxRecDepth 100000 in
set_option maxHeartbeats 4000000 in
theorem pX10_chance (l : Launch) (G : va_G) (cs : Nat → ClassId) (h : Nat) (q : Nat → Nat) (a1 : Int32) : PureI l yX10_chance cX10_chance 2 (some .int) 2 G (TY cs) [.ref h, .int a1] [(xc0 cs h q), (xc12 cs h q), (xc13 cs h q)] (-2) := by
  refine mkP (Qc := QPi (-2)) (by decide) (by simp [lg_sl, Value.category]) ?_
  intro p e s m args below meth c ls hx hb hml hr hlk hown ht hK hP hS hl
  have hl : lv_has ls 2 [(0, .ref h), (1, .int a1)] := hl
  refine lv_aload_n hx hb dX10_chance_0 rfl (lv_at hl 0 rfl) ?_
  refine lv_iload_n hx hb dX10_chance_1 rfl (lv_at hl 1 rfl) ?_
  refine behI (runVP (As := [.int a1]) (rest := []) ⟨hx, hb, hml, hown, ht⟩ (pX10_isRoomOrOut l G cs h q a1) okV_RX10_145 ⟨by decide, by decide⟩ hK hP [0, 1, 2] rfl 0 rfl rfl hl.1 rfl (Nat.le_of_ble_eq_true rfl) dX10_chance_2 ⟨by decide, by decide⟩) hP hS (fun _ h => h) (fun H locs hP hS => ?_)
  refine lv_if_eq (tgt := 26) hx hb dX10_chance_5 (by decide) (fun c2 => ?_) (fun c1 => False.elim (by revert c1; decide))
  refine lv_bipush (v := (-2)) hx hb dX10_chance_26 (by decide) ?_
  exact retPi hx hb hr hlk hS dX10_chance_28 (rfl)

set_option maxRecDepth 100000 in
set_option maxHeartbeats 4000000 in
theorem pX10_call (l : Launch) (G : va_G) (cs : Nat → ClassId) (h : Nat) (q : Nat → Nat) (a1 : Int32) : PureI l yX10_call cX10_call 2 (some .int) 2 G (TY cs) [.ref h, .int a1] [(xc0 cs h q), (xc12 cs h q), (xc13 cs h q)] (-2) := by
  refine mkP (Qc := QPi (-2)) (by decide) (by simp [lg_sl, Value.category]) ?_
  intro p e s m args below meth c ls hx hb hml hr hlk hown ht hK hP hS hl
  have hl : lv_has ls 2 [(0, .ref h), (1, .int a1)] := hl
  refine lv_aload_n hx hb dX10_call_0 rfl (lv_at hl 0 rfl) ?_
  refine lv_iload_n hx hb dX10_call_1 rfl (lv_at hl 1 rfl) ?_
  refine behI (runVP (As := [.int a1]) (rest := []) ⟨hx, hb, hml, hown, ht⟩ (pX10_isRoomOrOut l G cs h q a1) okV_RX10_145 ⟨by decide, by decide⟩ hK hP [0, 1, 2] rfl 0 rfl rfl hl.1 rfl (Nat.le_of_ble_eq_true rfl) dX10_call_2 ⟨by decide, by decide⟩) hP hS (fun _ h => h) (fun H locs hP hS => ?_)
  refine lv_if_ne (tgt := 11) hx hb dX10_call_5 (by decide) (fun c1 => False.elim (by revert c1; decide)) (fun c2 => ?_)
  refine lv_bipush (v := (-2)) hx hb dX10_call_8 (by decide) ?_
  exact retPi hx hb hr hlk hS dX10_call_10 (rfl)

set_option maxRecDepth 100000 in
set_option maxHeartbeats 4000000 in
theorem pX10_undo (l : Launch) (G : va_G) (cs : Nat → ClassId) (h : Nat) (q : Nat → Nat)  : PureI l yX10_undo cX10_undo 1 (some .int) 1 G (TY cs) [.ref h] [(xc0 cs h q), (xc12 cs h q), (xc13 cs h q)] (-2) := by
  refine mkP (Qc := QPi (-2)) (by decide) (by simp [lg_sl, Value.category]) ?_
  intro p e s m args below meth c ls hx hb hml hr hlk hown ht hK hP hS hl
  have hl : lv_has ls 1 [(0, .ref h)] := hl
  refine lv_aload_n hx hb dX10_undo_0 rfl (lv_at hl 0 rfl) ?_
  refine behI (runVP (As := []) (rest := []) ⟨hx, hb, hml, hown, ht⟩ (pX10_hasHouse l G cs h q ) okV_RX10_152 ⟨by decide, by decide⟩ hK hP [0, 1, 2] rfl 0 rfl rfl hl.1 rfl (Nat.le_of_ble_eq_true rfl) dX10_undo_1 ⟨by decide, by decide⟩) hP hS (fun _ h => h) (fun H locs hP hS => ?_)
  refine lv_if_ne (tgt := 10) hx hb dX10_undo_4 (by decide) (fun c1 => False.elim (by revert c1; decide)) (fun c2 => ?_)
  refine lv_bipush (v := (-2)) hx hb dX10_undo_7 (by decide) ?_
  exact retPi hx hb hr hlk hS dX10_undo_9 (rfl)

set_option maxRecDepth 100000 in
set_option maxHeartbeats 4000000 in
theorem pX10_anew (l : Launch) (G : va_G) (cs : Nat → ClassId) (h : Nat) (q : Nat → Nat)  : PureI l yX10_anew cX10_anew 2 (some .int) 1 G (TY cs) [.ref h] [(xc0 cs h q), (xc12 cs h q), (xc13 cs h q)] (-2) := by
  refine mkP (Qc := QPi (-2)) (by decide) (by simp [lg_sl, Value.category]) ?_
  intro p e s m args below meth c ls hx hb hml hr hlk hown ht hK hP hS hl
  have hl : lv_has ls 2 [(0, .ref h)] := hl
  refine lv_aload_n hx hb dX10_anew_0 rfl (lv_at hl 0 rfl) ?_
  refine behI (runVP (As := []) (rest := []) ⟨hx, hb, hml, hown, ht⟩ (pX10_hasHouse l G cs h q ) okV_RX10_152 ⟨by decide, by decide⟩ hK hP [0, 1, 2] rfl 0 rfl rfl hl.1 rfl (Nat.le_of_ble_eq_true rfl) dX10_anew_1 ⟨by decide, by decide⟩) hP hS (fun _ h => h) (fun H locs hP hS => ?_)
  refine lv_if_ne (tgt := 10) hx hb dX10_anew_4 (by decide) (fun c1 => False.elim (by revert c1; decide)) (fun c2 => ?_)
  refine lv_bipush (v := (-2)) hx hb dX10_anew_7 (by decide) ?_
  exact retPi hx hb hr hlk hS dX10_anew_9 (rfl)

set_option maxRecDepth 100000 in
set_option maxHeartbeats 4000000 in
theorem pX10_later (l : Launch) (G : va_G) (cs : Nat → ClassId) (h : Nat) (q : Nat → Nat) (a1 : Int32) (a2 : Int32) : PureI l yX10_later cX10_later 4 (some .int) 2 G (TY cs) [.ref h, .int a1, .int a2] [(xc0 cs h q), (xc12 cs h q), (xc13 cs h q)] (-2) := by
  refine mkP (Qc := QPi (-2)) (by decide) (by simp [lg_sl, Value.category]) ?_
  intro p e s m args below meth c ls hx hb hml hr hlk hown ht hK hP hS hl
  have hl : lv_has ls 4 [(0, .ref h), (1, .int a1), (2, .int a2)] := hl
  refine lv_aload_n hx hb dX10_later_0 rfl (lv_at hl 0 rfl) ?_
  refine lv_iload_n hx hb dX10_later_1 rfl (lv_at hl 1 rfl) ?_
  refine behI (runVP (As := [.int a1]) (rest := []) ⟨hx, hb, hml, hown, ht⟩ (pX10_isRoomOrOut l G cs h q a1) okV_RX10_145 ⟨by decide, by decide⟩ hK hP [0, 1, 2] rfl 0 rfl rfl hl.1 rfl (Nat.le_of_ble_eq_true rfl) dX10_later_2 ⟨by decide, by decide⟩) hP hS (fun _ h => h) (fun H locs hP hS => ?_)
  refine lv_if_eq (tgt := 19) hx hb dX10_later_5 (by decide) (fun c2 => ?_) (fun c1 => False.elim (by revert c1; decide))
  refine lv_bipush (v := (-2)) hx hb dX10_later_19 (by decide) ?_
  exact retPi hx hb hr hlk hS dX10_later_21 (rfl)

set_option maxRecDepth 100000 in
set_option maxHeartbeats 4000000 in
theorem pX10_round (l : Launch) (G : va_G) (cs : Nat → ClassId) (h : Nat) (q : Nat → Nat) (a1 : Int32) : PureI l yX10_round cX10_round 3 (some .int) 3 G (TY cs) [.ref h, .int a1] [(xc0 cs h q), (xc12 cs h q), (xc13 cs h q)] (-2) := by
  refine mkP (Qc := QPi (-2)) (by decide) (by simp [lg_sl, Value.category]) ?_
  intro p e s m args below meth c ls hx hb hml hr hlk hown ht hK hP hS hl
  have hl : lv_has ls 3 [(0, .ref h), (1, .int a1)] := hl
  refine lv_aload_n hx hb dX10_round_0 rfl (lv_at hl 0 rfl) ?_
  refine lv_iload_n hx hb dX10_round_1 rfl (lv_at hl 1 rfl) ?_
  refine lv_iconst (v := 1) hx hb dX10_round_2 (by decide) ?_
  refine behI (runVP (As := [.int a1, .int 1]) (rest := []) ⟨hx, hb, hml, hown, ht⟩ (pX10_askRound l G cs h q a1 1) okV_RX10_186 ⟨by decide, by decide⟩ hK hP [0, 1, 2] rfl 0 rfl rfl hl.1 rfl (Nat.le_of_ble_eq_true rfl) dX10_round_3 ⟨by decide, by decide⟩) hP hS (fun _ h => h) (fun H locs hP hS => ?_)
  refine lv_istore_n (lv' := [(2, .int (-2)), (0, .ref h), (1, .int a1)]) hx hb dX10_round_6 rfl hl (by decide) rfl (fun ls hl => ?_)
  refine lv_iload_n hx hb dX10_round_7 rfl (lv_at hl 0 rfl) ?_
  refine lv_if_eq (tgt := 15) hx hb dX10_round_8 (by decide) (fun c1 => False.elim (by revert c1; decide)) (fun c2 => ?_)
  refine lv_iload_n hx hb dX10_round_11 rfl (lv_at hl 0 rfl) ?_
  refine lv_goto (tgt := 26) hx hb dX10_round_12 (by decide) ?_
  exact retPi hx hb hr hlk hS dX10_round_26 (rfl)

set_option maxRecDepth 100000 in
set_option maxHeartbeats 4000000 in
theorem pX10_behind (l : Launch) (G : va_G) (cs : Nat → ClassId) (h : Nat) (q : Nat → Nat) (a1 : Int32) (a2 : Int32) : PureI l yX10_behind cX10_behind 4 (some .int) 3 G (TY cs) [.ref h, .int a1, .int a2] [(xc0 cs h q), (xc12 cs h q), (xc13 cs h q)] (-2) := by
  refine mkP (Qc := QPi (-2)) (by decide) (by simp [lg_sl, Value.category]) ?_
  intro p e s m args below meth c ls hx hb hml hr hlk hown ht hK hP hS hl
  have hl : lv_has ls 4 [(0, .ref h), (1, .int a1), (2, .int a2)] := hl
  refine lv_aload_n hx hb dX10_behind_0 rfl (lv_at hl 0 rfl) ?_
  refine lv_iload_n hx hb dX10_behind_1 rfl (lv_at hl 1 rfl) ?_
  refine lv_aload_n hx hb dX10_behind_2 rfl (lv_at hl 0 rfl) ?_
  refine lv_iload_n hx hb dX10_behind_3 rfl (lv_at hl 2 rfl) ?_
  refine behI (runVP (As := [.int a2]) (rest := [.int a1, .ref h]) ⟨hx, hb, hml, hown, ht⟩ (pX10_isRoom l G cs h q a2) okV_RX10_120 ⟨by decide, by decide⟩ hK hP [0, 1, 2] rfl 0 rfl rfl hl.1 rfl (Nat.le_of_ble_eq_true rfl) dX10_behind_4 ⟨by decide, by decide⟩) hP hS (fun _ h => h) (fun H locs hP hS => ?_)
  refine behI (runVP (As := [.int a1, .int 0]) (rest := []) ⟨hx, hb, hml, hown, ht⟩ (pX10_askRound l G cs h q a1 0) okV_RX10_186 ⟨by decide, by decide⟩ hK hP [0, 1, 2] rfl 0 rfl rfl hl.1 rfl (Nat.le_of_ble_eq_true rfl) dX10_behind_7 ⟨by decide, by decide⟩) hP hS (fun _ h => h) (fun H locs hP hS => ?_)
  refine lv_istore_n (lv' := [(3, .int (-2)), (0, .ref h), (1, .int a1), (2, .int a2)]) hx hb dX10_behind_10 rfl hl (by decide) rfl (fun ls hl => ?_)
  refine lv_iload_n hx hb dX10_behind_11 rfl (lv_at hl 0 rfl) ?_
  refine lv_if_eq (tgt := 17) hx hb dX10_behind_12 (by decide) (fun c1 => False.elim (by revert c1; decide)) (fun c2 => ?_)
  refine lv_iload_n hx hb dX10_behind_15 rfl (lv_at hl 0 rfl) ?_
  exact retPi hx hb hr hlk hS dX10_behind_16 (rfl)

set_option maxRecDepth 100000 in
set_option maxHeartbeats 4000000 in
theorem pX10_disturbs (l : Launch) (G : va_G) (cs : Nat → ClassId) (h : Nat) (q : Nat → Nat) (a1 : Int32) : PureI l yX10_disturbs cX10_disturbs 7 (some .int) 3 G (TY cs) [.ref h, .int a1] [(xc0 cs h q), (xc12 cs h q), (xc13 cs h q)] (-2) := by
  refine mkP (Qc := QPi (-2)) (by decide) (by simp [lg_sl, Value.category]) ?_
  intro p e s m args below meth c ls hx hb hml hr hlk hown ht hK hP hS hl
  have hl : lv_has ls 7 [(0, .ref h), (1, .int a1)] := hl
  refine lv_aload_n hx hb dX10_disturbs_0 rfl (lv_at hl 0 rfl) ?_
  refine lv_iload_n hx hb dX10_disturbs_1 rfl (lv_at hl 1 rfl) ?_
  refine lv_iconst (v := 1) hx hb dX10_disturbs_2 (by decide) ?_
  refine behI (runVP (As := [.int a1, .int 1]) (rest := []) ⟨hx, hb, hml, hown, ht⟩ (pX10_askRound l G cs h q a1 1) okV_RX10_186 ⟨by decide, by decide⟩ hK hP [0, 1, 2] rfl 0 rfl rfl hl.1 rfl (Nat.le_of_ble_eq_true rfl) dX10_disturbs_3 ⟨by decide, by decide⟩) hP hS (fun _ h => h) (fun H locs hP hS => ?_)
  refine lv_istore_n (lv' := [(2, .int (-2)), (0, .ref h), (1, .int a1)]) hx hb dX10_disturbs_6 rfl hl (by decide) rfl (fun ls hl => ?_)
  refine lv_iload_n hx hb dX10_disturbs_7 rfl (lv_at hl 0 rfl) ?_
  refine lv_if_eq (tgt := 13) hx hb dX10_disturbs_8 (by decide) (fun c1 => False.elim (by revert c1; decide)) (fun c2 => ?_)
  refine lv_iload_n hx hb dX10_disturbs_11 rfl (lv_at hl 0 rfl) ?_
  exact retPi hx hb hr hlk hS dX10_disturbs_12 (rfl)

set_option maxRecDepth 100000 in
set_option maxHeartbeats 4000000 in
theorem pX10_stop (l : Launch) (G : va_G) (cs : Nat → ClassId) (h : Nat) (q : Nat → Nat) (a1 : Int32) : PureI l yX10_stop cX10_stop 8 (some .int) 3 G (TY cs) [.ref h, .int a1] [(xc0 cs h q), (xc12 cs h q), (xc13 cs h q)] (-2) := by
  refine mkP (Qc := QPi (-2)) (by decide) (by simp [lg_sl, Value.category]) ?_
  intro p e s m args below meth c ls hx hb hml hr hlk hown ht hK hP hS hl
  have hl : lv_has ls 8 [(0, .ref h), (1, .int a1)] := hl
  refine lv_aload_n hx hb dX10_stop_0 rfl (lv_at hl 0 rfl) ?_
  refine lv_iload_n hx hb dX10_stop_1 rfl (lv_at hl 1 rfl) ?_
  refine lv_iconst (v := 1) hx hb dX10_stop_2 (by decide) ?_
  refine behI (runVP (As := [.int a1, .int 1]) (rest := []) ⟨hx, hb, hml, hown, ht⟩ (pX10_askRound l G cs h q a1 1) okV_RX10_186 ⟨by decide, by decide⟩ hK hP [0, 1, 2] rfl 0 rfl rfl hl.1 rfl (Nat.le_of_ble_eq_true rfl) dX10_stop_3 ⟨by decide, by decide⟩) hP hS (fun _ h => h) (fun H locs hP hS => ?_)
  refine lv_istore_n (lv' := [(2, .int (-2)), (0, .ref h), (1, .int a1)]) hx hb dX10_stop_6 rfl hl (by decide) rfl (fun ls hl => ?_)
  refine lv_iload_n hx hb dX10_stop_7 rfl (lv_at hl 0 rfl) ?_
  refine lv_if_eq (tgt := 13) hx hb dX10_stop_8 (by decide) (fun c1 => False.elim (by revert c1; decide)) (fun c2 => ?_)
  refine lv_iload_n hx hb dX10_stop_11 rfl (lv_at hl 0 rfl) ?_
  exact retPi hx hb hr hlk hS dX10_stop_12 (rfl)

set_option maxRecDepth 100000 in
set_option maxHeartbeats 4000000 in
theorem pX10_doubt (l : Launch) (G : va_G) (cs : Nat → ClassId) (h : Nat) (q : Nat → Nat) (a1 : Int32) (a2 : Int32) : PureI l yX10_doubt cX10_doubt 6 (some .int) 3 G (TY cs) [.ref h, .int a1, .int a2] [(xc0 cs h q), (xc12 cs h q), (xc13 cs h q)] (-2) := by
  refine mkP (Qc := QPi (-2)) (by decide) (by simp [lg_sl, Value.category]) ?_
  intro p e s m args below meth c ls hx hb hml hr hlk hown ht hK hP hS hl
  have hl : lv_has ls 6 [(0, .ref h), (1, .int a1), (2, .int a2)] := hl
  refine lv_aload_n hx hb dX10_doubt_0 rfl (lv_at hl 0 rfl) ?_
  refine lv_iload_n hx hb dX10_doubt_1 rfl (lv_at hl 1 rfl) ?_
  refine lv_aload_n hx hb dX10_doubt_2 rfl (lv_at hl 0 rfl) ?_
  refine lv_iload_n hx hb dX10_doubt_3 rfl (lv_at hl 2 rfl) ?_
  refine behI (runVP (As := [.int a2]) (rest := [.int a1, .ref h]) ⟨hx, hb, hml, hown, ht⟩ (pX10_isPartOfMillion l G cs h q a2) okV_RX10_205 ⟨by decide, by decide⟩ hK hP [] rfl 0 rfl rfl hl.1 rfl (Nat.le_of_ble_eq_true rfl) dX10_doubt_4 ⟨by decide, by decide⟩) hP hS (fun _ h => h) (fun H locs hP hS => ?_)
  refine behI (runVP (As := [.int a1, .int (inG a2 0 1000000)]) (rest := []) ⟨hx, hb, hml, hown, ht⟩ (pX10_askRound l G cs h q a1 (inG a2 0 1000000)) okV_RX10_186 ⟨by decide, by decide⟩ hK hP [0, 1, 2] rfl 0 rfl rfl hl.1 rfl (Nat.le_of_ble_eq_true rfl) dX10_doubt_7 ⟨by decide, by decide⟩) hP hS (fun _ h => h) (fun H locs hP hS => ?_)
  refine lv_istore_n (lv' := [(3, .int (-2)), (0, .ref h), (1, .int a1), (2, .int a2)]) hx hb dX10_doubt_10 rfl hl (by decide) rfl (fun ls hl => ?_)
  refine lv_iload_n hx hb dX10_doubt_11 rfl (lv_at hl 0 rfl) ?_
  refine lv_if_eq (tgt := 17) hx hb dX10_doubt_12 (by decide) (fun c1 => False.elim (by revert c1; decide)) (fun c2 => ?_)
  refine lv_iload_n hx hb dX10_doubt_15 rfl (lv_at hl 0 rfl) ?_
  exact retPi hx hb hr hlk hS dX10_doubt_16 (rfl)

set_option maxRecDepth 100000 in
set_option maxHeartbeats 4000000 in
theorem pX10_walks (l : Launch) (G : va_G) (cs : Nat → ClassId) (h : Nat) (q : Nat → Nat) (a1 : Int32) (a2 : Int32) : PureI l yX10_walks cX10_walks 4 (some .int) 3 G (TY cs) [.ref h, .int a1, .int a2] [(xc0 cs h q), (xc12 cs h q), (xc13 cs h q)] (-2) := by
  refine mkP (Qc := QPi (-2)) (by decide) (by simp [lg_sl, Value.category]) ?_
  intro p e s m args below meth c ls hx hb hml hr hlk hown ht hK hP hS hl
  have hl : lv_has ls 4 [(0, .ref h), (1, .int a1), (2, .int a2)] := hl
  refine lv_aload_n hx hb dX10_walks_0 rfl (lv_at hl 0 rfl) ?_
  refine lv_iload_n hx hb dX10_walks_1 rfl (lv_at hl 1 rfl) ?_
  refine lv_aload_n hx hb dX10_walks_2 rfl (lv_at hl 0 rfl) ?_
  refine lv_iload_n hx hb dX10_walks_3 rfl (lv_at hl 2 rfl) ?_
  refine behI (runVP (As := [.int a2]) (rest := [.int a1, .ref h]) ⟨hx, hb, hml, hown, ht⟩ (pX10_isRoom l G cs h q a2) okV_RX10_120 ⟨by decide, by decide⟩ hK hP [0, 1, 2] rfl 0 rfl rfl hl.1 rfl (Nat.le_of_ble_eq_true rfl) dX10_walks_4 ⟨by decide, by decide⟩) hP hS (fun _ h => h) (fun H locs hP hS => ?_)
  refine behI (runVP (As := [.int a1, .int 0]) (rest := []) ⟨hx, hb, hml, hown, ht⟩ (pX10_askRound l G cs h q a1 0) okV_RX10_186 ⟨by decide, by decide⟩ hK hP [0, 1, 2] rfl 0 rfl rfl hl.1 rfl (Nat.le_of_ble_eq_true rfl) dX10_walks_7 ⟨by decide, by decide⟩) hP hS (fun _ h => h) (fun H locs hP hS => ?_)
  refine lv_istore_n (lv' := [(3, .int (-2)), (0, .ref h), (1, .int a1), (2, .int a2)]) hx hb dX10_walks_10 rfl hl (by decide) rfl (fun ls hl => ?_)
  refine lv_iload_n hx hb dX10_walks_11 rfl (lv_at hl 0 rfl) ?_
  refine lv_if_eq (tgt := 17) hx hb dX10_walks_12 (by decide) (fun c1 => False.elim (by revert c1; decide)) (fun c2 => ?_)
  refine lv_iload_n hx hb dX10_walks_15 rfl (lv_at hl 0 rfl) ?_
  exact retPi hx hb hr hlk hS dX10_walks_16 (rfl)

set_option maxRecDepth 100000 in
set_option maxHeartbeats 4000000 in
theorem pX10_penny (l : Launch) (G : va_G) (cs : Nat → ClassId) (h : Nat) (q : Nat → Nat) (a1 : Int32) : PureI l yX10_penny cX10_penny 9 (some .int) 3 G (TY cs) [.ref h, .int a1] [(xc0 cs h q), (xc12 cs h q), (xc13 cs h q)] (-2) := by
  refine mkP (Qc := QPi (-2)) (by decide) (by simp [lg_sl, Value.category]) ?_
  intro p e s m args below meth c ls hx hb hml hr hlk hown ht hK hP hS hl
  have hl : lv_has ls 9 [(0, .ref h), (1, .int a1)] := hl
  refine lv_aload_n hx hb dX10_penny_0 rfl (lv_at hl 0 rfl) ?_
  refine lv_iload_n hx hb dX10_penny_1 rfl (lv_at hl 1 rfl) ?_
  refine lv_iconst (v := 1) hx hb dX10_penny_2 (by decide) ?_
  refine behI (runVP (As := [.int a1, .int 1]) (rest := []) ⟨hx, hb, hml, hown, ht⟩ (pX10_askRound l G cs h q a1 1) okV_RX10_186 ⟨by decide, by decide⟩ hK hP [0, 1, 2] rfl 0 rfl rfl hl.1 rfl (Nat.le_of_ble_eq_true rfl) dX10_penny_3 ⟨by decide, by decide⟩) hP hS (fun _ h => h) (fun H locs hP hS => ?_)
  refine lv_istore_n (lv' := [(2, .int (-2)), (0, .ref h), (1, .int a1)]) hx hb dX10_penny_6 rfl hl (by decide) rfl (fun ls hl => ?_)
  refine lv_iload_n hx hb dX10_penny_7 rfl (lv_at hl 0 rfl) ?_
  refine lv_if_eq (tgt := 13) hx hb dX10_penny_8 (by decide) (fun c1 => False.elim (by revert c1; decide)) (fun c2 => ?_)
  refine lv_iload_n hx hb dX10_penny_11 rfl (lv_at hl 0 rfl) ?_
  exact retPi hx hb hr hlk hS dX10_penny_12 (rfl)

set_option maxRecDepth 100000 in
set_option maxHeartbeats 4000000 in
theorem pX10_best (l : Launch) (G : va_G) (cs : Nat → ClassId) (h : Nat) (q : Nat → Nat) (a1 : Int32) (a2 : Int32) : PureI l yX10_best cX10_best 3 (some .int) 2 G (TY cs) [.ref h, .int a1, .int a2] [(xc0 cs h q), (xc12 cs h q), (xc13 cs h q)] (-2) := by
  refine mkP (Qc := QPi (-2)) (by decide) (by simp [lg_sl, Value.category]) ?_
  intro p e s m args below meth c ls hx hb hml hr hlk hown ht hK hP hS hl
  have hl : lv_has ls 3 [(0, .ref h), (1, .int a1), (2, .int a2)] := hl
  refine lv_aload_n hx hb dX10_best_0 rfl (lv_at hl 0 rfl) ?_
  refine lv_iload_n hx hb dX10_best_1 rfl (lv_at hl 1 rfl) ?_
  refine behI (runVP (As := [.int a1]) (rest := []) ⟨hx, hb, hml, hown, ht⟩ (pX10_isRoom l G cs h q a1) okV_RX10_120 ⟨by decide, by decide⟩ hK hP [0, 1, 2] rfl 0 rfl rfl hl.1 rfl (Nat.le_of_ble_eq_true rfl) dX10_best_2 ⟨by decide, by decide⟩) hP hS (fun _ h => h) (fun H locs hP hS => ?_)
  refine lv_if_eq (tgt := 16) hx hb dX10_best_5 (by decide) (fun c2 => ?_) (fun c1 => False.elim (by revert c1; decide))
  refine lv_bipush (v := (-2)) hx hb dX10_best_16 (by decide) ?_
  exact retPi hx hb hr hlk hS dX10_best_18 (rfl)

set_option maxRecDepth 100000 in
set_option maxHeartbeats 4000000 in
theorem pX10_goes (l : Launch) (G : va_G) (cs : Nat → ClassId) (h : Nat) (q : Nat → Nat) (a1 : Int32) (a2 : Int32) (a3 : Int32) : PureI l yX10_goes cX10_goes 4 (some .int) 2 G (TY cs) [.ref h, .int a1, .int a2, .int a3] [(xc0 cs h q), (xc12 cs h q), (xc13 cs h q)] (-2) := by
  refine mkP (Qc := QPi (-2)) (by decide) (by simp [lg_sl, Value.category]) ?_
  intro p e s m args below meth c ls hx hb hml hr hlk hown ht hK hP hS hl
  have hl : lv_has ls 4 [(0, .ref h), (1, .int a1), (2, .int a2), (3, .int a3)] := hl
  refine lv_aload_n hx hb dX10_goes_0 rfl (lv_at hl 0 rfl) ?_
  refine lv_iload_n hx hb dX10_goes_1 rfl (lv_at hl 1 rfl) ?_
  refine behI (runVP (As := [.int a1]) (rest := []) ⟨hx, hb, hml, hown, ht⟩ (pX10_isRoom l G cs h q a1) okV_RX10_120 ⟨by decide, by decide⟩ hK hP [0, 1, 2] rfl 0 rfl rfl hl.1 rfl (Nat.le_of_ble_eq_true rfl) dX10_goes_2 ⟨by decide, by decide⟩) hP hS (fun _ h => h) (fun H locs hP hS => ?_)
  refine lv_if_eq (tgt := 16) hx hb dX10_goes_5 (by decide) (fun c2 => ?_) (fun c1 => False.elim (by revert c1; decide))
  refine lv_bipush (v := (-2)) hx hb dX10_goes_16 (by decide) ?_
  exact retPi hx hb hr hlk hS dX10_goes_18 (rfl)

set_option maxRecDepth 100000 in
set_option maxHeartbeats 4000000 in
theorem pX10_begins (l : Launch) (G : va_G) (cs : Nat → ClassId) (h : Nat) (q : Nat → Nat) (a1 : Int32) : PureI l yX10_begins cX10_begins 2 (some .int) 0 G (TY cs) [.ref h, .int a1] [(xc0 cs h q), (xc12 cs h q), (xc13 cs h q)] (-2) := by
  refine mkP (Qc := QPi (-2)) (by decide) (by simp [lg_sl, Value.category]) ?_
  intro p e s m args below meth c ls hx hb hml hr hlk hown ht hK hP hS hl
  have hl : lv_has ls 2 [(0, .ref h), (1, .int a1)] := hl
  refine lv_aload_n hx hb dX10_begins_0 rfl (lv_at hl 0 rfl) ?_
  refine getF hx hb ht hown hK hP iTX10 0 3 rfl rfl (by decide) fl_RX10_31 rfl dX10_begins_1 ?_
  refine getF hx hb ht hown hK hP iTX8 1 0 rfl rfl (by decide) fl_RX10_98 rfl dX10_begins_4 ?_
  refine getF hx hb ht hown hK hP iTX3 2 5 rfl rfl (by decide) fl_RX10_159 rfl dX10_begins_7 ?_
  refine lv_iconst (v := 1) hx hb dX10_begins_10 (by decide) ?_
  refine lv_icmp_lt (tgt := 22) hx hb dX10_begins_11 (by decide) (fun c2 => ?_) (fun c1 => False.elim (by revert c1; decide))
  refine lv_bipush (v := (-2)) hx hb dX10_begins_22 (by decide) ?_
  exact retPi hx hb hr hlk hS dX10_begins_24 (rfl)

set_option maxRecDepth 100000 in
set_option maxHeartbeats 4000000 in
theorem pX10_soon (l : Launch) (G : va_G) (cs : Nat → ClassId) (h : Nat) (q : Nat → Nat) (a1 : Int32) (a2 : Int32) : PureI l yX10_soon cX10_soon 4 (some .int) 2 G (TY cs) [.ref h, .int a1, .int a2] [(xc0 cs h q), (xc12 cs h q), (xc13 cs h q)] (-2) := by
  refine mkP (Qc := QPi (-2)) (by decide) (by simp [lg_sl, Value.category]) ?_
  intro p e s m args below meth c ls hx hb hml hr hlk hown ht hK hP hS hl
  have hl : lv_has ls 4 [(0, .ref h), (1, .int a1), (2, .int a2)] := hl
  refine lv_aload_n hx hb dX10_soon_0 rfl (lv_at hl 0 rfl) ?_
  refine lv_iload_n hx hb dX10_soon_1 rfl (lv_at hl 1 rfl) ?_
  refine behI (runVP (As := [.int a1]) (rest := []) ⟨hx, hb, hml, hown, ht⟩ (pX10_isRoom l G cs h q a1) okV_RX10_120 ⟨by decide, by decide⟩ hK hP [0, 1, 2] rfl 0 rfl rfl hl.1 rfl (Nat.le_of_ble_eq_true rfl) dX10_soon_2 ⟨by decide, by decide⟩) hP hS (fun _ h => h) (fun H locs hP hS => ?_)
  refine lv_if_eq (tgt := 16) hx hb dX10_soon_5 (by decide) (fun c2 => ?_) (fun c1 => False.elim (by revert c1; decide))
  refine lv_bipush (v := (-2)) hx hb dX10_soon_16 (by decide) ?_
  exact retPi hx hb hr hlk hS dX10_soon_18 (rfl)

