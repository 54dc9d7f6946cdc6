set_option maxRecDepth 100000 in
set_option maxHeartbeats 4000000 in
theorem pX10_far (l : Launch) (G : va_G) (cs : Nat → ClassId) (h : Nat) (q : Nat → Nat) (a1 : Int32) (a2 : Int32) : PureI l yX10_far cX10_far 5 (some .int) 2 G (TY cs) [.ref h, .int a1, .int a2] [(xc0 cs h q), (xc12 cs h q), (xc13 cs h q)] (-2) := by
  refine mkP (Qc := QPi (-2)) (by decide) (by simp [lg_sl, Value.category]) ?_
  intro p e s m args below meth c ls hx hb hml hr hlk hown ht hK hP hS hl
  have hl : lv_has ls 5 [(0, .ref h), (1, .int a1), (2, .int a2)] := hl
  refine lv_aload_n hx hb dX10_far_0 rfl (lv_at hl 0 rfl) ?_
  refine lv_iload_n hx hb dX10_far_1 rfl (lv_at hl 1 rfl) ?_
  refine behI (runVP (As := [.int a1]) (rest := []) ⟨hx, hb, hml, hown, ht⟩ (pX10_isRoom l G cs h q a1) okV_RX10_120 ⟨by decide, by decide⟩ hK hP [0, 1, 2] rfl 0 rfl rfl hl.1 rfl (Nat.le_of_ble_eq_true rfl) dX10_far_2 ⟨by decide, by decide⟩) hP hS (fun _ h => h) (fun H locs hP hS => ?_)
  refine lv_if_eq (tgt := 16) hx hb dX10_far_5 (by decide) (fun c2 => ?_) (fun c1 => False.elim (by revert c1; decide))
  refine lv_bipush (v := (-2)) hx hb dX10_far_16 (by decide) ?_
  exact retPi hx hb hr hlk hS dX10_far_18 (rfl)

set_option maxRecDepth 100000 in
set_option maxHeartbeats 4000000 in
theorem pX10_hangs (l : Launch) (G : va_G) (cs : Nat → ClassId) (h : Nat) (q : Nat → Nat) (a1 : Int32) : PureI l yX10_hangs cX10_hangs 6 (some .int) 3 G (TY cs) [.ref h, .int a1] [(xc0 cs h q), (xc12 cs h q), (xc13 cs h q)] (-2) := by
  refine mkP (Qc := QPi (-2)) (by decide) (by simp [lg_sl, Value.category]) ?_
  intro p e s m args below meth c ls hx hb hml hr hlk hown ht hK hP hS hl
  have hl : lv_has ls 6 [(0, .ref h), (1, .int a1)] := hl
  refine lv_aload_n hx hb dX10_hangs_0 rfl (lv_at hl 0 rfl) ?_
  refine lv_iload_n hx hb dX10_hangs_1 rfl (lv_at hl 1 rfl) ?_
  refine lv_iconst (v := 1) hx hb dX10_hangs_2 (by decide) ?_
  refine behI (runVP (As := [.int a1, .int 1]) (rest := []) ⟨hx, hb, hml, hown, ht⟩ (pX10_askRound l G cs h q a1 1) okV_RX10_186 ⟨by decide, by decide⟩ hK hP [0, 1, 2] rfl 0 rfl rfl hl.1 rfl (Nat.le_of_ble_eq_true rfl) dX10_hangs_3 ⟨by decide, by decide⟩) hP hS (fun _ h => h) (fun H locs hP hS => ?_)
  refine lv_istore_n (lv' := [(2, .int (-2)), (0, .ref h), (1, .int a1)]) hx hb dX10_hangs_6 rfl hl (by decide) rfl (fun ls hl => ?_)
  refine lv_iload_n hx hb dX10_hangs_7 rfl (lv_at hl 0 rfl) ?_
  refine lv_if_eq (tgt := 13) hx hb dX10_hangs_8 (by decide) (fun c1 => False.elim (by revert c1; decide)) (fun c2 => ?_)
  refine lv_iload_n hx hb dX10_hangs_11 rfl (lv_at hl 0 rfl) ?_
  exact retPi hx hb hr hlk hS dX10_hangs_12 (rfl)

set_option maxRecDepth 100000 in
set_option maxHeartbeats 4000000 in
theorem pX10_rest (l : Launch) (G : va_G) (cs : Nat → ClassId) (h : Nat) (q : Nat → Nat)  : PureI l yX10_rest cX10_rest 2 (some .int) 1 G (TY cs) [.ref h] [(xc0 cs h q), (xc12 cs h q), (xc13 cs h q)] (-2) := by
  refine mkP (Qc := QPi (-2)) (by decide) (by simp [lg_sl, Value.category]) ?_
  intro p e s m args below meth c ls hx hb hml hr hlk hown ht hK hP hS hl
  have hl : lv_has ls 2 [(0, .ref h)] := hl
  refine lv_aload_n hx hb dX10_rest_0 rfl (lv_at hl 0 rfl) ?_
  refine behI (runVP (As := []) (rest := []) ⟨hx, hb, hml, hown, ht⟩ (pX10_hasHouse l G cs h q ) okV_RX10_152 ⟨by decide, by decide⟩ hK hP [0, 1, 2] rfl 0 rfl rfl hl.1 rfl (Nat.le_of_ble_eq_true rfl) dX10_rest_1 ⟨by decide, by decide⟩) hP hS (fun _ h => h) (fun H locs hP hS => ?_)
  refine lv_if_ne (tgt := 10) hx hb dX10_rest_4 (by decide) (fun c1 => False.elim (by revert c1; decide)) (fun c2 => ?_)
  refine lv_bipush (v := (-2)) hx hb dX10_rest_7 (by decide) ?_
  exact retPi hx hb hr hlk hS dX10_rest_9 (rfl)

set_option maxRecDepth 100000 in
set_option maxHeartbeats 4000000 in
theorem pX10_trumpet (l : Launch) (G : va_G) (cs : Nat → ClassId) (h : Nat) (q : Nat → Nat)  : PureI l yX10_trumpet cX10_trumpet 1 (some .int) 1 G (TY cs) [.ref h] [(xc0 cs h q), (xc12 cs h q), (xc13 cs h q)] (-2) := by
  refine mkP (Qc := QPi (-2)) (by decide) (by simp [lg_sl, Value.category]) ?_
  intro p e s m args below meth c ls hx hb hml hr hlk hown ht hK hP hS hl
  have hl : lv_has ls 1 [(0, .ref h)] := hl
  refine lv_aload_n hx hb dX10_trumpet_0 rfl (lv_at hl 0 rfl) ?_
  refine behI (runVP (As := []) (rest := []) ⟨hx, hb, hml, hown, ht⟩ (pX10_hasHouse l G cs h q ) okV_RX10_152 ⟨by decide, by decide⟩ hK hP [0, 1, 2] rfl 0 rfl rfl hl.1 rfl (Nat.le_of_ble_eq_true rfl) dX10_trumpet_1 ⟨by decide, by decide⟩) hP hS (fun _ h => h) (fun H locs hP hS => ?_)
  refine lv_if_eq (tgt := 24) hx hb dX10_trumpet_4 (by decide) (fun c2 => ?_) (fun c1 => False.elim (by revert c1; decide))
  refine lv_bipush (v := (-2)) hx hb dX10_trumpet_24 (by decide) ?_
  exact retPi hx hb hr hlk hS dX10_trumpet_26 (rfl)

set_option maxRecDepth 100000 in
set_option maxHeartbeats 4000000 in
theorem pX10_quiet (l : Launch) (G : va_G) (cs : Nat → ClassId) (h : Nat) (q : Nat → Nat) (a1 : Int32) : PureI l yX10_quiet cX10_quiet 3 (some .int) 1 G (TY cs) [.ref h, .int a1] [(xc0 cs h q), (xc12 cs h q), (xc13 cs h q)] (-2) := by
  refine mkP (Qc := QPi (-2)) (by decide) (by simp [lg_sl, Value.category]) ?_
  intro p e s m args below meth c ls hx hb hml hr hlk hown ht hK hP hS hl
  have hl : lv_has ls 3 [(0, .ref h), (1, .int a1)] := hl
  refine lv_aload_n hx hb dX10_quiet_0 rfl (lv_at hl 0 rfl) ?_
  refine behI (runVP (As := []) (rest := []) ⟨hx, hb, hml, hown, ht⟩ (pX10_hasHouse l G cs h q ) okV_RX10_152 ⟨by decide, by decide⟩ hK hP [0, 1, 2] rfl 0 rfl rfl hl.1 rfl (Nat.le_of_ble_eq_true rfl) dX10_quiet_1 ⟨by decide, by decide⟩) hP hS (fun _ h => h) (fun H locs hP hS => ?_)
  refine lv_if_eq (tgt := 15) hx hb dX10_quiet_4 (by decide) (fun c2 => ?_) (fun c1 => False.elim (by revert c1; decide))
  refine lv_bipush (v := (-2)) hx hb dX10_quiet_15 (by decide) ?_
  exact retPi hx hb hr hlk hS dX10_quiet_17 (rfl)

set_option maxRecDepth 100000 in
set_option maxHeartbeats 4000000 in
theorem pX10_quietly (l : Launch) (G : va_G) (cs : Nat → ClassId) (h : Nat) (q : Nat → Nat) (a1 : Int32) : PureI l yX10_quietly cX10_quietly 2 (some .int) 1 G (TY cs) [.ref h, .int a1] [(xc0 cs h q), (xc12 cs h q), (xc13 cs h q)] (-2) := by
  refine mkP (Qc := QPi (-2)) (by decide) (by simp [lg_sl, Value.category]) ?_
  intro p e s m args below meth c ls hx hb hml hr hlk hown ht hK hP hS hl
  have hl : lv_has ls 2 [(0, .ref h), (1, .int a1)] := hl
  refine lv_aload_n hx hb dX10_quietly_0 rfl (lv_at hl 0 rfl) ?_
  refine behI (runVP (As := []) (rest := []) ⟨hx, hb, hml, hown, ht⟩ (pX10_hasHouse l G cs h q ) okV_RX10_152 ⟨by decide, by decide⟩ hK hP [0, 1, 2] rfl 0 rfl rfl hl.1 rfl (Nat.le_of_ble_eq_true rfl) dX10_quietly_1 ⟨by decide, by decide⟩) hP hS (fun _ h => h) (fun H locs hP hS => ?_)
  refine lv_if_eq (tgt := 15) hx hb dX10_quietly_4 (by decide) (fun c2 => ?_) (fun c1 => False.elim (by revert c1; decide))
  refine lv_bipush (v := (-2)) hx hb dX10_quietly_15 (by decide) ?_
  exact retPi hx hb hr hlk hS dX10_quietly_17 (rfl)

set_option maxRecDepth 100000 in
set_option maxHeartbeats 4000000 in
theorem pX10_card (l : Launch) (G : va_G) (cs : Nat → ClassId) (h : Nat) (q : Nat → Nat) (a1 : Int32) (a2 : Int32) : PureI l yX10_card cX10_card 3 (some .int) 2 G (TY cs) [.ref h, .int a1, .int a2] [(xc0 cs h q), (xc12 cs h q), (xc13 cs h q)] (-2) := by
  refine mkP (Qc := QPi (-2)) (by decide) (by simp [lg_sl, Value.category]) ?_
  intro p e s m args below meth c ls hx hb hml hr hlk hown ht hK hP hS hl
  have hl : lv_has ls 3 [(0, .ref h), (1, .int a1), (2, .int a2)] := hl
  refine lv_aload_n hx hb dX10_card_0 rfl (lv_at hl 0 rfl) ?_
  refine lv_iload_n hx hb dX10_card_1 rfl (lv_at hl 1 rfl) ?_
  refine behI (runVP (As := [.int a1]) (rest := []) ⟨hx, hb, hml, hown, ht⟩ (pX10_isRoom l G cs h q a1) okV_RX10_120 ⟨by decide, by decide⟩ hK hP [0, 1, 2] rfl 0 rfl rfl hl.1 rfl (Nat.le_of_ble_eq_true rfl) dX10_card_2 ⟨by decide, by decide⟩) hP hS (fun _ h => h) (fun H locs hP hS => ?_)
  refine lv_if_eq (tgt := 19) hx hb dX10_card_5 (by decide) (fun c2 => ?_) (fun c1 => False.elim (by revert c1; decide))
  refine lv_bipush (v := (-2)) hx hb dX10_card_19 (by decide) ?_
  exact retPi hx hb hr hlk hS dX10_card_21 (rfl)

set_option maxRecDepth 100000 in
set_option maxHeartbeats 4000000 in
theorem pX10_desk (l : Launch) (G : va_G) (cs : Nat → ClassId) (h : Nat) (q : Nat → Nat) (a1 : Int32) : PureI l yX10_desk cX10_desk 6 (some .int) 0 G (TY cs) [.ref h, .int a1] [(xc0 cs h q), (xc12 cs h q), (xc13 cs h q)] (-2) := by
  refine mkP (Qc := QPi (-2)) (by decide) (by simp [lg_sl, Value.category]) ?_
  intro p e s m args below meth c ls hx hb hml hr hlk hown ht hK hP hS hl
  have hl : lv_has ls 6 [(0, .ref h), (1, .int a1)] := hl
  refine lv_aload_n hx hb dX10_desk_0 rfl (lv_at hl 0 rfl) ?_
  refine getF hx hb ht hown hK hP iTX10 0 3 rfl rfl (by decide) fl_RX10_31 rfl dX10_desk_1 ?_
  refine getF hx hb ht hown hK hP iTX8 1 0 rfl rfl (by decide) fl_RX10_98 rfl dX10_desk_4 ?_
  refine getF hx hb ht hown hK hP iTX3 2 5 rfl rfl (by decide) fl_RX10_159 rfl dX10_desk_7 ?_
  refine lv_iconst (v := 1) hx hb dX10_desk_10 (by decide) ?_
  refine lv_icmp_lt (tgt := 25) hx hb dX10_desk_11 (by decide) (fun c2 => ?_) (fun c1 => False.elim (by revert c1; decide))
  refine lv_bipush (v := (-2)) hx hb dX10_desk_25 (by decide) ?_
  exact retPi hx hb hr hlk hS dX10_desk_27 (rfl)

set_option maxRecDepth 100000 in
set_option maxHeartbeats 4000000 in
theorem pX10_one (l : Launch) (G : va_G) (cs : Nat → ClassId) (h : Nat) (q : Nat → Nat) (a1 : Int32) : PureI l yX10_one cX10_one 2 (some .int) 2 G (TY cs) [.ref h, .int a1] [(xc0 cs h q), (xc12 cs h q), (xc13 cs h q)] (-2) := by
  refine mkP (Qc := QPi (-2)) (by decide) (by simp [lg_sl, Value.category]) ?_
  intro p e s m args below meth c ls hx hb hml hr hlk hown ht hK hP hS hl
  have hl : lv_has ls 2 [(0, .ref h), (1, .int a1)] := hl
  refine lv_aload_n hx hb dX10_one_0 rfl (lv_at hl 0 rfl) ?_
  refine lv_iload_n hx hb dX10_one_1 rfl (lv_at hl 1 rfl) ?_
  refine behI (runVP (As := [.int a1]) (rest := []) ⟨hx, hb, hml, hown, ht⟩ (pX10_isRoom l G cs h q a1) okV_RX10_120 ⟨by decide, by decide⟩ hK hP [0, 1, 2] rfl 0 rfl rfl hl.1 rfl (Nat.le_of_ble_eq_true rfl) dX10_one_2 ⟨by decide, by decide⟩) hP hS (fun _ h => h) (fun H locs hP hS => ?_)
  refine lv_if_ne (tgt := 11) hx hb dX10_one_5 (by decide) (fun c1 => False.elim (by revert c1; decide)) (fun c2 => ?_)
  refine lv_bipush (v := (-2)) hx hb dX10_one_8 (by decide) ?_
  exact retPi hx hb hr hlk hS dX10_one_10 (rfl)

set_option maxRecDepth 100000 in
set_option maxHeartbeats 4000000 in
theorem pX10_two (l : Launch) (G : va_G) (cs : Nat → ClassId) (h : Nat) (q : Nat → Nat) (a1 : Int32) (a2 : Int32) : PureI l yX10_two cX10_two 3 (some .int) 2 G (TY cs) [.ref h, .int a1, .int a2] [(xc0 cs h q), (xc12 cs h q), (xc13 cs h q)] (-2) := by
  refine mkP (Qc := QPi (-2)) (by decide) (by simp [lg_sl, Value.category]) ?_
  intro p e s m args below meth c ls hx hb hml hr hlk hown ht hK hP hS hl
  have hl : lv_has ls 3 [(0, .ref h), (1, .int a1), (2, .int a2)] := hl
  refine lv_aload_n hx hb dX10_two_0 rfl (lv_at hl 0 rfl) ?_
  refine lv_iload_n hx hb dX10_two_1 rfl (lv_at hl 1 rfl) ?_
  refine behI (runVP (As := [.int a1]) (rest := []) ⟨hx, hb, hml, hown, ht⟩ (pX10_isRoom l G cs h q a1) okV_RX10_120 ⟨by decide, by decide⟩ hK hP [0, 1, 2] rfl 0 rfl rfl hl.1 rfl (Nat.le_of_ble_eq_true rfl) dX10_two_2 ⟨by decide, by decide⟩) hP hS (fun _ h => h) (fun H locs hP hS => ?_)
  refine lv_if_eq (tgt := 16) hx hb dX10_two_5 (by decide) (fun c2 => ?_) (fun c1 => False.elim (by revert c1; decide))
  refine lv_bipush (v := (-2)) hx hb dX10_two_16 (by decide) ?_
  exact retPi hx hb hr hlk hS dX10_two_18 (rfl)

set_option maxRecDepth 100000 in
set_option maxHeartbeats 4000000 in
theorem pX10_way (l : Launch) (G : va_G) (cs : Nat → ClassId) (h : Nat) (q : Nat → Nat) (a1 : Int32) (a2 : Int32) (a3 : Int32) (a4 : Int32) : PureI l yX10_way cX10_way 5 (some .int) 2 G (TY cs) [.ref h, .int a1, .int a2, .int a3, .int a4] [(xc0 cs h q), (xc12 cs h q), (xc13 cs h q)] (-2) := by
  refine mkP (Qc := QPi (-2)) (by decide) (by simp [lg_sl, Value.category]) ?_
  intro p e s m args below meth c ls hx hb hml hr hlk hown ht hK hP hS hl
  have hl : lv_has ls 5 [(0, .ref h), (1, .int a1), (2, .int a2), (3, .int a3), (4, .int a4)] := hl
  refine lv_aload_n hx hb dX10_way_0 rfl (lv_at hl 0 rfl) ?_
  refine lv_iload_n hx hb dX10_way_1 rfl (lv_at hl 1 rfl) ?_
  refine behI (runVP (As := [.int a1]) (rest := []) ⟨hx, hb, hml, hown, ht⟩ (pX10_isRoom l G cs h q a1) okV_RX10_120 ⟨by decide, by decide⟩ hK hP [0, 1, 2] rfl 0 rfl rfl hl.1 rfl (Nat.le_of_ble_eq_true rfl) dX10_way_2 ⟨by decide, by decide⟩) hP hS (fun _ h => h) (fun H locs hP hS => ?_)
  refine lv_if_eq (tgt := 25) hx hb dX10_way_5 (by decide) (fun c2 => ?_) (fun c1 => False.elim (by revert c1; decide))
  refine lv_bipush (v := (-2)) hx hb dX10_way_25 (by decide) ?_
  exact retPi hx hb hr hlk hS dX10_way_27 (rfl)

set_option maxRecDepth 100000 in
set_option maxHeartbeats 4000000 in
theorem pX10_slips (l : Launch) (G : va_G) (cs : Nat → ClassId) (h : Nat) (q : Nat → Nat) (a1 : Int32) (a2 : Int32) : PureI l yX10_slips cX10_slips 9 (some .int) 3 G (TY cs) [.ref h, .int a1, .int a2] [(xc0 cs h q), (xc12 cs h q), (xc13 cs h q)] (-2) := by
  refine mkP (Qc := QPi (-2)) (by decide) (by simp [lg_sl, Value.category]) ?_
  intro p e s m args below meth c ls hx hb hml hr hlk hown ht hK hP hS hl
  have hl : lv_has ls 9 [(0, .ref h), (1, .int a1), (2, .int a2)] := hl
  refine lv_aload_n hx hb dX10_slips_0 rfl (lv_at hl 0 rfl) ?_
  refine lv_iload_n hx hb dX10_slips_1 rfl (lv_at hl 1 rfl) ?_
  refine lv_aload_n hx hb dX10_slips_2 rfl (lv_at hl 0 rfl) ?_
  refine lv_iload_n hx hb dX10_slips_3 rfl (lv_at hl 2 rfl) ?_
  refine behI (runVP (As := [.int a2]) (rest := [.int a1, .ref h]) ⟨hx, hb, hml, hown, ht⟩ (pX10_isRoom l G cs h q a2) okV_RX10_120 ⟨by decide, by decide⟩ hK hP [0, 1, 2] rfl 0 rfl rfl hl.1 rfl (Nat.le_of_ble_eq_true rfl) dX10_slips_4 ⟨by decide, by decide⟩) hP hS (fun _ h => h) (fun H locs hP hS => ?_)
  refine behI (runVP (As := [.int a1, .int 0]) (rest := []) ⟨hx, hb, hml, hown, ht⟩ (pX10_askRound l G cs h q a1 0) okV_RX10_186 ⟨by decide, by decide⟩ hK hP [0, 1, 2] rfl 0 rfl rfl hl.1 rfl (Nat.le_of_ble_eq_true rfl) dX10_slips_7 ⟨by decide, by decide⟩) hP hS (fun _ h => h) (fun H locs hP hS => ?_)
  refine lv_istore_n (lv' := [(3, .int (-2)), (0, .ref h), (1, .int a1), (2, .int a2)]) hx hb dX10_slips_10 rfl hl (by decide) rfl (fun ls hl => ?_)
  refine lv_iload_n hx hb dX10_slips_11 rfl (lv_at hl 0 rfl) ?_
  refine lv_if_eq (tgt := 17) hx hb dX10_slips_12 (by decide) (fun c1 => False.elim (by revert c1; decide)) (fun c2 => ?_)
  refine lv_iload_n hx hb dX10_slips_15 rfl (lv_at hl 0 rfl) ?_
  exact retPi hx hb hr hlk hS dX10_slips_16 (rfl)

set_option maxRecDepth 100000 in
set_option maxHeartbeats 4000000 in
theorem pX10_boys (l : Launch) (G : va_G) (cs : Nat → ClassId) (h : Nat) (q : Nat → Nat)  : PureI l yX10_boys cX10_boys 2 (some .int) 0 G (TY cs) [.ref h] [(xc0 cs h q), (xc12 cs h q), (xc13 cs h q)] (-2) := by
  refine mkP (Qc := QPi (-2)) (by decide) (by simp [lg_sl, Value.category]) ?_
  intro p e s m args below meth c ls hx hb hml hr hlk hown ht hK hP hS hl
  have hl : lv_has ls 2 [(0, .ref h)] := hl
  refine lv_aload_n hx hb dX10_boys_0 rfl (lv_at hl 0 rfl) ?_
  refine getF hx hb ht hown hK hP iTX10 0 3 rfl rfl (by decide) fl_RX10_31 rfl dX10_boys_1 ?_
  refine getF hx hb ht hown hK hP iTX8 1 0 rfl rfl (by decide) fl_RX10_98 rfl dX10_boys_4 ?_
  refine getF hx hb ht hown hK hP iTX3 2 5 rfl rfl (by decide) fl_RX10_159 rfl dX10_boys_7 ?_
  refine lv_iconst (v := 1) hx hb dX10_boys_10 (by decide) ?_
  refine lv_icmp_ge (tgt := 17) hx hb dX10_boys_11 (by decide) (fun c1 => False.elim (by revert c1; decide)) (fun c2 => ?_)
  refine lv_bipush (v := (-2)) hx hb dX10_boys_14 (by decide) ?_
  exact retPi hx hb hr hlk hS dX10_boys_16 (rfl)

set_option maxRecDepth 100000 in
set_option maxHeartbeats 4000000 in
theorem pX10_pairs (l : Launch) (G : va_G) (cs : Nat → ClassId) (h : Nat) (q : Nat → Nat)  : PureI l yX10_pairs cX10_pairs 1 (some .int) 0 G (TY cs) [.ref h] [(xc0 cs h q), (xc12 cs h q), (xc13 cs h q)] (-2) := by
  refine mkP (Qc := QPi (-2)) (by decide) (by simp [lg_sl, Value.category]) ?_
  intro p e s m args below meth c ls hx hb hml hr hlk hown ht hK hP hS hl
  have hl : lv_has ls 1 [(0, .ref h)] := hl
  refine lv_aload_n hx hb dX10_pairs_0 rfl (lv_at hl 0 rfl) ?_
  refine getF hx hb ht hown hK hP iTX10 0 3 rfl rfl (by decide) fl_RX10_31 rfl dX10_pairs_1 ?_
  refine getF hx hb ht hown hK hP iTX8 1 0 rfl rfl (by decide) fl_RX10_98 rfl dX10_pairs_4 ?_
  refine getF hx hb ht hown hK hP iTX3 2 5 rfl rfl (by decide) fl_RX10_159 rfl dX10_pairs_7 ?_
  refine lv_iconst (v := 1) hx hb dX10_pairs_10 (by decide) ?_
  refine lv_icmp_ge (tgt := 19) hx hb dX10_pairs_11 (by decide) (fun c1 => False.elim (by revert c1; decide)) (fun c2 => ?_)
  refine lv_bipush (v := (-2)) hx hb dX10_pairs_14 (by decide) ?_
  refine lv_goto (tgt := 33) hx hb dX10_pairs_16 (by decide) ?_
  exact retPi hx hb hr hlk hS dX10_pairs_33 (rfl)

set_option maxRecDepth 100000 in
set_option maxHeartbeats 4000000 in
theorem pX10_which (l : Launch) (G : va_G) (cs : Nat → ClassId) (h : Nat) (q : Nat → Nat) (a1 : Int32) : PureI l yX10_which cX10_which 2 (some .int) 1 G (TY cs) [.ref h, .int a1] [(xc0 cs h q), (xc12 cs h q), (xc13 cs h q)] (-2) := by
  refine mkP (Qc := QPi (-2)) (by decide) (by simp [lg_sl, Value.category]) ?_
  intro p e s m args below meth c ls hx hb hml hr hlk hown ht hK hP hS hl
  have hl : lv_has ls 2 [(0, .ref h), (1, .int a1)] := hl
  refine lv_aload_n hx hb dX10_which_0 rfl (lv_at hl 0 rfl) ?_
  refine lv_iload_n hx hb dX10_which_1 rfl (lv_at hl 1 rfl) ?_
  refine behI (runVP (As := [.int a1]) (rest := []) ⟨hx, hb, hml, hown, ht⟩ (pX10_isSet l G cs h q a1) okV_RX10_267 ⟨by decide, by decide⟩ hK hP [0, 1, 2] rfl 0 rfl rfl hl.1 rfl (Nat.le_of_ble_eq_true rfl) dX10_which_2 ⟨by decide, by decide⟩) hP hS (fun _ h => h) (fun H locs hP hS => ?_)
  refine lv_if_eq (tgt := 26) hx hb dX10_which_5 (by decide) (fun c2 => ?_) (fun c1 => False.elim (by revert c1; decide))
  refine lv_bipush (v := (-2)) hx hb dX10_which_26 (by decide) ?_
  exact retPi hx hb hr hlk hS dX10_which_28 (rfl)

set_option maxRecDepth 100000 in
set_option maxHeartbeats 4000000 in
theorem pX10_question (l : Launch) (G : va_G) (cs : Nat → ClassId) (h : Nat) (q : Nat → Nat) (a1 : Int32) : PureI l yX10_question cX10_question 2 (some .int) 1 G (TY cs) [.ref h, .int a1] [(xc0 cs h q), (xc12 cs h q), (xc13 cs h q)] (-2) := by
  refine mkP (Qc := QPi (-2)) (by decide) (by simp [lg_sl, Value.category]) ?_
  intro p e s m args below meth c ls hx hb hml hr hlk hown ht hK hP hS hl
  have hl : lv_has ls 2 [(0, .ref h), (1, .int a1)] := hl
  refine lv_aload_n hx hb dX10_question_0 rfl (lv_at hl 0 rfl) ?_
  refine lv_iload_n hx hb dX10_question_1 rfl (lv_at hl 1 rfl) ?_
  refine behI (runVP (As := [.int a1]) (rest := []) ⟨hx, hb, hml, hown, ht⟩ (pX10_isSet l G cs h q a1) okV_RX10_267 ⟨by decide, by decide⟩ hK hP [0, 1, 2] rfl 0 rfl rfl hl.1 rfl (Nat.le_of_ble_eq_true rfl) dX10_question_2 ⟨by decide, by decide⟩) hP hS (fun _ h => h) (fun H locs hP hS => ?_)
  refine lv_if_eq (tgt := 26) hx hb dX10_question_5 (by decide) (fun c2 => ?_) (fun c1 => False.elim (by revert c1; decide))
  refine lv_bipush (v := (-2)) hx hb dX10_question_26 (by decide) ?_
  exact retPi hx hb hr hlk hS dX10_question_28 (rfl)

set_option maxRecDepth 100000 in
set_option maxHeartbeats 4000000 in
theorem pX10_yes (l : Launch) (G : va_G) (cs : Nat → ClassId) (h : Nat) (q : Nat → Nat) (a1 : Int32) (a2 : Int32) : PureI l yX10_yes cX10_yes 3 (some .int) 1 G (TY cs) [.ref h, .int a1, .int a2] [(xc0 cs h q), (xc12 cs h q), (xc13 cs h q)] (-2) := by
  refine mkP (Qc := QPi (-2)) (by decide) (by simp [lg_sl, Value.category]) ?_
  intro p e s m args below meth c ls hx hb hml hr hlk hown ht hK hP hS hl
  have hl : lv_has ls 3 [(0, .ref h), (1, .int a1), (2, .int a2)] := hl
  refine lv_aload_n hx hb dX10_yes_0 rfl (lv_at hl 0 rfl) ?_
  refine lv_iload_n hx hb dX10_yes_1 rfl (lv_at hl 1 rfl) ?_
  refine behI (runVP (As := [.int a1]) (rest := []) ⟨hx, hb, hml, hown, ht⟩ (pX10_isSet l G cs h q a1) okV_RX10_267 ⟨by decide, by decide⟩ hK hP [0, 1, 2] rfl 0 rfl rfl hl.1 rfl (Nat.le_of_ble_eq_true rfl) dX10_yes_2 ⟨by decide, by decide⟩) hP hS (fun _ h => h) (fun H locs hP hS => ?_)
  refine lv_if_eq (tgt := 18) hx hb dX10_yes_5 (by decide) (fun c2 => ?_) (fun c1 => False.elim (by revert c1; decide))
  refine lv_bipush (v := (-2)) hx hb dX10_yes_18 (by decide) ?_
  exact retPi hx hb hr hlk hS dX10_yes_20 (rfl)

set_option maxRecDepth 100000 in
set_option maxHeartbeats 4000000 in
theorem pX10_list (l : Launch) (G : va_G) (cs : Nat → ClassId) (h : Nat) (q : Nat → Nat) (a1 : Int32) : PureI l yX10_list cX10_list 2 (some .int) 1 G (TY cs) [.ref h, .int a1] [(xc0 cs h q), (xc12 cs h q), (xc13 cs h q)] (-2) := by
  refine mkP (Qc := QPi (-2)) (by decide) (by simp [lg_sl, Value.category]) ?_
  intro p e s m args below meth c ls hx hb hml hr hlk hown ht hK hP hS hl
  have hl : lv_has ls 2 [(0, .ref h), (1, .int a1)] := hl
  refine lv_aload_n hx hb dX10_list_0 rfl (lv_at hl 0 rfl) ?_
  refine lv_iload_n hx hb dX10_list_1 rfl (lv_at hl 1 rfl) ?_
  refine behI (runVP (As := [.int a1]) (rest := []) ⟨hx, hb, hml, hown, ht⟩ (pX10_isSet l G cs h q a1) okV_RX10_267 ⟨by decide, by decide⟩ hK hP [0, 1, 2] rfl 0 rfl rfl hl.1 rfl (Nat.le_of_ble_eq_true rfl) dX10_list_2 ⟨by decide, by decide⟩) hP hS (fun _ h => h) (fun H locs hP hS => ?_)
  refine lv_if_eq (tgt := 26) hx hb dX10_list_5 (by decide) (fun c2 => ?_) (fun c1 => False.elim (by revert c1; decide))
  refine lv_bipush (v := (-2)) hx hb dX10_list_26 (by decide) ?_
  exact retPi hx hb hr hlk hS dX10_list_28 (rfl)

set_option maxRecDepth 100000 in
set_option maxHeartbeats 4000000 in
theorem pX10_meant (l : Launch) (G : va_G) (cs : Nat → ClassId) (h : Nat) (q : Nat → Nat) (a1 : Int32) (a2 : Int32) (a3 : Int32) : PureI l yX10_meant cX10_meant 6 (some .int) 1 G (TY cs) [.ref h, .int a1, .int a2, .int a3] [(xc0 cs h q), (xc12 cs h q), (xc13 cs h q)] (-2) := by
  refine mkP (Qc := QPi (-2)) (by decide) (by simp [lg_sl, Value.category]) ?_
  intro p e s m args below meth c ls hx hb hml hr hlk hown ht hK hP hS hl
  have hl : lv_has ls 6 [(0, .ref h), (1, .int a1), (2, .int a2), (3, .int a3)] := hl
  refine lv_aload_n hx hb dX10_meant_0 rfl (lv_at hl 0 rfl) ?_
  refine lv_iload_n hx hb dX10_meant_1 rfl (lv_at hl 1 rfl) ?_
  refine behI (runVP (As := [.int a1]) (rest := []) ⟨hx, hb, hml, hown, ht⟩ (pX10_isSet l G cs h q a1) okV_RX10_267 ⟨by decide, by decide⟩ hK hP [0, 1, 2] rfl 0 rfl rfl hl.1 rfl (Nat.le_of_ble_eq_true rfl) dX10_meant_2 ⟨by decide, by decide⟩) hP hS (fun _ h => h) (fun H locs hP hS => ?_)
  refine lv_if_eq (tgt := 33) hx hb dX10_meant_5 (by decide) (fun c2 => ?_) (fun c1 => False.elim (by revert c1; decide))
  refine lv_bipush (v := (-2)) hx hb dX10_meant_33 (by decide) ?_
  exact retPi hx hb hr hlk hS dX10_meant_35 (rfl)

set_option maxRecDepth 100000 in
set_option maxHeartbeats 4000000 in
theorem pX10_read (l : Launch) (G : va_G) (cs : Nat → ClassId) (h : Nat) (q : Nat → Nat) (a1 : Int32) (a2 : Int32) (a3 : Int32) : PureL l yX10_read cX10_read 4 (some .long) 1 G (TY cs) [.ref h, .int a1, .int a2, .int a3] [(xc0 cs h q), (xc12 cs h q), (xc13 cs h q)] (-2) := by
  refine mkP (Qc := QPl (-2)) (by decide) (by simp [lg_sl, Value.category]) ?_
  intro p e s m args below meth c ls hx hb hml hr hlk hown ht hK hP hS hl
  have hl : lv_has ls 4 [(0, .ref h), (1, .int a1), (2, .int a2), (3, .int a3)] := hl
  refine lv_aload_n hx hb dX10_read_0 rfl (lv_at hl 0 rfl) ?_
  refine lv_iload_n hx hb dX10_read_1 rfl (lv_at hl 1 rfl) ?_
  refine behI (runVP (As := [.int a1]) (rest := []) ⟨hx, hb, hml, hown, ht⟩ (pX10_isMan l G cs h q a1) okV_RX10_128 ⟨by decide, by decide⟩ hK hP [0, 1, 2] rfl 0 rfl rfl hl.1 rfl (Nat.le_of_ble_eq_true rfl) dX10_read_2 ⟨by decide, by decide⟩) hP hS (fun _ h => h) (fun H locs hP hS => ?_)
  refine lv_if_eq (tgt := 25) hx hb dX10_read_5 (by decide) (fun c2 => ?_) (fun c1 => False.elim (by revert c1; decide))
  refine lv_ldc2 hx hb hown (ht _ kl_RX10_289) dX10_read_25 ?_
  exact retPl hx hb hr hlk hS dX10_read_28 (rfl)

