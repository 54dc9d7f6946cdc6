set_option maxRecDepth 100000 in
set_option maxHeartbeats 4000000 in
theorem pX10_guess (l : Launch) (G : va_G) (cs : Nat → ClassId) (h : Nat) (q : Nat → Nat) (a1 : Int32) : PureI l yX10_guess cX10_guess 8 (some .int) 1 G (TY cs) [.ref h, .int a1] [(xc0 cs h q), (xc12 cs h q), (xc13 cs h q)] (-2) := by
  refine mkP (Qc := QPi (-2)) (by decide) (by simp [lg_sl, Value.category]) ?_
  intro p e s m args below meth c ls hx hb hml hr hlk hown ht hK hP hS hl
  have hl : lv_has ls 8 [(0, .ref h), (1, .int a1)] := hl
  refine lv_aload_n hx hb dX10_guess_0 rfl (lv_at hl 0 rfl) ?_
  refine lv_iload_n hx hb dX10_guess_1 rfl (lv_at hl 1 rfl) ?_
  refine behI (runVP (As := [.int a1]) (rest := []) ⟨hx, hb, hml, hown, ht⟩ (pX10_isMan l G cs h q a1) okV_RX10_128 ⟨by decide, by decide⟩ hK hP [0, 1, 2] rfl 0 rfl rfl hl.1 rfl (Nat.le_of_ble_eq_true rfl) dX10_guess_2 ⟨by decide, by decide⟩) hP hS (fun _ h => h) (fun H locs hP hS => ?_)
  refine lv_if_ne (tgt := 11) hx hb dX10_guess_5 (by decide) (fun c1 => False.elim (by revert c1; decide)) (fun c2 => ?_)
  refine lv_bipush (v := (-2)) hx hb dX10_guess_8 (by decide) ?_
  exact retPi hx hb hr hlk hS dX10_guess_10 (rfl)

set_option maxRecDepth 100000 in
set_option maxHeartbeats 4000000 in
theorem pX10_right (l : Launch) (G : va_G) (cs : Nat → ClassId) (h : Nat) (q : Nat → Nat) (a1 : Int32) : PureL l yX10_right cX10_right 7 (some .long) 0 G (TY cs) [.ref h, .int a1] [(xc0 cs h q), (xc12 cs h q), (xc13 cs h q)] (-2) := by
  refine mkP (Qc := QPl (-2)) (by decide) (by simp [lg_sl, Value.category]) ?_
  intro p e s m args below meth c ls hx hb hml hr hlk hown ht hK hP hS hl
  have hl : lv_has ls 7 [(0, .ref h), (1, .int a1)] := hl
  refine lv_aload_n hx hb dX10_right_0 rfl (lv_at hl 0 rfl) ?_
  refine getF hx hb ht hown hK hP iTX10 0 3 rfl rfl (by decide) fl_RX10_31 rfl dX10_right_1 ?_
  refine getF hx hb ht hown hK hP iTX8 1 0 rfl rfl (by decide) fl_RX10_98 rfl dX10_right_4 ?_
  refine getF hx hb ht hown hK hP iTX3 2 6 rfl rfl (by decide) fl_RX10_283 rfl dX10_right_7 ?_
  refine lv_iconst (v := 1) hx hb dX10_right_10 (by decide) ?_
  refine lv_icmp_lt (tgt := 23) hx hb dX10_right_11 (by decide) (fun c2 => ?_) (fun c1 => False.elim (by revert c1; decide))
  refine lv_ldc2 hx hb hown (ht _ kl_RX10_289) dX10_right_23 ?_
  exact retPl hx hb hr hlk hS dX10_right_26 (rfl)

set_option maxRecDepth 100000 in
set_option maxHeartbeats 4000000 in
theorem pX10_habit (l : Launch) (G : va_G) (cs : Nat → ClassId) (h : Nat) (q : Nat → Nat) (a1 : Int32) : PureI l yX10_habit cX10_habit 3 (some .int) 3 G (TY cs) [.ref h, .int a1] [(xc0 cs h q), (xc12 cs h q), (xc13 cs h q)] (-2) := by
  refine mkP (Qc := QPi (-2)) (by decide) (by simp [lg_sl, Value.category]) ?_
  intro p e s m args below meth c ls hx hb hml hr hlk hown ht hK hP hS hl
  have hl : lv_has ls 3 [(0, .ref h), (1, .int a1)] := hl
  refine lv_aload_n hx hb dX10_habit_0 rfl (lv_at hl 0 rfl) ?_
  refine lv_iload_n hx hb dX10_habit_1 rfl (lv_at hl 1 rfl) ?_
  refine lv_iconst (v := 1) hx hb dX10_habit_2 (by decide) ?_
  refine behI (runVP (As := [.int a1, .int 1]) (rest := []) ⟨hx, hb, hml, hown, ht⟩ (pX10_askHabits l G cs h q a1 1) okV_RX10_299 ⟨by decide, by decide⟩ hK hP [0, 1, 2] rfl 0 rfl rfl hl.1 rfl (Nat.le_of_ble_eq_true rfl) dX10_habit_3 ⟨by decide, by decide⟩) hP hS (fun _ h => h) (fun H locs hP hS => ?_)
  refine lv_istore_n (lv' := [(2, .int (-2)), (0, .ref h), (1, .int a1)]) hx hb dX10_habit_6 rfl hl (by decide) rfl (fun ls hl => ?_)
  refine lv_iload_n hx hb dX10_habit_7 rfl (lv_at hl 0 rfl) ?_
  refine lv_if_eq (tgt := 13) hx hb dX10_habit_8 (by decide) (fun c1 => False.elim (by revert c1; decide)) (fun c2 => ?_)
  refine lv_iload_n hx hb dX10_habit_11 rfl (lv_at hl 0 rfl) ?_
  exact retPi hx hb hr hlk hS dX10_habit_12 (rfl)

set_option maxRecDepth 100000 in
set_option maxHeartbeats 4000000 in
theorem pX10_follows (l : Launch) (G : va_G) (cs : Nat → ClassId) (h : Nat) (q : Nat → Nat) (a1 : Int32) (a2 : Int32) : PureI l yX10_follows cX10_follows 4 (some .int) 3 G (TY cs) [.ref h, .int a1, .int a2] [(xc0 cs h q), (xc12 cs h q), (xc13 cs h q)] (-2) := by
  refine mkP (Qc := QPi (-2)) (by decide) (by simp [lg_sl, Value.category]) ?_
  intro p e s m args below meth c ls hx hb hml hr hlk hown ht hK hP hS hl
  have hl : lv_has ls 4 [(0, .ref h), (1, .int a1), (2, .int a2)] := hl
  refine lv_aload_n hx hb dX10_follows_0 rfl (lv_at hl 0 rfl) ?_
  refine lv_iload_n hx hb dX10_follows_1 rfl (lv_at hl 1 rfl) ?_
  refine lv_aload_n hx hb dX10_follows_2 rfl (lv_at hl 0 rfl) ?_
  refine lv_iload_n hx hb dX10_follows_3 rfl (lv_at hl 2 rfl) ?_
  refine behI (runVP (As := [.int a2]) (rest := [.int a1, .ref h]) ⟨hx, hb, hml, hown, ht⟩ (pX10_isRoom l G cs h q a2) okV_RX10_120 ⟨by decide, by decide⟩ hK hP [0, 1, 2] rfl 0 rfl rfl hl.1 rfl (Nat.le_of_ble_eq_true rfl) dX10_follows_4 ⟨by decide, by decide⟩) hP hS (fun _ h => h) (fun H locs hP hS => ?_)
  refine behI (runVP (As := [.int a1, .int 0]) (rest := []) ⟨hx, hb, hml, hown, ht⟩ (pX10_askHabits l G cs h q a1 0) okV_RX10_299 ⟨by decide, by decide⟩ hK hP [0, 1, 2] rfl 0 rfl rfl hl.1 rfl (Nat.le_of_ble_eq_true rfl) dX10_follows_7 ⟨by decide, by decide⟩) hP hS (fun _ h => h) (fun H locs hP hS => ?_)
  refine lv_istore_n (lv' := [(3, .int (-2)), (0, .ref h), (1, .int a1), (2, .int a2)]) hx hb dX10_follows_10 rfl hl (by decide) rfl (fun ls hl => ?_)
  refine lv_iload_n hx hb dX10_follows_11 rfl (lv_at hl 0 rfl) ?_
  refine lv_if_eq (tgt := 17) hx hb dX10_follows_12 (by decide) (fun c1 => False.elim (by revert c1; decide)) (fun c2 => ?_)
  refine lv_iload_n hx hb dX10_follows_15 rfl (lv_at hl 0 rfl) ?_
  exact retPi hx hb hr hlk hS dX10_follows_16 (rfl)

set_option maxRecDepth 100000 in
set_option maxHeartbeats 4000000 in
theorem pX10_period (l : Launch) (G : va_G) (cs : Nat → ClassId) (h : Nat) (q : Nat → Nat) (a1 : Int32) : PureI l yX10_period cX10_period 5 (some .int) 3 G (TY cs) [.ref h, .int a1] [(xc0 cs h q), (xc12 cs h q), (xc13 cs h q)] (-2) := by
  refine mkP (Qc := QPi (-2)) (by decide) (by simp [lg_sl, Value.category]) ?_
  intro p e s m args below meth c ls hx hb hml hr hlk hown ht hK hP hS hl
  have hl : lv_has ls 5 [(0, .ref h), (1, .int a1)] := hl
  refine lv_aload_n hx hb dX10_period_0 rfl (lv_at hl 0 rfl) ?_
  refine lv_iload_n hx hb dX10_period_1 rfl (lv_at hl 1 rfl) ?_
  refine lv_iconst (v := 1) hx hb dX10_period_2 (by decide) ?_
  refine behI (runVP (As := [.int a1, .int 1]) (rest := []) ⟨hx, hb, hml, hown, ht⟩ (pX10_askHabits l G cs h q a1 1) okV_RX10_299 ⟨by decide, by decide⟩ hK hP [0, 1, 2] rfl 0 rfl rfl hl.1 rfl (Nat.le_of_ble_eq_true rfl) dX10_period_3 ⟨by decide, by decide⟩) hP hS (fun _ h => h) (fun H locs hP hS => ?_)
  refine lv_istore_n (lv' := [(2, .int (-2)), (0, .ref h), (1, .int a1)]) hx hb dX10_period_6 rfl hl (by decide) rfl (fun ls hl => ?_)
  refine lv_iload_n hx hb dX10_period_7 rfl (lv_at hl 0 rfl) ?_
  refine lv_if_eq (tgt := 13) hx hb dX10_period_8 (by decide) (fun c1 => False.elim (by revert c1; decide)) (fun c2 => ?_)
  refine lv_iload_n hx hb dX10_period_11 rfl (lv_at hl 0 rfl) ?_
  exact retPi hx hb hr hlk hS dX10_period_12 (rfl)

set_option maxRecDepth 100000 in
set_option maxHeartbeats 4000000 in
theorem pX10_drawn (l : Launch) (G : va_G) (cs : Nat → ClassId) (h : Nat) (q : Nat → Nat) (a1 : Int32) (a2 : Int32) (a3 : Int32) : PureI l yX10_drawn cX10_drawn 5 (some .int) 3 G (TY cs) [.ref h, .int a1, .int a2, .int a3] [(xc0 cs h q), (xc12 cs h q), (xc13 cs h q)] (-2) := by
  refine mkP (Qc := QPi (-2)) (by decide) (by simp [lg_sl, Value.category]) ?_
  intro p e s m args below meth c ls hx hb hml hr hlk hown ht hK hP hS hl
  have hl : lv_has ls 5 [(0, .ref h), (1, .int a1), (2, .int a2), (3, .int a3)] := hl
  refine lv_aload_n hx hb dX10_drawn_0 rfl (lv_at hl 0 rfl) ?_
  refine lv_iload_n hx hb dX10_drawn_1 rfl (lv_at hl 2 rfl) ?_
  refine lv_aload_n hx hb dX10_drawn_2 rfl (lv_at hl 0 rfl) ?_
  refine lv_iload_n hx hb dX10_drawn_3 rfl (lv_at hl 1 rfl) ?_
  refine behI (runVP (As := [.int a1]) (rest := [.int a2, .ref h]) ⟨hx, hb, hml, hown, ht⟩ (pX10_isSeed l G cs h q a1) okV_RX10_308 ⟨by decide, by decide⟩ hK hP [] rfl 0 rfl rfl hl.1 rfl (Nat.le_of_ble_eq_true rfl) dX10_drawn_4 ⟨by decide, by decide⟩) hP hS (fun _ h => h) (fun H locs hP hS => ?_)
  refine lv_if_eq (tgt := 23) hx hb dX10_drawn_7 (by decide) (fun c1 => ?_) (fun c1 => ?_)
  · refine lv_iconst (v := 0) hx hb dX10_drawn_23 (by decide) ?_
    refine behI (runVP (As := [.int a2, .int 0]) (rest := []) ⟨hx, hb, hml, hown, ht⟩ (pX10_askRound l G cs h q a2 0) okV_RX10_186 ⟨by decide, by decide⟩ hK hP [0, 1, 2] rfl 0 rfl rfl hl.1 rfl (Nat.le_of_ble_eq_true rfl) dX10_drawn_24 ⟨by decide, by decide⟩) hP hS (fun _ h => h) (fun H locs hP hS => ?_)
    refine lv_istore (lv' := [(4, .int (-2)), (0, .ref h), (1, .int a1), (2, .int a2), (3, .int a3)]) hx hb dX10_drawn_27 hl (by decide) rfl (fun ls hl => ?_)
    refine lv_iload hx hb dX10_drawn_29 (lv_at hl 0 rfl) ?_
    refine lv_if_eq (tgt := 37) hx hb dX10_drawn_31 (by decide) (fun c2 => False.elim (by revert c2; decide)) (fun c3 => ?_)
    refine lv_iload hx hb dX10_drawn_34 (lv_at hl 0 rfl) ?_
    exact retPi hx hb hr hlk hS dX10_drawn_36 (rfl)
  · refine lv_iload_n hx hb dX10_drawn_10 rfl (lv_at hl 3 rfl) ?_
    refine lv_if_lt (tgt := 23) hx hb dX10_drawn_11 (by decide) (fun c4 => ?_) (fun c4 => ?_)
    · refine lv_iconst (v := 0) hx hb dX10_drawn_23 (by decide) ?_
      refine behI (runVP (As := [.int a2, .int 0]) (rest := []) ⟨hx, hb, hml, hown, ht⟩ (pX10_askRound l G cs h q a2 0) okV_RX10_186 ⟨by decide, by decide⟩ hK hP [0, 1, 2] rfl 0 rfl rfl hl.1 rfl (Nat.le_of_ble_eq_true rfl) dX10_drawn_24 ⟨by decide, by decide⟩) hP hS (fun _ h => h) (fun H locs hP hS => ?_)
      refine lv_istore (lv' := [(4, .int (-2)), (0, .ref h), (1, .int a1), (2, .int a2), (3, .int a3)]) hx hb dX10_drawn_27 hl (by decide) rfl (fun ls hl => ?_)
      refine lv_iload hx hb dX10_drawn_29 (lv_at hl 0 rfl) ?_
      refine lv_if_eq (tgt := 37) hx hb dX10_drawn_31 (by decide) (fun c5 => False.elim (by revert c5; decide)) (fun c6 => ?_)
      refine lv_iload hx hb dX10_drawn_34 (lv_at hl 0 rfl) ?_
      exact retPi hx hb hr hlk hS dX10_drawn_36 (rfl)
    · refine lv_iload_n hx hb dX10_drawn_14 rfl (lv_at hl 3 rfl) ?_
      refine lv_iconst (v := 1) hx hb dX10_drawn_15 (by decide) ?_
      refine lv_icmp_gt (tgt := 23) hx hb dX10_drawn_16 (by decide) (fun c7 => ?_) (fun c7 => ?_)
      · refine lv_iconst (v := 0) hx hb dX10_drawn_23 (by decide) ?_
        refine behI (runVP (As := [.int a2, .int 0]) (rest := []) ⟨hx, hb, hml, hown, ht⟩ (pX10_askRound l G cs h q a2 0) okV_RX10_186 ⟨by decide, by decide⟩ hK hP [0, 1, 2] rfl 0 rfl rfl hl.1 rfl (Nat.le_of_ble_eq_true rfl) dX10_drawn_24 ⟨by decide, by decide⟩) hP hS (fun _ h => h) (fun H locs hP hS => ?_)
        refine lv_istore (lv' := [(4, .int (-2)), (0, .ref h), (1, .int a1), (2, .int a2), (3, .int a3)]) hx hb dX10_drawn_27 hl (by decide) rfl (fun ls hl => ?_)
        refine lv_iload hx hb dX10_drawn_29 (lv_at hl 0 rfl) ?_
        refine lv_if_eq (tgt := 37) hx hb dX10_drawn_31 (by decide) (fun c8 => False.elim (by revert c8; decide)) (fun c9 => ?_)
        refine lv_iload hx hb dX10_drawn_34 (lv_at hl 0 rfl) ?_
        exact retPi hx hb hr hlk hS dX10_drawn_36 (rfl)
      · refine lv_iconst (v := 1) hx hb dX10_drawn_19 (by decide) ?_
        refine lv_goto (tgt := 24) hx hb dX10_drawn_20 (by decide) ?_
        refine behI (runVP (As := [.int a2, .int 1]) (rest := []) ⟨hx, hb, hml, hown, ht⟩ (pX10_askRound l G cs h q a2 1) okV_RX10_186 ⟨by decide, by decide⟩ hK hP [0, 1, 2] rfl 0 rfl rfl hl.1 rfl (Nat.le_of_ble_eq_true rfl) dX10_drawn_24 ⟨by decide, by decide⟩) hP hS (fun _ h => h) (fun H locs hP hS => ?_)
        refine lv_istore (lv' := [(4, .int (-2)), (0, .ref h), (1, .int a1), (2, .int a2), (3, .int a3)]) hx hb dX10_drawn_27 hl (by decide) rfl (fun ls hl => ?_)
        refine lv_iload hx hb dX10_drawn_29 (lv_at hl 0 rfl) ?_
        refine lv_if_eq (tgt := 37) hx hb dX10_drawn_31 (by decide) (fun c10 => False.elim (by revert c10; decide)) (fun c11 => ?_)
        refine lv_iload hx hb dX10_drawn_34 (lv_at hl 0 rfl) ?_
        exact retPi hx hb hr hlk hS dX10_drawn_36 (rfl)

set_option maxRecDepth 100000 in
set_option maxHeartbeats 4000000 in
theorem pX10_lot (l : Launch) (G : va_G) (cs : Nat → ClassId) (h : Nat) (q : Nat → Nat) (a1 : Int32) (a2 : Int32) (a3 : Int32) : PureI l yX10_lot cX10_lot 7 (some .int) 3 G (TY cs) [.ref h, .int a1, .int a2, .int a3] [(xc0 cs h q), (xc12 cs h q), (xc13 cs h q)] (-2) := by
  refine mkP (Qc := QPi (-2)) (by decide) (by simp [lg_sl, Value.category]) ?_
  intro p e s m args below meth c ls hx hb hml hr hlk hown ht hK hP hS hl
  have hl : lv_has ls 7 [(0, .ref h), (1, .int a1), (2, .int a2), (3, .int a3)] := hl
  refine lv_aload_n hx hb dX10_lot_0 rfl (lv_at hl 0 rfl) ?_
  refine lv_iload_n hx hb dX10_lot_1 rfl (lv_at hl 2 rfl) ?_
  refine lv_aload_n hx hb dX10_lot_2 rfl (lv_at hl 0 rfl) ?_
  refine lv_iload_n hx hb dX10_lot_3 rfl (lv_at hl 1 rfl) ?_
  refine behI (runVP (As := [.int a1]) (rest := [.int a2, .ref h]) ⟨hx, hb, hml, hown, ht⟩ (pX10_isSeed l G cs h q a1) okV_RX10_308 ⟨by decide, by decide⟩ hK hP [] rfl 0 rfl rfl hl.1 rfl (Nat.le_of_ble_eq_true rfl) dX10_lot_4 ⟨by decide, by decide⟩) hP hS (fun _ h => h) (fun H locs hP hS => ?_)
  refine lv_if_eq (tgt := 25) hx hb dX10_lot_7 (by decide) (fun c1 => ?_) (fun c1 => ?_)
  · refine lv_iconst (v := 0) hx hb dX10_lot_25 (by decide) ?_
    refine behI (runVP (As := [.int a2, .int 0]) (rest := []) ⟨hx, hb, hml, hown, ht⟩ (pX10_askRound l G cs h q a2 0) okV_RX10_186 ⟨by decide, by decide⟩ hK hP [0, 1, 2] rfl 0 rfl rfl hl.1 rfl (Nat.le_of_ble_eq_true rfl) dX10_lot_26 ⟨by decide, by decide⟩) hP hS (fun _ h => h) (fun H locs hP hS => ?_)
    refine lv_istore (lv' := [(4, .int (-2)), (0, .ref h), (1, .int a1), (2, .int a2), (3, .int a3)]) hx hb dX10_lot_29 hl (by decide) rfl (fun ls hl => ?_)
    refine lv_iload hx hb dX10_lot_31 (lv_at hl 0 rfl) ?_
    refine lv_if_eq (tgt := 39) hx hb dX10_lot_33 (by decide) (fun c2 => False.elim (by revert c2; decide)) (fun c3 => ?_)
    refine lv_iload hx hb dX10_lot_36 (lv_at hl 0 rfl) ?_
    exact retPi hx hb hr hlk hS dX10_lot_38 (rfl)
  · refine lv_iload_n hx hb dX10_lot_10 rfl (lv_at hl 3 rfl) ?_
    refine lv_iconst (v := 1) hx hb dX10_lot_11 (by decide) ?_
    refine lv_icmp_lt (tgt := 25) hx hb dX10_lot_12 (by decide) (fun c4 => ?_) (fun c4 => ?_)
    · refine lv_iconst (v := 0) hx hb dX10_lot_25 (by decide) ?_
      refine behI (runVP (As := [.int a2, .int 0]) (rest := []) ⟨hx, hb, hml, hown, ht⟩ (pX10_askRound l G cs h q a2 0) okV_RX10_186 ⟨by decide, by decide⟩ hK hP [0, 1, 2] rfl 0 rfl rfl hl.1 rfl (Nat.le_of_ble_eq_true rfl) dX10_lot_26 ⟨by decide, by decide⟩) hP hS (fun _ h => h) (fun H locs hP hS => ?_)
      refine lv_istore (lv' := [(4, .int (-2)), (0, .ref h), (1, .int a1), (2, .int a2), (3, .int a3)]) hx hb dX10_lot_29 hl (by decide) rfl (fun ls hl => ?_)
      refine lv_iload hx hb dX10_lot_31 (lv_at hl 0 rfl) ?_
      refine lv_if_eq (tgt := 39) hx hb dX10_lot_33 (by decide) (fun c5 => False.elim (by revert c5; decide)) (fun c6 => ?_)
      refine lv_iload hx hb dX10_lot_36 (lv_at hl 0 rfl) ?_
      exact retPi hx hb hr hlk hS dX10_lot_38 (rfl)
    · refine lv_iload_n hx hb dX10_lot_15 rfl (lv_at hl 3 rfl) ?_
      refine lv_bipush (v := 20) hx hb dX10_lot_16 (by decide) ?_
      refine lv_icmp_gt (tgt := 25) hx hb dX10_lot_18 (by decide) (fun c7 => ?_) (fun c7 => ?_)
      · refine lv_iconst (v := 0) hx hb dX10_lot_25 (by decide) ?_
        refine behI (runVP (As := [.int a2, .int 0]) (rest := []) ⟨hx, hb, hml, hown, ht⟩ (pX10_askRound l G cs h q a2 0) okV_RX10_186 ⟨by decide, by decide⟩ hK hP [0, 1, 2] rfl 0 rfl rfl hl.1 rfl (Nat.le_of_ble_eq_true rfl) dX10_lot_26 ⟨by decide, by decide⟩) hP hS (fun _ h => h) (fun H locs hP hS => ?_)
        refine lv_istore (lv' := [(4, .int (-2)), (0, .ref h), (1, .int a1), (2, .int a2), (3, .int a3)]) hx hb dX10_lot_29 hl (by decide) rfl (fun ls hl => ?_)
        refine lv_iload hx hb dX10_lot_31 (lv_at hl 0 rfl) ?_
        refine lv_if_eq (tgt := 39) hx hb dX10_lot_33 (by decide) (fun c8 => False.elim (by revert c8; decide)) (fun c9 => ?_)
        refine lv_iload hx hb dX10_lot_36 (lv_at hl 0 rfl) ?_
        exact retPi hx hb hr hlk hS dX10_lot_38 (rfl)
      · refine lv_iconst (v := 1) hx hb dX10_lot_21 (by decide) ?_
        refine lv_goto (tgt := 26) hx hb dX10_lot_22 (by decide) ?_
        refine behI (runVP (As := [.int a2, .int 1]) (rest := []) ⟨hx, hb, hml, hown, ht⟩ (pX10_askRound l G cs h q a2 1) okV_RX10_186 ⟨by decide, by decide⟩ hK hP [0, 1, 2] rfl 0 rfl rfl hl.1 rfl (Nat.le_of_ble_eq_true rfl) dX10_lot_26 ⟨by decide, by decide⟩) hP hS (fun _ h => h) (fun H locs hP hS => ?_)
        refine lv_istore (lv' := [(4, .int (-2)), (0, .ref h), (1, .int a1), (2, .int a2), (3, .int a3)]) hx hb dX10_lot_29 hl (by decide) rfl (fun ls hl => ?_)
        refine lv_iload hx hb dX10_lot_31 (lv_at hl 0 rfl) ?_
        refine lv_if_eq (tgt := 39) hx hb dX10_lot_33 (by decide) (fun c10 => False.elim (by revert c10; decide)) (fun c11 => ?_)
        refine lv_iload hx hb dX10_lot_36 (lv_at hl 0 rfl) ?_
        exact retPi hx hb hr hlk hS dX10_lot_38 (rfl)

set_option maxRecDepth 100000 in
set_option maxHeartbeats 4000000 in
theorem pX10_tell (l : Launch) (G : va_G) (cs : Nat → ClassId) (h : Nat) (q : Nat → Nat) (a1 : Int32) (a2 : Int32) (a3 : Int32) : PureI l yX10_tell cX10_tell 6 (some .int) 2 G (TY cs) [.ref h, .int a1, .int a2, .int a3] [(xc0 cs h q), (xc12 cs h q), (xc13 cs h q)] (-2) := by
  refine mkP (Qc := QPi (-2)) (by decide) (by simp [lg_sl, Value.category]) ?_
  intro p e s m args below meth c ls hx hb hml hr hlk hown ht hK hP hS hl
  have hl : lv_has ls 6 [(0, .ref h), (1, .int a1), (2, .int a2), (3, .int a3)] := hl
  refine lv_aload_n hx hb dX10_tell_0 rfl (lv_at hl 0 rfl) ?_
  refine lv_iload_n hx hb dX10_tell_1 rfl (lv_at hl 1 rfl) ?_
  refine behI (runVP (As := [.int a1]) (rest := []) ⟨hx, hb, hml, hown, ht⟩ (pX10_isRoom l G cs h q a1) okV_RX10_120 ⟨by decide, by decide⟩ hK hP [0, 1, 2] rfl 0 rfl rfl hl.1 rfl (Nat.le_of_ble_eq_true rfl) dX10_tell_2 ⟨by decide, by decide⟩) hP hS (fun _ h => h) (fun H locs hP hS => ?_)
  refine lv_if_eq (tgt := 29) hx hb dX10_tell_5 (by decide) (fun c2 => ?_) (fun c1 => False.elim (by revert c1; decide))
  refine lv_bipush (v := (-2)) hx hb dX10_tell_29 (by decide) ?_
  exact retPi hx hb hr hlk hS dX10_tell_31 (rfl)

set_option maxRecDepth 100000 in
set_option maxHeartbeats 4000000 in
theorem pX10_shut (l : Launch) (G : va_G) (cs : Nat → ClassId) (h : Nat) (q : Nat → Nat) (a1 : Int32) (a2 : Int32) (a3 : Int32) : PureI l yX10_shut cX10_shut 5 (some .int) 2 G (TY cs) [.ref h, .int a1, .int a2, .int a3] [(xc0 cs h q), (xc12 cs h q), (xc13 cs h q)] (-2) := by
  refine mkP (Qc := QPi (-2)) (by decide) (by simp [lg_sl, Value.category]) ?_
  intro p e s m args below meth c ls hx hb hml hr hlk hown ht hK hP hS hl
  have hl : lv_has ls 5 [(0, .ref h), (1, .int a1), (2, .int a2), (3, .int a3)] := hl
  refine lv_aload_n hx hb dX10_shut_0 rfl (lv_at hl 0 rfl) ?_
  refine lv_iload_n hx hb dX10_shut_1 rfl (lv_at hl 1 rfl) ?_
  refine behI (runVP (As := [.int a1]) (rest := []) ⟨hx, hb, hml, hown, ht⟩ (pX10_isRoom l G cs h q a1) okV_RX10_120 ⟨by decide, by decide⟩ hK hP [0, 1, 2] rfl 0 rfl rfl hl.1 rfl (Nat.le_of_ble_eq_true rfl) dX10_shut_2 ⟨by decide, by decide⟩) hP hS (fun _ h => h) (fun H locs hP hS => ?_)
  refine lv_if_eq (tgt := 30) hx hb dX10_shut_5 (by decide) (fun c2 => ?_) (fun c1 => False.elim (by revert c1; decide))
  refine lv_bipush (v := (-2)) hx hb dX10_shut_30 (by decide) ?_
  exact retPi hx hb hr hlk hS dX10_shut_32 (rfl)

set_option maxRecDepth 100000 in
set_option maxHeartbeats 4000000 in
theorem pX10_gain (l : Launch) (G : va_G) (cs : Nat → ClassId) (h : Nat) (q : Nat → Nat) (a1 : Int32) : PureI l yX10_gain cX10_gain 3 (some .int) 3 G (TY cs) [.ref h, .int a1] [(xc0 cs h q), (xc12 cs h q), (xc13 cs h q)] (-2000000) := by
  refine mkP (Qc := QPi (-2000000)) (by decide) (by simp [lg_sl, Value.category]) ?_
  intro p e s m args below meth c ls hx hb hml hr hlk hown ht hK hP hS hl
  have hl : lv_has ls 3 [(0, .ref h), (1, .int a1)] := hl
  refine lv_aload_n hx hb dX10_gain_0 rfl (lv_at hl 0 rfl) ?_
  refine lv_iload_n hx hb dX10_gain_1 rfl (lv_at hl 1 rfl) ?_
  refine lv_iconst (v := 1) hx hb dX10_gain_2 (by decide) ?_
  refine behI (runVP (As := [.int a1, .int 1]) (rest := []) ⟨hx, hb, hml, hown, ht⟩ (pX10_askRound l G cs h q a1 1) okV_RX10_186 ⟨by decide, by decide⟩ hK hP [0, 1, 2] rfl 0 rfl rfl hl.1 rfl (Nat.le_of_ble_eq_true rfl) dX10_gain_3 ⟨by decide, by decide⟩) hP hS (fun _ h => h) (fun H locs hP hS => ?_)
  refine lv_istore_n (lv' := [(2, .int (-2)), (0, .ref h), (1, .int a1)]) hx hb dX10_gain_6 rfl hl (by decide) rfl (fun ls hl => ?_)
  refine lv_iload_n hx hb dX10_gain_7 rfl (lv_at hl 0 rfl) ?_
  refine lv_if_eq (tgt := 16) hx hb dX10_gain_8 (by decide) (fun c1 => False.elim (by revert c1; decide)) (fun c2 => ?_)
  refine lv_iload_n hx hb dX10_gain_11 rfl (lv_at hl 0 rfl) ?_
  refine lv_ldc hx hb hown (ht _ ki_RX10_201) dX10_gain_12 ?_
  refine lv_imul hx hb dX10_gain_14 ?_
  refine lv_topi (fun v3 ev3 => ?_)
  obtain rfl : v3 = (-2000000) := ev3.trans (by decide)
  exact retPi hx hb hr hlk hS dX10_gain_15 (rfl)

set_option maxRecDepth 100000 in
set_option maxHeartbeats 4000000 in
theorem pX10_count (l : Launch) (G : va_G) (cs : Nat → ClassId) (h : Nat) (q : Nat → Nat) (a1 : Int32) : PureI l yX10_count cX10_count 2 (some .int) 1 G (TY cs) [.ref h, .int a1] [(xc0 cs h q), (xc2 cs h q), (xc12 cs h q), (xc13 cs h q), (xc53 cs h q), (xc54 cs h q), (xc56 cs h q), (xc58 cs h q), (xc60 cs h q)] (spk 8 a1 0 (-1)) := by
  rcases cs8 a1 with hn0 | hb0 | rfl | rfl | rfl | rfl | rfl | rfl | rfl | rfl
  · refine mkP (Qc := QPi (spk 8 a1 0 (-1))) (by decide) (by simp [lg_sl, Value.category]) ?_
    intro p e s m args below meth c ls hx hb hml hr hlk hown ht hK hP hS hl
    have hl : lv_has ls 2 [(0, .ref h), (1, .int a1)] := hl
    refine lv_iload_n hx hb dX10_count_0 rfl (lv_at hl 1 rfl) ?_
    refine lv_tableOut (tgt := 128) hx hb dX10_count_1 (by have z0 := ltT hn0; have k0 : (0 : Int32).toInt = 0 := (by decide); omega) (by decide) ?_
    refine lv_iconst (v := (-1)) hx hb dX10_count_128 (by decide) ?_
    exact retPi hx hb hr hlk hS dX10_count_129 ((spk_lo hn0).symm)
  · refine mkP (Qc := QPi (spk 8 a1 0 (-1))) (by decide) (by simp [lg_sl, Value.category]) ?_
    intro p e s m args below meth c ls hx hb hml hr hlk hown ht hK hP hS hl
    have hl : lv_has ls 2 [(0, .ref h), (1, .int a1)] := hl
    refine lv_iload_n hx hb dX10_count_0 rfl (lv_at hl 1 rfl) ?_
    refine lv_tableOut (tgt := 128) hx hb dX10_count_1 (by have z0 := leT hb0; have k0 : (8 : Int32).toInt = 8 := (by decide); omega) (by decide) ?_
    refine lv_iconst (v := (-1)) hx hb dX10_count_128 (by decide) ?_
    exact retPi hx hb hr hlk hS dX10_count_129 ((spk_hi (by decide) hb0).symm)
  · refine mkP (Qc := QPi (spk 8 0 0 (-1))) (by decide) (by simp [lg_sl, Value.category]) ?_
    intro p e s m args below meth c ls hx hb hml hr hlk hown ht hK hP hS hl
    have hl : lv_has ls 2 [(0, .ref h), (1, .int 0)] := hl
    refine lv_iload_n hx hb dX10_count_0 rfl (lv_at hl 1 rfl) ?_
    refine lv_tableIn (off := 47) (tgt := 48) hx hb dX10_count_1 (by decide) (by decide) (by decide) (by decide) ?_
    refine lv_aload_n hx hb dX10_count_48 rfl (lv_at hl 0 rfl) ?_
    refine getF hx hb ht hown hK hP iTX10 0 3 rfl rfl (by decide) fl_RX10_31 rfl dX10_count_49 ?_
    refine getF hx hb ht hown hK hP iTX8 2 0 rfl rfl (by decide) fl_RX10_98 rfl dX10_count_52 ?_
    refine getF hx hb ht hown hK hP iTX3 3 5 rfl rfl (by decide) fl_RX10_159 rfl dX10_count_55 ?_
    exact retPi hx hb hr hlk hS dX10_count_58 (by decide)
  · refine mkP (Qc := QPi (spk 8 1 0 (-1))) (by decide) (by simp [lg_sl, Value.category]) ?_
    intro p e s m args below meth c ls hx hb hml hr hlk hown ht hK hP hS hl
    have hl : lv_has ls 2 [(0, .ref h), (1, .int 1)] := hl
    refine lv_iload_n hx hb dX10_count_0 rfl (lv_at hl 1 rfl) ?_
    refine lv_tableIn (off := 58) (tgt := 59) hx hb dX10_count_1 (by decide) (by decide) (by decide) (by decide) ?_
    refine lv_aload_n hx hb dX10_count_59 rfl (lv_at hl 0 rfl) ?_
    refine getF hx hb ht hown hK hP iTX10 0 3 rfl rfl (by decide) fl_RX10_31 rfl dX10_count_60 ?_
    refine getF hx hb ht hown hK hP iTX8 2 0 rfl rfl (by decide) fl_RX10_98 rfl dX10_count_63 ?_
    refine behI (runVP (As := []) (rest := []) ⟨hx, hb, hml, hown, ht⟩ (pX3_countDoors l G cs h q ) okV_RX10_335 ⟨by decide, by decide⟩ hK hP [3] rfl 3 rfl rfl hl.1 rfl (Nat.le_of_ble_eq_true rfl) dX10_count_66 ⟨by decide, by decide⟩) hP hS (fun _ h => h) (fun H locs hP hS => ?_)
    exact retPi hx hb hr hlk hS dX10_count_69 (by decide)
  · refine mkP (Qc := QPi (spk 8 2 0 (-1))) (by decide) (by simp [lg_sl, Value.category]) ?_
    intro p e s m args below meth c ls hx hb hml hr hlk hown ht hK hP hS hl
    have hl : lv_has ls 2 [(0, .ref h), (1, .int 2)] := hl
    refine lv_iload_n hx hb dX10_count_0 rfl (lv_at hl 1 rfl) ?_
    refine lv_tableIn (off := 69) (tgt := 70) hx hb dX10_count_1 (by decide) (by decide) (by decide) (by decide) ?_
    refine lv_aload_n hx hb dX10_count_70 rfl (lv_at hl 0 rfl) ?_
    refine getF hx hb ht hown hK hP iTX10 0 3 rfl rfl (by decide) fl_RX10_31 rfl dX10_count_71 ?_
    refine getF hx hb ht hown hK hP iTX8 2 0 rfl rfl (by decide) fl_RX10_98 rfl dX10_count_74 ?_
    refine getF hx hb ht hown hK hP iTX3 3 6 rfl rfl (by decide) fl_RX10_283 rfl dX10_count_77 ?_
    exact retPi hx hb hr hlk hS dX10_count_80 (by decide)
  · refine mkP (Qc := QPi (spk 8 3 0 (-1))) (by decide) (by simp [lg_sl, Value.category]) ?_
    intro p e s m args below meth c ls hx hb hml hr hlk hown ht hK hP hS hl
    have hl : lv_has ls 2 [(0, .ref h), (1, .int 3)] := hl
    refine lv_iload_n hx hb dX10_count_0 rfl (lv_at hl 1 rfl) ?_
    refine lv_tableIn (off := 80) (tgt := 81) hx hb dX10_count_1 (by decide) (by decide) (by decide) (by decide) ?_
    refine lv_aload_n hx hb dX10_count_81 rfl (lv_at hl 0 rfl) ?_
    refine lv_aload_n hx hb dX10_count_82 rfl (lv_at hl 0 rfl) ?_
    refine getF hx hb ht hown hK hP iTX10 0 3 rfl rfl (by decide) fl_RX10_31 rfl dX10_count_83 ?_
    refine getF hx hb ht hown hK hP iTX8 2 0 rfl rfl (by decide) fl_RX10_98 rfl dX10_count_86 ?_
    refine behI (runVP (As := []) (rest := [.ref h]) ⟨hx, hb, hml, hown, ht⟩ (pX3_allRooms l G cs h q ) okV_RX10_238 ⟨by decide, by decide⟩ hK hP [3] rfl 3 rfl rfl hl.1 rfl (Nat.le_of_ble_eq_true rfl) dX10_count_89 ⟨by decide, by decide⟩) hP hS (fun _ h => h) (fun H locs hP hS => ?_)
    refine behI (runVP (As := [.int 0]) (rest := []) ⟨hx, hb, hml, hown, ht⟩ (pX10_peopleOf l G cs h q 0) okV_RX10_247 ⟨by decide, by decide⟩ hK hP [0, 2, 3] rfl 0 rfl rfl hl.1 rfl (Nat.le_of_ble_eq_true rfl) dX10_count_92 ⟨by decide, by decide⟩) hP hS (fun _ h => h) (fun H locs hP hS => ?_)
    exact retPi hx hb hr hlk hS dX10_count_95 (by decide)
  · refine mkP (Qc := QPi (spk 8 4 0 (-1))) (by decide) (by simp [lg_sl, Value.category]) ?_
    intro p e s m args below meth c ls hx hb hml hr hlk hown ht hK hP hS hl
    have hl : lv_has ls 2 [(0, .ref h), (1, .int 4)] := hl
    refine lv_iload_n hx hb dX10_count_0 rfl (lv_at hl 1 rfl) ?_
    refine lv_tableIn (off := 95) (tgt := 96) hx hb dX10_count_1 (by decide) (by decide) (by decide) (by decide) ?_
    refine lv_aload_n hx hb dX10_count_96 rfl (lv_at hl 0 rfl) ?_
    refine getF hx hb ht hown hK hP iTX10 0 3 rfl rfl (by decide) fl_RX10_31 rfl dX10_count_97 ?_
    refine getF hx hb ht hown hK hP iTX8 2 0 rfl rfl (by decide) fl_RX10_98 rfl dX10_count_100 ?_
    refine getF hx hb ht hown hK hP iTX3 3 0 rfl rfl (by decide) fl_RX10_111 rfl dX10_count_103 ?_
    exact retPi hx hb hr hlk hS dX10_count_106 (by decide)
  · refine mkP (Qc := QPi (spk 8 5 0 (-1))) (by decide) (by simp [lg_sl, Value.category]) ?_
    intro p e s m args below meth c ls hx hb hml hr hlk hown ht hK hP hS hl
    have hl : lv_has ls 2 [(0, .ref h), (1, .int 5)] := hl
    refine lv_iload_n hx hb dX10_count_0 rfl (lv_at hl 1 rfl) ?_
    refine lv_tableIn (off := 106) (tgt := 107) hx hb dX10_count_1 (by decide) (by decide) (by decide) (by decide) ?_
    refine lv_aload_n hx hb dX10_count_107 rfl (lv_at hl 0 rfl) ?_
    refine getF hx hb ht hown hK hP iTX10 0 1 rfl rfl (by decide) fl_RX10_20 rfl dX10_count_108 ?_
    refine getF hx hb ht hown hK hP iTX9 1 1 rfl rfl (by decide) fl_RX10_84 rfl dX10_count_111 ?_
    exact retPi hx hb hr hlk hS dX10_count_114 (by decide)
  · refine mkP (Qc := QPi (spk 8 6 0 (-1))) (by decide) (by simp [lg_sl, Value.category]) ?_
    intro p e s m args below meth c ls hx hb hml hr hlk hown ht hK hP hS hl
    have hl : lv_has ls 2 [(0, .ref h), (1, .int 6)] := hl
    refine lv_iload_n hx hb dX10_count_0 rfl (lv_at hl 1 rfl) ?_
    refine lv_tableIn (off := 114) (tgt := 115) hx hb dX10_count_1 (by decide) (by decide) (by decide) (by decide) ?_
    refine lv_aload_n hx hb dX10_count_115 rfl (lv_at hl 0 rfl) ?_
    refine getF hx hb ht hown hK hP iTX10 0 3 rfl rfl (by decide) fl_RX10_31 rfl dX10_count_116 ?_
    refine getF hx hb ht hown hK hP iTX8 2 2 rfl rfl (by decide) fl_RX10_105 rfl dX10_count_119 ?_
    exact retPi hx hb hr hlk hS dX10_count_122 (by decide)
  · refine mkP (Qc := QPi (spk 8 7 0 (-1))) (by decide) (by simp [lg_sl, Value.category]) ?_
    intro p e s m args below meth c ls hx hb hml hr hlk hown ht hK hP hS hl
    have hl : lv_has ls 2 [(0, .ref h), (1, .int 7)] := hl
    refine lv_iload_n hx hb dX10_count_0 rfl (lv_at hl 1 rfl) ?_
    refine lv_tableIn (off := 122) (tgt := 123) hx hb dX10_count_1 (by decide) (by decide) (by decide) (by decide) ?_
    refine lv_aload_n hx hb dX10_count_123 rfl (lv_at hl 0 rfl) ?_
    refine behI (runVP (As := []) (rest := []) ⟨hx, hb, hml, hown, ht⟩ (pX10_countRows l G cs h q ) okV_RX10_338 ⟨by decide, by decide⟩ hK hP [0, 4, 5, 6, 7, 8] rfl 0 rfl rfl hl.1 rfl (Nat.le_of_ble_eq_true rfl) dX10_count_124 ⟨by decide, by decide⟩) hP hS (fun _ h => h) (fun H locs hP hS => ?_)
    exact retPi hx hb hr hlk hS dX10_count_127 (by decide)

set_option maxRecDepth 100000 in
set_option maxHeartbeats 4000000 in
theorem pX10_back (l : Launch) (G : va_G) (cs : Nat → ClassId) (h : Nat) (q : Nat → Nat) (a1 : Int32) : PureI l yX10_back cX10_back 2 (some .int) 0 G (TY cs) [.ref h, .int a1] [(xc0 cs h q), (xc22 cs h q), (xc23 cs h q), (xc33 cs h q), (xc43 cs h q)] (spk 3 a1 (-6) (-2)) := by
  rcases cs3 a1 with hn0 | hb0 | rfl | rfl | rfl
  · refine mkP (Qc := QPi (spk 3 a1 (-6) (-2))) (by decide) (by simp [lg_sl, Value.category]) ?_
    intro p e s m args below meth c ls hx hb hml hr hlk hown ht hK hP hS hl
    have hl : lv_has ls 2 [(0, .ref h), (1, .int a1)] := hl
    refine lv_iload_n hx hb dX10_back_0 rfl (lv_at hl 1 rfl) ?_
    refine lv_if_lt (tgt := 9) hx hb dX10_back_1 (by decide) (fun c2 => ?_) (fun c1 => False.elim (by have z0 := ltT hn0; have z1 := nltT c1; have k0 : (0 : Int32).toInt = 0 := (by decide); omega))
    refine lv_bipush (v := (-2)) hx hb dX10_back_9 (by decide) ?_
    exact retPi hx hb hr hlk hS dX10_back_11 ((spk_lo hn0).symm)
  · refine mkP (Qc := QPi (spk 3 a1 (-6) (-2))) (by decide) (by simp [lg_sl, Value.category]) ?_
    intro p e s m args below meth c ls hx hb hml hr hlk hown ht hK hP hS hl
    have hl : lv_has ls 2 [(0, .ref h), (1, .int a1)] := hl
    refine lv_iload_n hx hb dX10_back_0 rfl (lv_at hl 1 rfl) ?_
    refine lv_if_lt (tgt := 9) hx hb dX10_back_1 (by decide) (fun c1 => False.elim (by have z0 := leT hb0; have z1 := ltT c1; have k0 : (0 : Int32).toInt = 0 := (by decide); have k1 : (3 : Int32).toInt = 3 := (by decide); omega)) (fun c2 => ?_)
    refine lv_iload_n hx hb dX10_back_4 rfl (lv_at hl 1 rfl) ?_
    refine lv_iconst (v := 3) hx hb dX10_back_5 (by decide) ?_
    refine lv_icmp_lt (tgt := 12) hx hb dX10_back_6 (by decide) (fun c3 => False.elim (by have z0 := leT hb0; have z1 := ltT c3; have k0 : (3 : Int32).toInt = 3 := (by decide); omega)) (fun c4 => ?_)
    refine lv_bipush (v := (-2)) hx hb dX10_back_9 (by decide) ?_
    exact retPi hx hb hr hlk hS dX10_back_11 ((spk_hi (by decide) hb0).symm)
  · refine mkP (Qc := QPi (spk 3 0 (-6) (-2))) (by decide) (by simp [lg_sl, Value.category]) ?_
    intro p e s m args below meth c ls hx hb hml hr hlk hown ht hK hP hS hl
    have hl : lv_has ls 2 [(0, .ref h), (1, .int 0)] := hl
    refine lv_iload_n hx hb dX10_back_0 rfl (lv_at hl 1 rfl) ?_
    refine lv_if_lt (tgt := 9) hx hb dX10_back_1 (by decide) (fun c1 => False.elim (by revert c1; decide)) (fun c2 => ?_)
    refine lv_iload_n hx hb dX10_back_4 rfl (lv_at hl 1 rfl) ?_
    refine lv_iconst (v := 3) hx hb dX10_back_5 (by decide) ?_
    refine lv_icmp_lt (tgt := 12) hx hb dX10_back_6 (by decide) (fun c4 => ?_) (fun c3 => False.elim (by revert c3; decide))
    refine lv_aload_n hx hb dX10_back_12 rfl (lv_at hl 0 rfl) ?_
    refine getF hx hb ht hown hK hP iTX10 0 4 rfl rfl (by decide) fl_RX10_35 rfl dX10_back_13 ?_
    refine lv_iload_n hx hb dX10_back_16 rfl (lv_at hl 1 rfl) ?_
    refine va_aldq hx hb hK.1 hP 1 4 rfl rfl (show ¬ (_ ∨ _) by decide) dX10_back_17 ?_
    refine W.eq (g2 := F0 m 18 ls [.ref (q 23)]) rfl ?_
    refine getF hx hb ht hown hK hP iTX8 2 3 rfl rfl (by decide) fl_RX10_344 rfl dX10_back_18 ?_
    refine lv_if_ne (tgt := 27) hx hb dX10_back_21 (by decide) (fun c5 => False.elim (by revert c5; decide)) (fun c6 => ?_)
    refine lv_bipush (v := (-6)) hx hb dX10_back_24 (by decide) ?_
    exact retPi hx hb hr hlk hS dX10_back_26 (by decide)
  · refine mkP (Qc := QPi (spk 3 1 (-6) (-2))) (by decide) (by simp [lg_sl, Value.category]) ?_
    intro p e s m args below meth c ls hx hb hml hr hlk hown ht hK hP hS hl
    have hl : lv_has ls 2 [(0, .ref h), (1, .int 1)] := hl
    refine lv_iload_n hx hb dX10_back_0 rfl (lv_at hl 1 rfl) ?_
    refine lv_if_lt (tgt := 9) hx hb dX10_back_1 (by decide) (fun c1 => False.elim (by revert c1; decide)) (fun c2 => ?_)
    refine lv_iload_n hx hb dX10_back_4 rfl (lv_at hl 1 rfl) ?_
    refine lv_iconst (v := 3) hx hb dX10_back_5 (by decide) ?_
    refine lv_icmp_lt (tgt := 12) hx hb dX10_back_6 (by decide) (fun c4 => ?_) (fun c3 => False.elim (by revert c3; decide))
    refine lv_aload_n hx hb dX10_back_12 rfl (lv_at hl 0 rfl) ?_
    refine getF hx hb ht hown hK hP iTX10 0 4 rfl rfl (by decide) fl_RX10_35 rfl dX10_back_13 ?_
    refine lv_iload_n hx hb dX10_back_16 rfl (lv_at hl 1 rfl) ?_
    refine va_aldq hx hb hK.1 hP 1 4 rfl rfl (show ¬ (_ ∨ _) by decide) dX10_back_17 ?_
    refine W.eq (g2 := F0 m 18 ls [.ref (q 33)]) rfl ?_
    refine getF hx hb ht hown hK hP iTX8 3 3 rfl rfl (by decide) fl_RX10_344 rfl dX10_back_18 ?_
    refine lv_if_ne (tgt := 27) hx hb dX10_back_21 (by decide) (fun c5 => False.elim (by revert c5; decide)) (fun c6 => ?_)
    refine lv_bipush (v := (-6)) hx hb dX10_back_24 (by decide) ?_
    exact retPi hx hb hr hlk hS dX10_back_26 (by decide)
  · refine mkP (Qc := QPi (spk 3 2 (-6) (-2))) (by decide) (by simp [lg_sl, Value.category]) ?_
    intro p e s m args below meth c ls hx hb hml hr hlk hown ht hK hP hS hl
    have hl : lv_has ls 2 [(0, .ref h), (1, .int 2)] := hl
    refine lv_iload_n hx hb dX10_back_0 rfl (lv_at hl 1 rfl) ?_
    refine lv_if_lt (tgt := 9) hx hb dX10_back_1 (by decide) (fun c1 => False.elim (by revert c1; decide)) (fun c2 => ?_)
    refine lv_iload_n hx hb dX10_back_4 rfl (lv_at hl 1 rfl) ?_
    refine lv_iconst (v := 3) hx hb dX10_back_5 (by decide) ?_
    refine lv_icmp_lt (tgt := 12) hx hb dX10_back_6 (by decide) (fun c4 => ?_) (fun c3 => False.elim (by revert c3; decide))
    refine lv_aload_n hx hb dX10_back_12 rfl (lv_at hl 0 rfl) ?_
    refine getF hx hb ht hown hK hP iTX10 0 4 rfl rfl (by decide) fl_RX10_35 rfl dX10_back_13 ?_
    refine lv_iload_n hx hb dX10_back_16 rfl (lv_at hl 1 rfl) ?_
    refine va_aldq hx hb hK.1 hP 1 4 rfl rfl (show ¬ (_ ∨ _) by decide) dX10_back_17 ?_
    refine W.eq (g2 := F0 m 18 ls [.ref (q 43)]) rfl ?_
    refine getF hx hb ht hown hK hP iTX8 4 3 rfl rfl (by decide) fl_RX10_344 rfl dX10_back_18 ?_
    refine lv_if_ne (tgt := 27) hx hb dX10_back_21 (by decide) (fun c5 => False.elim (by revert c5; decide)) (fun c6 => ?_)
    refine lv_bipush (v := (-6)) hx hb dX10_back_24 (by decide) ?_
    exact retPi hx hb hr hlk hS dX10_back_26 (by decide)

set_option maxRecDepth 100000 in
set_option maxHeartbeats 4000000 in
theorem pX10_write (l : Launch) (G : va_G) (cs : Nat → ClassId) (h : Nat) (q : Nat → Nat) (a1 : Int32) (a2 : Int32) (a3 : Int64) : PureI l yX10_write cX10_write 6 (some .int) 1 G (TY cs) [.ref h, .int a1, .int a2, .long a3] [(xc0 cs h q), (xc53 cs h q), (xc54 cs h q), (xc56 cs h q), (xc58 cs h q), (xc60 cs h q)] (spk 4 a1 (-6) (-2)) := by
  rcases cs4 a1 with hn0 | hb0 | rfl | rfl | rfl | rfl
  · refine mkP (Qc := QPi (spk 4 a1 (-6) (-2))) (by decide) (by simp [lg_sl, Value.category]) ?_
    intro p e s m args below meth c ls hx hb hml hr hlk hown ht hK hP hS hl
    have hl : lv_has ls 6 [(0, .ref h), (1, .int a1), (2, .int a2), (3, .long a3)] := hl
    refine lv_aload_n hx hb dX10_write_0 rfl (lv_at hl 0 rfl) ?_
    refine lv_iload_n hx hb dX10_write_1 rfl (lv_at hl 1 rfl) ?_
    refine behI (runVP (As := [.int a1]) (rest := []) ⟨hx, hb, hml, hown, ht⟩ (pX10_isSlot l G cs h q a1) okV_RX10_348 ⟨by decide, by decide⟩ hK hP [] rfl 0 rfl rfl hl.1 rfl (Nat.le_of_ble_eq_true rfl) dX10_write_2 ⟨by decide, by decide⟩) hP hS (fun _ h => h) (fun H locs hP hS => ?_)
    refine lv_topi (fun v1 ev1 => ?_)
    obtain rfl : v1 = 0 := ev1.trans (spk_lo hn0)
    refine lv_if_ne (tgt := 11) hx hb dX10_write_5 (by decide) (fun c2 => False.elim (by revert c2; decide)) (fun c3 => ?_)
    refine lv_bipush (v := (-2)) hx hb dX10_write_8 (by decide) ?_
    exact retPi hx hb hr hlk hS dX10_write_10 ((spk_lo hn0).symm)
  · refine mkP (Qc := QPi (spk 4 a1 (-6) (-2))) (by decide) (by simp [lg_sl, Value.category]) ?_
    intro p e s m args below meth c ls hx hb hml hr hlk hown ht hK hP hS hl
    have hl : lv_has ls 6 [(0, .ref h), (1, .int a1), (2, .int a2), (3, .long a3)] := hl
    refine lv_aload_n hx hb dX10_write_0 rfl (lv_at hl 0 rfl) ?_
    refine lv_iload_n hx hb dX10_write_1 rfl (lv_at hl 1 rfl) ?_
    refine behI (runVP (As := [.int a1]) (rest := []) ⟨hx, hb, hml, hown, ht⟩ (pX10_isSlot l G cs h q a1) okV_RX10_348 ⟨by decide, by decide⟩ hK hP [] rfl 0 rfl rfl hl.1 rfl (Nat.le_of_ble_eq_true rfl) dX10_write_2 ⟨by decide, by decide⟩) hP hS (fun _ h => h) (fun H locs hP hS => ?_)
    refine lv_topi (fun v1 ev1 => ?_)
    obtain rfl : v1 = 0 := ev1.trans (spk_hi (by decide) hb0)
    refine lv_if_ne (tgt := 11) hx hb dX10_write_5 (by decide) (fun c2 => False.elim (by revert c2; decide)) (fun c3 => ?_)
    refine lv_bipush (v := (-2)) hx hb dX10_write_8 (by decide) ?_
    exact retPi hx hb hr hlk hS dX10_write_10 ((spk_hi (by decide) hb0).symm)
  · refine mkP (Qc := QPi (spk 4 0 (-6) (-2))) (by decide) (by simp [lg_sl, Value.category]) ?_
    intro p e s m args below meth c ls hx hb hml hr hlk hown ht hK hP hS hl
    have hl : lv_has ls 6 [(0, .ref h), (1, .int 0), (2, .int a2), (3, .long a3)] := hl
    refine lv_aload_n hx hb dX10_write_0 rfl (lv_at hl 0 rfl) ?_
    refine lv_iload_n hx hb dX10_write_1 rfl (lv_at hl 1 rfl) ?_
    refine behI (runVP (As := [.int 0]) (rest := []) ⟨hx, hb, hml, hown, ht⟩ (pX10_isSlot l G cs h q 0) okV_RX10_348 ⟨by decide, by decide⟩ hK hP [] rfl 0 rfl rfl hl.1 rfl (Nat.le_of_ble_eq_true rfl) dX10_write_2 ⟨by decide, by decide⟩) hP hS (fun _ h => h) (fun H locs hP hS => ?_)
    refine lv_topi (fun v1 ev1 => ?_)
    obtain rfl : v1 = 1 := ev1.trans (by decide)
    refine lv_if_ne (tgt := 11) hx hb dX10_write_5 (by decide) (fun c3 => ?_) (fun c2 => False.elim (by revert c2; decide))
    refine lv_aload_n hx hb dX10_write_11 rfl (lv_at hl 0 rfl) ?_
    refine getF hx hb ht hown hK hP iTX10 0 5 rfl rfl (by decide) fl_RX10_41 rfl dX10_write_12 ?_
    refine lv_iload_n hx hb dX10_write_15 rfl (lv_at hl 1 rfl) ?_
    refine va_aldq hx hb hK.1 hP 1 5 rfl rfl (show ¬ (_ ∨ _) by decide) dX10_write_16 ?_
    refine W.eq (g2 := F0 m 17 ls [.ref (q 54)]) rfl ?_
    refine lv_astore (lv' := [(5, .ref (q 54)), (0, .ref h), (1, .int 0), (2, .int a2), (3, .long a3)]) hx hb dX10_write_17 hl (by decide) rfl (fun ls hl => ?_)
    refine lv_aload hx hb dX10_write_19 (lv_at hl 0 rfl) ?_
    refine getF hx hb ht hown hK hP iTX7 2 1 rfl rfl (by decide) fl_RX10_354 rfl dX10_write_21 ?_
    refine lv_if_ne (tgt := 30) hx hb dX10_write_24 (by decide) (fun c4 => False.elim (by revert c4; decide)) (fun c5 => ?_)
    refine lv_bipush (v := (-6)) hx hb dX10_write_27 (by decide) ?_
    exact retPi hx hb hr hlk hS dX10_write_29 (by decide)
  · refine mkP (Qc := QPi (spk 4 1 (-6) (-2))) (by decide) (by simp [lg_sl, Value.category]) ?_
    intro p e s m args below meth c ls hx hb hml hr hlk hown ht hK hP hS hl
    have hl : lv_has ls 6 [(0, .ref h), (1, .int 1), (2, .int a2), (3, .long a3)] := hl
    refine lv_aload_n hx hb dX10_write_0 rfl (lv_at hl 0 rfl) ?_
    refine lv_iload_n hx hb dX10_write_1 rfl (lv_at hl 1 rfl) ?_
    refine behI (runVP (As := [.int 1]) (rest := []) ⟨hx, hb, hml, hown, ht⟩ (pX10_isSlot l G cs h q 1) okV_RX10_348 ⟨by decide, by decide⟩ hK hP [] rfl 0 rfl rfl hl.1 rfl (Nat.le_of_ble_eq_true rfl) dX10_write_2 ⟨by decide, by decide⟩) hP hS (fun _ h => h) (fun H locs hP hS => ?_)
    refine lv_topi (fun v1 ev1 => ?_)
    obtain rfl : v1 = 1 := ev1.trans (by decide)
    refine lv_if_ne (tgt := 11) hx hb dX10_write_5 (by decide) (fun c3 => ?_) (fun c2 => False.elim (by revert c2; decide))
    refine lv_aload_n hx hb dX10_write_11 rfl (lv_at hl 0 rfl) ?_
    refine getF hx hb ht hown hK hP iTX10 0 5 rfl rfl (by decide) fl_RX10_41 rfl dX10_write_12 ?_
    refine lv_iload_n hx hb dX10_write_15 rfl (lv_at hl 1 rfl) ?_
    refine va_aldq hx hb hK.1 hP 1 5 rfl rfl (show ¬ (_ ∨ _) by decide) dX10_write_16 ?_
    refine W.eq (g2 := F0 m 17 ls [.ref (q 56)]) rfl ?_
    refine lv_astore (lv' := [(5, .ref (q 56)), (0, .ref h), (1, .int 1), (2, .int a2), (3, .long a3)]) hx hb dX10_write_17 hl (by decide) rfl (fun ls hl => ?_)
    refine lv_aload hx hb dX10_write_19 (lv_at hl 0 rfl) ?_
    refine getF hx hb ht hown hK hP iTX7 3 1 rfl rfl (by decide) fl_RX10_354 rfl dX10_write_21 ?_
    refine lv_if_ne (tgt := 30) hx hb dX10_write_24 (by decide) (fun c4 => False.elim (by revert c4; decide)) (fun c5 => ?_)
    refine lv_bipush (v := (-6)) hx hb dX10_write_27 (by decide) ?_
    exact retPi hx hb hr hlk hS dX10_write_29 (by decide)
  · refine mkP (Qc := QPi (spk 4 2 (-6) (-2))) (by decide) (by simp [lg_sl, Value.category]) ?_
    intro p e s m args below meth c ls hx hb hml hr hlk hown ht hK hP hS hl
    have hl : lv_has ls 6 [(0, .ref h), (1, .int 2), (2, .int a2), (3, .long a3)] := hl
    refine lv_aload_n hx hb dX10_write_0 rfl (lv_at hl 0 rfl) ?_
    refine lv_iload_n hx hb dX10_write_1 rfl (lv_at hl 1 rfl) ?_
    refine behI (runVP (As := [.int 2]) (rest := []) ⟨hx, hb, hml, hown, ht⟩ (pX10_isSlot l G cs h q 2) okV_RX10_348 ⟨by decide, by decide⟩ hK hP [] rfl 0 rfl rfl hl.1 rfl (Nat.le_of_ble_eq_true rfl) dX10_write_2 ⟨by decide, by decide⟩) hP hS (fun _ h => h) (fun H locs hP hS => ?_)
    refine lv_topi (fun v1 ev1 => ?_)
    obtain rfl : v1 = 1 := ev1.trans (by decide)
    refine lv_if_ne (tgt := 11) hx hb dX10_write_5 (by decide) (fun c3 => ?_) (fun c2 => False.elim (by revert c2; decide))
    refine lv_aload_n hx hb dX10_write_11 rfl (lv_at hl 0 rfl) ?_
    refine getF hx hb ht hown hK hP iTX10 0 5 rfl rfl (by decide) fl_RX10_41 rfl dX10_write_12 ?_
    refine lv_iload_n hx hb dX10_write_15 rfl (lv_at hl 1 rfl) ?_
    refine va_aldq hx hb hK.1 hP 1 5 rfl rfl (show ¬ (_ ∨ _) by decide) dX10_write_16 ?_
    refine W.eq (g2 := F0 m 17 ls [.ref (q 58)]) rfl ?_
    refine lv_astore (lv' := [(5, .ref (q 58)), (0, .ref h), (1, .int 2), (2, .int a2), (3, .long a3)]) hx hb dX10_write_17 hl (by decide) rfl (fun ls hl => ?_)
    refine lv_aload hx hb dX10_write_19 (lv_at hl 0 rfl) ?_
    refine getF hx hb ht hown hK hP iTX7 4 1 rfl rfl (by decide) fl_RX10_354 rfl dX10_write_21 ?_
    refine lv_if_ne (tgt := 30) hx hb dX10_write_24 (by decide) (fun c4 => False.elim (by revert c4; decide)) (fun c5 => ?_)
    refine lv_bipush (v := (-6)) hx hb dX10_write_27 (by decide) ?_
    exact retPi hx hb hr hlk hS dX10_write_29 (by decide)
  · refine mkP (Qc := QPi (spk 4 3 (-6) (-2))) (by decide) (by simp [lg_sl, Value.category]) ?_
    intro p e s m args below meth c ls hx hb hml hr hlk hown ht hK hP hS hl
    have hl : lv_has ls 6 [(0, .ref h), (1, .int 3), (2, .int a2), (3, .long a3)] := hl
    refine lv_aload_n hx hb dX10_write_0 rfl (lv_at hl 0 rfl) ?_
    refine lv_iload_n hx hb dX10_write_1 rfl (lv_at hl 1 rfl) ?_
    refine behI (runVP (As := [.int 3]) (rest := []) ⟨hx, hb, hml, hown, ht⟩ (pX10_isSlot l G cs h q 3) okV_RX10_348 ⟨by decide, by decide⟩ hK hP [] rfl 0 rfl rfl hl.1 rfl (Nat.le_of_ble_eq_true rfl) dX10_write_2 ⟨by decide, by decide⟩) hP hS (fun _ h => h) (fun H locs hP hS => ?_)
    refine lv_topi (fun v1 ev1 => ?_)
    obtain rfl : v1 = 1 := ev1.trans (by decide)
    refine lv_if_ne (tgt := 11) hx hb dX10_write_5 (by decide) (fun c3 => ?_) (fun c2 => False.elim (by revert c2; decide))
    refine lv_aload_n hx hb dX10_write_11 rfl (lv_at hl 0 rfl) ?_
    refine getF hx hb ht hown hK hP iTX10 0 5 rfl rfl (by decide) fl_RX10_41 rfl dX10_write_12 ?_
    refine lv_iload_n hx hb dX10_write_15 rfl (lv_at hl 1 rfl) ?_
    refine va_aldq hx hb hK.1 hP 1 5 rfl rfl (show ¬ (_ ∨ _) by decide) dX10_write_16 ?_
    refine W.eq (g2 := F0 m 17 ls [.ref (q 60)]) rfl ?_
    refine lv_astore (lv' := [(5, .ref (q 60)), (0, .ref h), (1, .int 3), (2, .int a2), (3, .long a3)]) hx hb dX10_write_17 hl (by decide) rfl (fun ls hl => ?_)
    refine lv_aload hx hb dX10_write_19 (lv_at hl 0 rfl) ?_
    refine getF hx hb ht hown hK hP iTX7 5 1 rfl rfl (by decide) fl_RX10_354 rfl dX10_write_21 ?_
    refine lv_if_ne (tgt := 30) hx hb dX10_write_24 (by decide) (fun c4 => False.elim (by revert c4; decide)) (fun c5 => ?_)
    refine lv_bipush (v := (-6)) hx hb dX10_write_27 (by decide) ?_
    exact retPi hx hb hr hlk hS dX10_write_29 (by decide)

set_option maxRecDepth 100000 in
set_option maxHeartbeats 4000000 in
theorem pX10_paste (l : Launch) (G : va_G) (cs : Nat → ClassId) (h : Nat) (q : Nat → Nat) (a1 : Int32) (a2 : Int32) (a3 : Int32) (a4 : Int32) (a5 : Int32) : PureI l yX10_paste cX10_paste 8 (some .int) 1 G (TY cs) [.ref h, .int a1, .int a2, .int a3, .int a4, .int a5] [(xc0 cs h q), (xc53 cs h q), (xc54 cs h q), (xc56 cs h q), (xc58 cs h q), (xc60 cs h q)] (spk 4 a1 (spk 4 a3 (-6) (-2)) (-2)) := by
  rcases cs4 a1 with hn0 | hb0 | rfl | rfl | rfl | rfl
  · refine mkP (Qc := QPi (spk 4 a1 (spk 4 a3 (-6) (-2)) (-2))) (by decide) (by simp [lg_sl, Value.category]) ?_
    intro p e s m args below meth c ls hx hb hml hr hlk hown ht hK hP hS hl
    have hl : lv_has ls 8 [(0, .ref h), (1, .int a1), (2, .int a2), (3, .int a3), (4, .int a4), (5, .int a5)] := hl
    refine lv_aload_n hx hb dX10_paste_0 rfl (lv_at hl 0 rfl) ?_
    refine lv_iload_n hx hb dX10_paste_1 rfl (lv_at hl 1 rfl) ?_
    refine behI (runVP (As := [.int a1]) (rest := []) ⟨hx, hb, hml, hown, ht⟩ (pX10_isSlot l G cs h q a1) okV_RX10_348 ⟨by decide, by decide⟩ hK hP [] rfl 0 rfl rfl hl.1 rfl (Nat.le_of_ble_eq_true rfl) dX10_paste_2 ⟨by decide, by decide⟩) hP hS (fun _ h => h) (fun H locs hP hS => ?_)
    refine lv_topi (fun v1 ev1 => ?_)
    obtain rfl : v1 = 0 := ev1.trans (spk_lo hn0)
    refine lv_if_eq (tgt := 16) hx hb dX10_paste_5 (by decide) (fun c3 => ?_) (fun c2 => False.elim (by revert c2; decide))
    refine lv_bipush (v := (-2)) hx hb dX10_paste_16 (by decide) ?_
    exact retPi hx hb hr hlk hS dX10_paste_18 ((spk_lo hn0).symm)
  · refine mkP (Qc := QPi (spk 4 a1 (spk 4 a3 (-6) (-2)) (-2))) (by decide) (by simp [lg_sl, Value.category]) ?_
    intro p e s m args below meth c ls hx hb hml hr hlk hown ht hK hP hS hl
    have hl : lv_has ls 8 [(0, .ref h), (1, .int a1), (2, .int a2), (3, .int a3), (4, .int a4), (5, .int a5)] := hl
    refine lv_aload_n hx hb dX10_paste_0 rfl (lv_at hl 0 rfl) ?_
    refine lv_iload_n hx hb dX10_paste_1 rfl (lv_at hl 1 rfl) ?_
    refine behI (runVP (As := [.int a1]) (rest := []) ⟨hx, hb, hml, hown, ht⟩ (pX10_isSlot l G cs h q a1) okV_RX10_348 ⟨by decide, by decide⟩ hK hP [] rfl 0 rfl rfl hl.1 rfl (Nat.le_of_ble_eq_true rfl) dX10_paste_2 ⟨by decide, by decide⟩) hP hS (fun _ h => h) (fun H locs hP hS => ?_)
    refine lv_topi (fun v1 ev1 => ?_)
    obtain rfl : v1 = 0 := ev1.trans (spk_hi (by decide) hb0)
    refine lv_if_eq (tgt := 16) hx hb dX10_paste_5 (by decide) (fun c3 => ?_) (fun c2 => False.elim (by revert c2; decide))
    refine lv_bipush (v := (-2)) hx hb dX10_paste_16 (by decide) ?_
    exact retPi hx hb hr hlk hS dX10_paste_18 ((spk_hi (by decide) hb0).symm)
  · rcases cs4 a3 with hn2 | hb2 | rfl | rfl | rfl | rfl
    · refine mkP (Qc := QPi (spk 4 0 (spk 4 a3 (-6) (-2)) (-2))) (by decide) (by simp [lg_sl, Value.category]) ?_
      intro p e s m args below meth c ls hx hb hml hr hlk hown ht hK hP hS hl
      have hl : lv_has ls 8 [(0, .ref h), (1, .int 0), (2, .int a2), (3, .int a3), (4, .int a4), (5, .int a5)] := hl
      refine lv_aload_n hx hb dX10_paste_0 rfl (lv_at hl 0 rfl) ?_
      refine lv_iload_n hx hb dX10_paste_1 rfl (lv_at hl 1 rfl) ?_
      refine behI (runVP (As := [.int 0]) (rest := []) ⟨hx, hb, hml, hown, ht⟩ (pX10_isSlot l G cs h q 0) okV_RX10_348 ⟨by decide, by decide⟩ hK hP [] rfl 0 rfl rfl hl.1 rfl (Nat.le_of_ble_eq_true rfl) dX10_paste_2 ⟨by decide, by decide⟩) hP hS (fun _ h => h) (fun H locs hP hS => ?_)
      refine lv_topi (fun v1 ev1 => ?_)
      obtain rfl : v1 = 1 := ev1.trans (by decide)
      refine lv_if_eq (tgt := 16) hx hb dX10_paste_5 (by decide) (fun c2 => False.elim (by revert c2; decide)) (fun c3 => ?_)
      refine lv_aload_n hx hb dX10_paste_8 rfl (lv_at hl 0 rfl) ?_
      refine lv_iload_n hx hb dX10_paste_9 rfl (lv_at hl 3 rfl) ?_
      refine behI (runVP (As := [.int a3]) (rest := []) ⟨hx, hb, hml, hown, ht⟩ (pX10_isSlot l G cs h q a3) okV_RX10_348 ⟨by decide, by decide⟩ hK hP [] rfl 0 rfl rfl hl.1 rfl (Nat.le_of_ble_eq_true rfl) dX10_paste_10 ⟨by decide, by decide⟩) hP hS (fun _ h => h) (fun H locs hP hS => ?_)
      refine lv_topi (fun v4 ev4 => ?_)
      obtain rfl : v4 = 0 := ev4.trans (spk_lo hn2)
      refine lv_if_ne (tgt := 19) hx hb dX10_paste_13 (by decide) (fun c5 => False.elim (by revert c5; decide)) (fun c6 => ?_)
      refine lv_bipush (v := (-2)) hx hb dX10_paste_16 (by decide) ?_
      exact retPi hx hb hr hlk hS dX10_paste_18 ((show _ = spk 4 _ (spk 4 a3 (-6) (-2)) (-2) by rw [spk_lo hn2]; decide))
    · refine mkP (Qc := QPi (spk 4 0 (spk 4 a3 (-6) (-2)) (-2))) (by decide) (by simp [lg_sl, Value.category]) ?_
      intro p e s m args below meth c ls hx hb hml hr hlk hown ht hK hP hS hl
      have hl : lv_has ls 8 [(0, .ref h), (1, .int 0), (2, .int a2), (3, .int a3), (4, .int a4), (5, .int a5)] := hl
      refine lv_aload_n hx hb dX10_paste_0 rfl (lv_at hl 0 rfl) ?_
      refine lv_iload_n hx hb dX10_paste_1 rfl (lv_at hl 1 rfl) ?_
      refine behI (runVP (As := [.int 0]) (rest := []) ⟨hx, hb, hml, hown, ht⟩ (pX10_isSlot l G cs h q 0) okV_RX10_348 ⟨by decide, by decide⟩ hK hP [] rfl 0 rfl rfl hl.1 rfl (Nat.le_of_ble_eq_true rfl) dX10_paste_2 ⟨by decide, by decide⟩) hP hS (fun _ h => h) (fun H locs hP hS => ?_)
      refine lv_topi (fun v1 ev1 => ?_)
      obtain rfl : v1 = 1 := ev1.trans (by decide)
      refine lv_if_eq (tgt := 16) hx hb dX10_paste_5 (by decide) (fun c2 => False.elim (by revert c2; decide)) (fun c3 => ?_)
      refine lv_aload_n hx hb dX10_paste_8 rfl (lv_at hl 0 rfl) ?_
      refine lv_iload_n hx hb dX10_paste_9 rfl (lv_at hl 3 rfl) ?_
      refine behI (runVP (As := [.int a3]) (rest := []) ⟨hx, hb, hml, hown, ht⟩ (pX10_isSlot l G cs h q a3) okV_RX10_348 ⟨by decide, by decide⟩ hK hP [] rfl 0 rfl rfl hl.1 rfl (Nat.le_of_ble_eq_true rfl) dX10_paste_10 ⟨by decide, by decide⟩) hP hS (fun _ h => h) (fun H locs hP hS => ?_)
      refine lv_topi (fun v4 ev4 => ?_)
      obtain rfl : v4 = 0 := ev4.trans (spk_hi (by decide) hb2)
      refine lv_if_ne (tgt := 19) hx hb dX10_paste_13 (by decide) (fun c5 => False.elim (by revert c5; decide)) (fun c6 => ?_)
      refine lv_bipush (v := (-2)) hx hb dX10_paste_16 (by decide) ?_
      exact retPi hx hb hr hlk hS dX10_paste_18 ((show _ = spk 4 _ (spk 4 a3 (-6) (-2)) (-2) by rw [spk_hi (by decide) hb2]; decide))
    · refine mkP (Qc := QPi (spk 4 0 (spk 4 0 (-6) (-2)) (-2))) (by decide) (by simp [lg_sl, Value.category]) ?_
      intro p e s m args below meth c ls hx hb hml hr hlk hown ht hK hP hS hl
      have hl : lv_has ls 8 [(0, .ref h), (1, .int 0), (2, .int a2), (3, .int 0), (4, .int a4), (5, .int a5)] := hl
      refine lv_aload_n hx hb dX10_paste_0 rfl (lv_at hl 0 rfl) ?_
      refine lv_iload_n hx hb dX10_paste_1 rfl (lv_at hl 1 rfl) ?_
      refine behI (runVP (As := [.int 0]) (rest := []) ⟨hx, hb, hml, hown, ht⟩ (pX10_isSlot l G cs h q 0) okV_RX10_348 ⟨by decide, by decide⟩ hK hP [] rfl 0 rfl rfl hl.1 rfl (Nat.le_of_ble_eq_true rfl) dX10_paste_2 ⟨by decide, by decide⟩) hP hS (fun _ h => h) (fun H locs hP hS => ?_)
      refine lv_topi (fun v1 ev1 => ?_)
      obtain rfl : v1 = 1 := ev1.trans (by decide)
      refine lv_if_eq (tgt := 16) hx hb dX10_paste_5 (by decide) (fun c2 => False.elim (by revert c2; decide)) (fun c3 => ?_)
      refine lv_aload_n hx hb dX10_paste_8 rfl (lv_at hl 0 rfl) ?_
      refine lv_iload_n hx hb dX10_paste_9 rfl (lv_at hl 3 rfl) ?_
      refine behI (runVP (As := [.int 0]) (rest := []) ⟨hx, hb, hml, hown, ht⟩ (pX10_isSlot l G cs h q 0) okV_RX10_348 ⟨by decide, by decide⟩ hK hP [] rfl 0 rfl rfl hl.1 rfl (Nat.le_of_ble_eq_true rfl) dX10_paste_10 ⟨by decide, by decide⟩) hP hS (fun _ h => h) (fun H locs hP hS => ?_)
      refine lv_topi (fun v4 ev4 => ?_)
      obtain rfl : v4 = 1 := ev4.trans (by decide)
      refine lv_if_ne (tgt := 19) hx hb dX10_paste_13 (by decide) (fun c6 => ?_) (fun c5 => False.elim (by revert c5; decide))
      refine lv_aload_n hx hb dX10_paste_19 rfl (lv_at hl 0 rfl) ?_
      refine getF hx hb ht hown hK hP iTX10 0 5 rfl rfl (by decide) fl_RX10_41 rfl dX10_paste_20 ?_
      refine lv_iload_n hx hb dX10_paste_23 rfl (lv_at hl 1 rfl) ?_
      refine va_aldq hx hb hK.1 hP 1 5 rfl rfl (show ¬ (_ ∨ _) by decide) dX10_paste_24 ?_
      refine W.eq (g2 := F0 m 25 ls [.ref (q 54)]) rfl ?_
      refine lv_astore (lv' := [(6, .ref (q 54)), (0, .ref h), (1, .int 0), (2, .int a2), (3, .int 0), (4, .int a4), (5, .int a5)]) hx hb dX10_paste_25 hl (by decide) rfl (fun ls hl => ?_)
      refine lv_aload_n hx hb dX10_paste_27 rfl (lv_at hl 1 rfl) ?_
      refine getF hx hb ht hown hK hP iTX10 0 5 rfl rfl (by decide) fl_RX10_41 rfl dX10_paste_28 ?_
      refine lv_iload_n hx hb dX10_paste_31 rfl (lv_at hl 4 rfl) ?_
      refine va_aldq hx hb hK.1 hP 1 5 rfl rfl (show ¬ (_ ∨ _) by decide) dX10_paste_32 ?_
      refine W.eq (g2 := F0 m 33 ls [.ref (q 54)]) rfl ?_
      refine lv_astore (lv' := [(7, .ref (q 54)), (6, .ref (q 54)), (0, .ref h), (1, .int 0), (2, .int a2), (3, .int 0), (4, .int a4), (5, .int a5)]) hx hb dX10_paste_33 hl (by decide) rfl (fun ls hl => ?_)
      refine lv_aload hx hb dX10_paste_35 (lv_at hl 1 rfl) ?_
      refine getF hx hb ht hown hK hP iTX7 2 1 rfl rfl (by decide) fl_RX10_354 rfl dX10_paste_37 ?_
      refine lv_if_eq (tgt := 51) hx hb dX10_paste_40 (by decide) (fun c8 => ?_) (fun c7 => False.elim (by revert c7; decide))
      refine lv_bipush (v := (-6)) hx hb dX10_paste_51 (by decide) ?_
      exact retPi hx hb hr hlk hS dX10_paste_53 (by decide)
    · refine mkP (Qc := QPi (spk 4 0 (spk 4 1 (-6) (-2)) (-2))) (by decide) (by simp [lg_sl, Value.category]) ?_
      intro p e s m args below meth c ls hx hb hml hr hlk hown ht hK hP hS hl
      have hl : lv_has ls 8 [(0, .ref h), (1, .int 0), (2, .int a2), (3, .int 1), (4, .int a4), (5, .int a5)] := hl
      refine lv_aload_n hx hb dX10_paste_0 rfl (lv_at hl 0 rfl) ?_
      refine lv_iload_n hx hb dX10_paste_1 rfl (lv_at hl 1 rfl) ?_
      refine behI (runVP (As := [.int 0]) (rest := []) ⟨hx, hb, hml, hown, ht⟩ (pX10_isSlot l G cs h q 0) okV_RX10_348 ⟨by decide, by decide⟩ hK hP [] rfl 0 rfl rfl hl.1 rfl (Nat.le_of_ble_eq_true rfl) dX10_paste_2 ⟨by decide, by decide⟩) hP hS (fun _ h => h) (fun H locs hP hS => ?_)
      refine lv_topi (fun v1 ev1 => ?_)
      obtain rfl : v1 = 1 := ev1.trans (by decide)
      refine lv_if_eq (tgt := 16) hx hb dX10_paste_5 (by decide) (fun c2 => False.elim (by revert c2; decide)) (fun c3 => ?_)
      refine lv_aload_n hx hb dX10_paste_8 rfl (lv_at hl 0 rfl) ?_
      refine lv_iload_n hx hb dX10_paste_9 rfl (lv_at hl 3 rfl) ?_
      refine behI (runVP (As := [.int 1]) (rest := []) ⟨hx, hb, hml, hown, ht⟩ (pX10_isSlot l G cs h q 1) okV_RX10_348 ⟨by decide, by decide⟩ hK hP [] rfl 0 rfl rfl hl.1 rfl (Nat.le_of_ble_eq_true rfl) dX10_paste_10 ⟨by decide, by decide⟩) hP hS (fun _ h => h) (fun H locs hP hS => ?_)
      refine lv_topi (fun v4 ev4 => ?_)
      obtain rfl : v4 = 1 := ev4.trans (by decide)
      refine lv_if_ne (tgt := 19) hx hb dX10_paste_13 (by decide) (fun c6 => ?_) (fun c5 => False.elim (by revert c5; decide))
      refine lv_aload_n hx hb dX10_paste_19 rfl (lv_at hl 0 rfl) ?_
      refine getF hx hb ht hown hK hP iTX10 0 5 rfl rfl (by decide) fl_RX10_41 rfl dX10_paste_20 ?_
      refine lv_iload_n hx hb dX10_paste_23 rfl (lv_at hl 1 rfl) ?_
      refine va_aldq hx hb hK.1 hP 1 5 rfl rfl (show ¬ (_ ∨ _) by decide) dX10_paste_24 ?_
      refine W.eq (g2 := F0 m 25 ls [.ref (q 54)]) rfl ?_
      refine lv_astore (lv' := [(6, .ref (q 54)), (0, .ref h), (1, .int 0), (2, .int a2), (3, .int 1), (4, .int a4), (5, .int a5)]) hx hb dX10_paste_25 hl (by decide) rfl (fun ls hl => ?_)
      refine lv_aload_n hx hb dX10_paste_27 rfl (lv_at hl 1 rfl) ?_
      refine getF hx hb ht hown hK hP iTX10 0 5 rfl rfl (by decide) fl_RX10_41 rfl dX10_paste_28 ?_
      refine lv_iload_n hx hb dX10_paste_31 rfl (lv_at hl 4 rfl) ?_
      refine va_aldq hx hb hK.1 hP 1 5 rfl rfl (show ¬ (_ ∨ _) by decide) dX10_paste_32 ?_
      refine W.eq (g2 := F0 m 33 ls [.ref (q 56)]) rfl ?_
      refine lv_astore (lv' := [(7, .ref (q 56)), (6, .ref (q 54)), (0, .ref h), (1, .int 0), (2, .int a2), (3, .int 1), (4, .int a4), (5, .int a5)]) hx hb dX10_paste_33 hl (by decide) rfl (fun ls hl => ?_)
      refine lv_aload hx hb dX10_paste_35 (lv_at hl 1 rfl) ?_
      refine getF hx hb ht hown hK hP iTX7 2 1 rfl rfl (by decide) fl_RX10_354 rfl dX10_paste_37 ?_
      refine lv_if_eq (tgt := 51) hx hb dX10_paste_40 (by decide) (fun c8 => ?_) (fun c7 => False.elim (by revert c7; decide))
      refine lv_bipush (v := (-6)) hx hb dX10_paste_51 (by decide) ?_
      exact retPi hx hb hr hlk hS dX10_paste_53 (by decide)
    · refine mkP (Qc := QPi (spk 4 0 (spk 4 2 (-6) (-2)) (-2))) (by decide) (by simp [lg_sl, Value.category]) ?_
      intro p e s m args below meth c ls hx hb hml hr hlk hown ht hK hP hS hl
      have hl : lv_has ls 8 [(0, .ref h), (1, .int 0), (2, .int a2), (3, .int 2), (4, .int a4), (5, .int a5)] := hl
      refine lv_aload_n hx hb dX10_paste_0 rfl (lv_at hl 0 rfl) ?_
      refine lv_iload_n hx hb dX10_paste_1 rfl (lv_at hl 1 rfl) ?_
      refine behI (runVP (As := [.int 0]) (rest := []) ⟨hx, hb, hml, hown, ht⟩ (pX10_isSlot l G cs h q 0) okV_RX10_348 ⟨by decide, by decide⟩ hK hP [] rfl 0 rfl rfl hl.1 rfl (Nat.le_of_ble_eq_true rfl) dX10_paste_2 ⟨by decide, by decide⟩) hP hS (fun _ h => h) (fun H locs hP hS => ?_)
      refine lv_topi (fun v1 ev1 => ?_)
      obtain rfl : v1 = 1 := ev1.trans (by decide)
      refine lv_if_eq (tgt := 16) hx hb dX10_paste_5 (by decide) (fun c2 => False.elim (by revert c2; decide)) (fun c3 => ?_)
      refine lv_aload_n hx hb dX10_paste_8 rfl (lv_at hl 0 rfl) ?_
      refine lv_iload_n hx hb dX10_paste_9 rfl (lv_at hl 3 rfl) ?_
      refine behI (runVP (As := [.int 2]) (rest := []) ⟨hx, hb, hml, hown, ht⟩ (pX10_isSlot l G cs h q 2) okV_RX10_348 ⟨by decide, by decide⟩ hK hP [] rfl 0 rfl rfl hl.1 rfl (Nat.le_of_ble_eq_true rfl) dX10_paste_10 ⟨by decide, by decide⟩) hP hS (fun _ h => h) (fun H locs hP hS => ?_)
      refine lv_topi (fun v4 ev4 => ?_)
      obtain rfl : v4 = 1 := ev4.trans (by decide)
      refine lv_if_ne (tgt := 19) hx hb dX10_paste_13 (by decide) (fun c6 => ?_) (fun c5 => False.elim (by revert c5; decide))
      refine lv_aload_n hx hb dX10_paste_19 rfl (lv_at hl 0 rfl) ?_
      refine getF hx hb ht hown hK hP iTX10 0 5 rfl rfl (by decide) fl_RX10_41 rfl dX10_paste_20 ?_
      refine lv_iload_n hx hb dX10_paste_23 rfl (lv_at hl 1 rfl) ?_
      refine va_aldq hx hb hK.1 hP 1 5 rfl rfl (show ¬ (_ ∨ _) by decide) dX10_paste_24 ?_
      refine W.eq (g2 := F0 m 25 ls [.ref (q 54)]) rfl ?_
      refine lv_astore (lv' := [(6, .ref (q 54)), (0, .ref h), (1, .int 0), (2, .int a2), (3, .int 2), (4, .int a4), (5, .int a5)]) hx hb dX10_paste_25 hl (by decide) rfl (fun ls hl => ?_)
      refine lv_aload_n hx hb dX10_paste_27 rfl (lv_at hl 1 rfl) ?_
      refine getF hx hb ht hown hK hP iTX10 0 5 rfl rfl (by decide) fl_RX10_41 rfl dX10_paste_28 ?_
      refine lv_iload_n hx hb dX10_paste_31 rfl (lv_at hl 4 rfl) ?_
      refine va_aldq hx hb hK.1 hP 1 5 rfl rfl (show ¬ (_ ∨ _) by decide) dX10_paste_32 ?_
      refine W.eq (g2 := F0 m 33 ls [.ref (q 58)]) rfl ?_
      refine lv_astore (lv' := [(7, .ref (q 58)), (6, .ref (q 54)), (0, .ref h), (1, .int 0), (2, .int a2), (3, .int 2), (4, .int a4), (5, .int a5)]) hx hb dX10_paste_33 hl (by decide) rfl (fun ls hl => ?_)
      refine lv_aload hx hb dX10_paste_35 (lv_at hl 1 rfl) ?_
      refine getF hx hb ht hown hK hP iTX7 2 1 rfl rfl (by decide) fl_RX10_354 rfl dX10_paste_37 ?_
      refine lv_if_eq (tgt := 51) hx hb dX10_paste_40 (by decide) (fun c8 => ?_) (fun c7 => False.elim (by revert c7; decide))
      refine lv_bipush (v := (-6)) hx hb dX10_paste_51 (by decide) ?_
      exact retPi hx hb hr hlk hS dX10_paste_53 (by decide)
    · refine mkP (Qc := QPi (spk 4 0 (spk 4 3 (-6) (-2)) (-2))) (by decide) (by simp [lg_sl, Value.category]) ?_
      intro p e s m args below meth c ls hx hb hml hr hlk hown ht hK hP hS hl
      have hl : lv_has ls 8 [(0, .ref h), (1, .int 0), (2, .int a2), (3, .int 3), (4, .int a4), (5, .int a5)] := hl
      refine lv_aload_n hx hb dX10_paste_0 rfl (lv_at hl 0 rfl) ?_
      refine lv_iload_n hx hb dX10_paste_1 rfl (lv_at hl 1 rfl) ?_
      refine behI (runVP (As := [.int 0]) (rest := []) ⟨hx, hb, hml, hown, ht⟩ (pX10_isSlot l G cs h q 0) okV_RX10_348 ⟨by decide, by decide⟩ hK hP [] rfl 0 rfl rfl hl.1 rfl (Nat.le_of_ble_eq_true rfl) dX10_paste_2 ⟨by decide, by decide⟩) hP hS (fun _ h => h) (fun H locs hP hS => ?_)
      refine lv_topi (fun v1 ev1 => ?_)
      obtain rfl : v1 = 1 := ev1.trans (by decide)
      refine lv_if_eq (tgt := 16) hx hb dX10_paste_5 (by decide) (fun c2 => False.elim (by revert c2; decide)) (fun c3 => ?_)
      refine lv_aload_n hx hb dX10_paste_8 rfl (lv_at hl 0 rfl) ?_
      refine lv_iload_n hx hb dX10_paste_9 rfl (lv_at hl 3 rfl) ?_
      refine behI (runVP (As := [.int 3]) (rest := []) ⟨hx, hb, hml, hown, ht⟩ (pX10_isSlot l G cs h q 3) okV_RX10_348 ⟨by decide, by decide⟩ hK hP [] rfl 0 rfl rfl hl.1 rfl (Nat.le_of_ble_eq_true rfl) dX10_paste_10 ⟨by decide, by decide⟩) hP hS (fun _ h => h) (fun H locs hP hS => ?_)
      refine lv_topi (fun v4 ev4 => ?_)
      obtain rfl : v4 = 1 := ev4.trans (by decide)
      refine lv_if_ne (tgt := 19) hx hb dX10_paste_13 (by decide) (fun c6 => ?_) (fun c5 => False.elim (by revert c5; decide))
      refine lv_aload_n hx hb dX10_paste_19 rfl (lv_at hl 0 rfl) ?_
      refine getF hx hb ht hown hK hP iTX10 0 5 rfl rfl (by decide) fl_RX10_41 rfl dX10_paste_20 ?_
      refine lv_iload_n hx hb dX10_paste_23 rfl (lv_at hl 1 rfl) ?_
      refine va_aldq hx hb hK.1 hP 1 5 rfl rfl (show ¬ (_ ∨ _) by decide) dX10_paste_24 ?_
      refine W.eq (g2 := F0 m 25 ls [.ref (q 54)]) rfl ?_
      refine lv_astore (lv' := [(6, .ref (q 54)), (0, .ref h), (1, .int 0), (2, .int a2), (3, .int 3), (4, .int a4), (5, .int a5)]) hx hb dX10_paste_25 hl (by decide) rfl (fun ls hl => ?_)
      refine lv_aload_n hx hb dX10_paste_27 rfl (lv_at hl 1 rfl) ?_
      refine getF hx hb ht hown hK hP iTX10 0 5 rfl rfl (by decide) fl_RX10_41 rfl dX10_paste_28 ?_
      refine lv_iload_n hx hb dX10_paste_31 rfl (lv_at hl 4 rfl) ?_
      refine va_aldq hx hb hK.1 hP 1 5 rfl rfl (show ¬ (_ ∨ _) by decide) dX10_paste_32 ?_
      refine W.eq (g2 := F0 m 33 ls [.ref (q 60)]) rfl ?_
      refine lv_astore (lv' := [(7, .ref (q 60)), (6, .ref (q 54)), (0, .ref h), (1, .int 0), (2, .int a2), (3, .int 3), (4, .int a4), (5, .int a5)]) hx hb dX10_paste_33 hl (by decide) rfl (fun ls hl => ?_)
      refine lv_aload hx hb dX10_paste_35 (lv_at hl 1 rfl) ?_
      refine getF hx hb ht hown hK hP iTX7 2 1 rfl rfl (by decide) fl_RX10_354 rfl dX10_paste_37 ?_
      refine lv_if_eq (tgt := 51) hx hb dX10_paste_40 (by decide) (fun c8 => ?_) (fun c7 => False.elim (by revert c7; decide))
      refine lv_bipush (v := (-6)) hx hb dX10_paste_51 (by decide) ?_
      exact retPi hx hb hr hlk hS dX10_paste_53 (by decide)
  · rcases cs4 a3 with hn2 | hb2 | rfl | rfl | rfl | rfl
    · refine mkP (Qc := QPi (spk 4 1 (spk 4 a3 (-6) (-2)) (-2))) (by decide) (by simp [lg_sl, Value.category]) ?_
      intro p e s m args below meth c ls hx hb hml hr hlk hown ht hK hP hS hl
      have hl : lv_has ls 8 [(0, .ref h), (1, .int 1), (2, .int a2), (3, .int a3), (4, .int a4), (5, .int a5)] := hl
      refine lv_aload_n hx hb dX10_paste_0 rfl (lv_at hl 0 rfl) ?_
      refine lv_iload_n hx hb dX10_paste_1 rfl (lv_at hl 1 rfl) ?_
      refine behI (runVP (As := [.int 1]) (rest := []) ⟨hx, hb, hml, hown, ht⟩ (pX10_isSlot l G cs h q 1) okV_RX10_348 ⟨by decide, by decide⟩ hK hP [] rfl 0 rfl rfl hl.1 rfl (Nat.le_of_ble_eq_true rfl) dX10_paste_2 ⟨by decide, by decide⟩) hP hS (fun _ h => h) (fun H locs hP hS => ?_)
      refine lv_topi (fun v1 ev1 => ?_)
      obtain rfl : v1 = 1 := ev1.trans (by decide)
      refine lv_if_eq (tgt := 16) hx hb dX10_paste_5 (by decide) (fun c2 => False.elim (by revert c2; decide)) (fun c3 => ?_)
      refine lv_aload_n hx hb dX10_paste_8 rfl (lv_at hl 0 rfl) ?_
      refine lv_iload_n hx hb dX10_paste_9 rfl (lv_at hl 3 rfl) ?_
      refine behI (runVP (As := [.int a3]) (rest := []) ⟨hx, hb, hml, hown, ht⟩ (pX10_isSlot l G cs h q a3) okV_RX10_348 ⟨by decide, by decide⟩ hK hP [] rfl 0 rfl rfl hl.1 rfl (Nat.le_of_ble_eq_true rfl) dX10_paste_10 ⟨by decide, by decide⟩) hP hS (fun _ h => h) (fun H locs hP hS => ?_)
      refine lv_topi (fun v4 ev4 => ?_)
      obtain rfl : v4 = 0 := ev4.trans (spk_lo hn2)
      refine lv_if_ne (tgt := 19) hx hb dX10_paste_13 (by decide) (fun c5 => False.elim (by revert c5; decide)) (fun c6 => ?_)
      refine lv_bipush (v := (-2)) hx hb dX10_paste_16 (by decide) ?_
      exact retPi hx hb hr hlk hS dX10_paste_18 ((show _ = spk 4 _ (spk 4 a3 (-6) (-2)) (-2) by rw [spk_lo hn2]; decide))
    · refine mkP (Qc := QPi (spk 4 1 (spk 4 a3 (-6) (-2)) (-2))) (by decide) (by simp [lg_sl, Value.category]) ?_
      intro p e s m args below meth c ls hx hb hml hr hlk hown ht hK hP hS hl
      have hl : lv_has ls 8 [(0, .ref h), (1, .int 1), (2, .int a2), (3, .int a3), (4, .int a4), (5, .int a5)] := hl
      refine lv_aload_n hx hb dX10_paste_0 rfl (lv_at hl 0 rfl) ?_
      refine lv_iload_n hx hb dX10_paste_1 rfl (lv_at hl 1 rfl) ?_
      refine behI (runVP (As := [.int 1]) (rest := []) ⟨hx, hb, hml, hown, ht⟩ (pX10_isSlot l G cs h q 1) okV_RX10_348 ⟨by decide, by decide⟩ hK hP [] rfl 0 rfl rfl hl.1 rfl (Nat.le_of_ble_eq_true rfl) dX10_paste_2 ⟨by decide, by decide⟩) hP hS (fun _ h => h) (fun H locs hP hS => ?_)
      refine lv_topi (fun v1 ev1 => ?_)
      obtain rfl : v1 = 1 := ev1.trans (by decide)
      refine lv_if_eq (tgt := 16) hx hb dX10_paste_5 (by decide) (fun c2 => False.elim (by revert c2; decide)) (fun c3 => ?_)
      refine lv_aload_n hx hb dX10_paste_8 rfl (lv_at hl 0 rfl) ?_
      refine lv_iload_n hx hb dX10_paste_9 rfl (lv_at hl 3 rfl) ?_
      refine behI (runVP (As := [.int a3]) (rest := []) ⟨hx, hb, hml, hown, ht⟩ (pX10_isSlot l G cs h q a3) okV_RX10_348 ⟨by decide, by decide⟩ hK hP [] rfl 0 rfl rfl hl.1 rfl (Nat.le_of_ble_eq_true rfl) dX10_paste_10 ⟨by decide, by decide⟩) hP hS (fun _ h => h) (fun H locs hP hS => ?_)
      refine lv_topi (fun v4 ev4 => ?_)
      obtain rfl : v4 = 0 := ev4.trans (spk_hi (by decide) hb2)
      refine lv_if_ne (tgt := 19) hx hb dX10_paste_13 (by decide) (fun c5 => False.elim (by revert c5; decide)) (fun c6 => ?_)
      refine lv_bipush (v := (-2)) hx hb dX10_paste_16 (by decide) ?_
      exact retPi hx hb hr hlk hS dX10_paste_18 ((show _ = spk 4 _ (spk 4 a3 (-6) (-2)) (-2) by rw [spk_hi (by decide) hb2]; decide))
    · refine mkP (Qc := QPi (spk 4 1 (spk 4 0 (-6) (-2)) (-2))) (by decide) (by simp [lg_sl, Value.category]) ?_
      intro p e s m args below meth c ls hx hb hml hr hlk hown ht hK hP hS hl
      have hl : lv_has ls 8 [(0, .ref h), (1, .int 1), (2, .int a2), (3, .int 0), (4, .int a4), (5, .int a5)] := hl
      refine lv_aload_n hx hb dX10_paste_0 rfl (lv_at hl 0 rfl) ?_
      refine lv_iload_n hx hb dX10_paste_1 rfl (lv_at hl 1 rfl) ?_
      refine behI (runVP (As := [.int 1]) (rest := []) ⟨hx, hb, hml, hown, ht⟩ (pX10_isSlot l G cs h q 1) okV_RX10_348 ⟨by decide, by decide⟩ hK hP [] rfl 0 rfl rfl hl.1 rfl (Nat.le_of_ble_eq_true rfl) dX10_paste_2 ⟨by decide, by decide⟩) hP hS (fun _ h => h) (fun H locs hP hS => ?_)
      refine lv_topi (fun v1 ev1 => ?_)
      obtain rfl : v1 = 1 := ev1.trans (by decide)
      refine lv_if_eq (tgt := 16) hx hb dX10_paste_5 (by decide) (fun c2 => False.elim (by revert c2; decide)) (fun c3 => ?_)
      refine lv_aload_n hx hb dX10_paste_8 rfl (lv_at hl 0 rfl) ?_
      refine lv_iload_n hx hb dX10_paste_9 rfl (lv_at hl 3 rfl) ?_
      refine behI (runVP (As := [.int 0]) (rest := []) ⟨hx, hb, hml, hown, ht⟩ (pX10_isSlot l G cs h q 0) okV_RX10_348 ⟨by decide, by decide⟩ hK hP [] rfl 0 rfl rfl hl.1 rfl (Nat.le_of_ble_eq_true rfl) dX10_paste_10 ⟨by decide, by decide⟩) hP hS (fun _ h => h) (fun H locs hP hS => ?_)
      refine lv_topi (fun v4 ev4 => ?_)
      obtain rfl : v4 = 1 := ev4.trans (by decide)
      refine lv_if_ne (tgt := 19) hx hb dX10_paste_13 (by decide) (fun c6 => ?_) (fun c5 => False.elim (by revert c5; decide))
      refine lv_aload_n hx hb dX10_paste_19 rfl (lv_at hl 0 rfl) ?_
      refine getF hx hb ht hown hK hP iTX10 0 5 rfl rfl (by decide) fl_RX10_41 rfl dX10_paste_20 ?_
      refine lv_iload_n hx hb dX10_paste_23 rfl (lv_at hl 1 rfl) ?_
      refine va_aldq hx hb hK.1 hP 1 5 rfl rfl (show ¬ (_ ∨ _) by decide) dX10_paste_24 ?_
      refine W.eq (g2 := F0 m 25 ls [.ref (q 56)]) rfl ?_
      refine lv_astore (lv' := [(6, .ref (q 56)), (0, .ref h), (1, .int 1), (2, .int a2), (3, .int 0), (4, .int a4), (5, .int a5)]) hx hb dX10_paste_25 hl (by decide) rfl (fun ls hl => ?_)
      refine lv_aload_n hx hb dX10_paste_27 rfl (lv_at hl 1 rfl) ?_
      refine getF hx hb ht hown hK hP iTX10 0 5 rfl rfl (by decide) fl_RX10_41 rfl dX10_paste_28 ?_
      refine lv_iload_n hx hb dX10_paste_31 rfl (lv_at hl 4 rfl) ?_
      refine va_aldq hx hb hK.1 hP 1 5 rfl rfl (show ¬ (_ ∨ _) by decide) dX10_paste_32 ?_
      refine W.eq (g2 := F0 m 33 ls [.ref (q 54)]) rfl ?_
      refine lv_astore (lv' := [(7, .ref (q 54)), (6, .ref (q 56)), (0, .ref h), (1, .int 1), (2, .int a2), (3, .int 0), (4, .int a4), (5, .int a5)]) hx hb dX10_paste_33 hl (by decide) rfl (fun ls hl => ?_)
      refine lv_aload hx hb dX10_paste_35 (lv_at hl 1 rfl) ?_
      refine getF hx hb ht hown hK hP iTX7 3 1 rfl rfl (by decide) fl_RX10_354 rfl dX10_paste_37 ?_
      refine lv_if_eq (tgt := 51) hx hb dX10_paste_40 (by decide) (fun c8 => ?_) (fun c7 => False.elim (by revert c7; decide))
      refine lv_bipush (v := (-6)) hx hb dX10_paste_51 (by decide) ?_
      exact retPi hx hb hr hlk hS dX10_paste_53 (by decide)
    · refine mkP (Qc := QPi (spk 4 1 (spk 4 1 (-6) (-2)) (-2))) (by decide) (by simp [lg_sl, Value.category]) ?_
      intro p e s m args below meth c ls hx hb hml hr hlk hown ht hK hP hS hl
      have hl : lv_has ls 8 [(0, .ref h), (1, .int 1), (2, .int a2), (3, .int 1), (4, .int a4), (5, .int a5)] := hl
      refine lv_aload_n hx hb dX10_paste_0 rfl (lv_at hl 0 rfl) ?_
      refine lv_iload_n hx hb dX10_paste_1 rfl (lv_at hl 1 rfl) ?_
      refine behI (runVP (As := [.int 1]) (rest := []) ⟨hx, hb, hml, hown, ht⟩ (pX10_isSlot l G cs h q 1) okV_RX10_348 ⟨by decide, by decide⟩ hK hP [] rfl 0 rfl rfl hl.1 rfl (Nat.le_of_ble_eq_true rfl) dX10_paste_2 ⟨by decide, by decide⟩) hP hS (fun _ h => h) (fun H locs hP hS => ?_)
      refine lv_topi (fun v1 ev1 => ?_)
      obtain rfl : v1 = 1 := ev1.trans (by decide)
      refine lv_if_eq (tgt := 16) hx hb dX10_paste_5 (by decide) (fun c2 => False.elim (by revert c2; decide)) (fun c3 => ?_)
      refine lv_aload_n hx hb dX10_paste_8 rfl (lv_at hl 0 rfl) ?_
      refine lv_iload_n hx hb dX10_paste_9 rfl (lv_at hl 3 rfl) ?_
      refine behI (runVP (As := [.int 1]) (rest := []) ⟨hx, hb, hml, hown, ht⟩ (pX10_isSlot l G cs h q 1) okV_RX10_348 ⟨by decide, by decide⟩ hK hP [] rfl 0 rfl rfl hl.1 rfl (Nat.le_of_ble_eq_true rfl) dX10_paste_10 ⟨by decide, by decide⟩) hP hS (fun _ h => h) (fun H locs hP hS => ?_)
      refine lv_topi (fun v4 ev4 => ?_)
      obtain rfl : v4 = 1 := ev4.trans (by decide)
      refine lv_if_ne (tgt := 19) hx hb dX10_paste_13 (by decide) (fun c6 => ?_) (fun c5 => False.elim (by revert c5; decide))
      refine lv_aload_n hx hb dX10_paste_19 rfl (lv_at hl 0 rfl) ?_
      refine getF hx hb ht hown hK hP iTX10 0 5 rfl rfl (by decide) fl_RX10_41 rfl dX10_paste_20 ?_
      refine lv_iload_n hx hb dX10_paste_23 rfl (lv_at hl 1 rfl) ?_
      refine va_aldq hx hb hK.1 hP 1 5 rfl rfl (show ¬ (_ ∨ _) by decide) dX10_paste_24 ?_
      refine W.eq (g2 := F0 m 25 ls [.ref (q 56)]) rfl ?_
      refine lv_astore (lv' := [(6, .ref (q 56)), (0, .ref h), (1, .int 1), (2, .int a2), (3, .int 1), (4, .int a4), (5, .int a5)]) hx hb dX10_paste_25 hl (by decide) rfl (fun ls hl => ?_)
      refine lv_aload_n hx hb dX10_paste_27 rfl (lv_at hl 1 rfl) ?_
      refine getF hx hb ht hown hK hP iTX10 0 5 rfl rfl (by decide) fl_RX10_41 rfl dX10_paste_28 ?_
      refine lv_iload_n hx hb dX10_paste_31 rfl (lv_at hl 4 rfl) ?_
      refine va_aldq hx hb hK.1 hP 1 5 rfl rfl (show ¬ (_ ∨ _) by decide) dX10_paste_32 ?_
      refine W.eq (g2 := F0 m 33 ls [.ref (q 56)]) rfl ?_
      refine lv_astore (lv' := [(7, .ref (q 56)), (6, .ref (q 56)), (0, .ref h), (1, .int 1), (2, .int a2), (3, .int 1), (4, .int a4), (5, .int a5)]) hx hb dX10_paste_33 hl (by decide) rfl (fun ls hl => ?_)
      refine lv_aload hx hb dX10_paste_35 (lv_at hl 1 rfl) ?_
      refine getF hx hb ht hown hK hP iTX7 3 1 rfl rfl (by decide) fl_RX10_354 rfl dX10_paste_37 ?_
      refine lv_if_eq (tgt := 51) hx hb dX10_paste_40 (by decide) (fun c8 => ?_) (fun c7 => False.elim (by revert c7; decide))
      refine lv_bipush (v := (-6)) hx hb dX10_paste_51 (by decide) ?_
      exact retPi hx hb hr hlk hS dX10_paste_53 (by decide)
    · refine mkP (Qc := QPi (spk 4 1 (spk 4 2 (-6) (-2)) (-2))) (by decide) (by simp [lg_sl, Value.category]) ?_
      intro p e s m args below meth c ls hx hb hml hr hlk hown ht hK hP hS hl
      have hl : lv_has ls 8 [(0, .ref h), (1, .int 1), (2, .int a2), (3, .int 2), (4, .int a4), (5, .int a5)] := hl
      refine lv_aload_n hx hb dX10_paste_0 rfl (lv_at hl 0 rfl) ?_
      refine lv_iload_n hx hb dX10_paste_1 rfl (lv_at hl 1 rfl) ?_
      refine behI (runVP (As := [.int 1]) (rest := []) ⟨hx, hb, hml, hown, ht⟩ (pX10_isSlot l G cs h q 1) okV_RX10_348 ⟨by decide, by decide⟩ hK hP [] rfl 0 rfl rfl hl.1 rfl (Nat.le_of_ble_eq_true rfl) dX10_paste_2 ⟨by decide, by decide⟩) hP hS (fun _ h => h) (fun H locs hP hS => ?_)
      refine lv_topi (fun v1 ev1 => ?_)
      obtain rfl : v1 = 1 := ev1.trans (by decide)
      refine lv_if_eq (tgt := 16) hx hb dX10_paste_5 (by decide) (fun c2 => False.elim (by revert c2; decide)) (fun c3 => ?_)
      refine lv_aload_n hx hb dX10_paste_8 rfl (lv_at hl 0 rfl) ?_
      refine lv_iload_n hx hb dX10_paste_9 rfl (lv_at hl 3 rfl) ?_
      refine behI (runVP (As := [.int 2]) (rest := []) ⟨hx, hb, hml, hown, ht⟩ (pX10_isSlot l G cs h q 2) okV_RX10_348 ⟨by decide, by decide⟩ hK hP [] rfl 0 rfl rfl hl.1 rfl (Nat.le_of_ble_eq_true rfl) dX10_paste_10 ⟨by decide, by decide⟩) hP hS (fun _ h => h) (fun H locs hP hS => ?_)
      refine lv_topi (fun v4 ev4 => ?_)
      obtain rfl : v4 = 1 := ev4.trans (by decide)
      refine lv_if_ne (tgt := 19) hx hb dX10_paste_13 (by decide) (fun c6 => ?_) (fun c5 => False.elim (by revert c5; decide))
      refine lv_aload_n hx hb dX10_paste_19 rfl (lv_at hl 0 rfl) ?_
      refine getF hx hb ht hown hK hP iTX10 0 5 rfl rfl (by decide) fl_RX10_41 rfl dX10_paste_20 ?_
      refine lv_iload_n hx hb dX10_paste_23 rfl (lv_at hl 1 rfl) ?_
      refine va_aldq hx hb hK.1 hP 1 5 rfl rfl (show ¬ (_ ∨ _) by decide) dX10_paste_24 ?_
      refine W.eq (g2 := F0 m 25 ls [.ref (q 56)]) rfl ?_
      refine lv_astore (lv' := [(6, .ref (q 56)), (0, .ref h), (1, .int 1), (2, .int a2), (3, .int 2), (4, .int a4), (5, .int a5)]) hx hb dX10_paste_25 hl (by decide) rfl (fun ls hl => ?_)
      refine lv_aload_n hx hb dX10_paste_27 rfl (lv_at hl 1 rfl) ?_
      refine getF hx hb ht hown hK hP iTX10 0 5 rfl rfl (by decide) fl_RX10_41 rfl dX10_paste_28 ?_
      refine lv_iload_n hx hb dX10_paste_31 rfl (lv_at hl 4 rfl) ?_
      refine va_aldq hx hb hK.1 hP 1 5 rfl rfl (show ¬ (_ ∨ _) by decide) dX10_paste_32 ?_
      refine W.eq (g2 := F0 m 33 ls [.ref (q 58)]) rfl ?_
      refine lv_astore (lv' := [(7, .ref (q 58)), (6, .ref (q 56)), (0, .ref h), (1, .int 1), (2, .int a2), (3, .int 2), (4, .int a4), (5, .int a5)]) hx hb dX10_paste_33 hl (by decide) rfl (fun ls hl => ?_)
      refine lv_aload hx hb dX10_paste_35 (lv_at hl 1 rfl) ?_
      refine getF hx hb ht hown hK hP iTX7 3 1 rfl rfl (by decide) fl_RX10_354 rfl dX10_paste_37 ?_
      refine lv_if_eq (tgt := 51) hx hb dX10_paste_40 (by decide) (fun c8 => ?_) (fun c7 => False.elim (by revert c7; decide))
      refine lv_bipush (v := (-6)) hx hb dX10_paste_51 (by decide) ?_
      exact retPi hx hb hr hlk hS dX10_paste_53 (by decide)
    · refine mkP (Qc := QPi (spk 4 1 (spk 4 3 (-6) (-2)) (-2))) (by decide) (by simp [lg_sl, Value.category]) ?_
      intro p e s m args below meth c ls hx hb hml hr hlk hown ht hK hP hS hl
      have hl : lv_has ls 8 [(0, .ref h), (1, .int 1), (2, .int a2), (3, .int 3), (4, .int a4), (5, .int a5)] := hl
      refine lv_aload_n hx hb dX10_paste_0 rfl (lv_at hl 0 rfl) ?_
      refine lv_iload_n hx hb dX10_paste_1 rfl (lv_at hl 1 rfl) ?_
      refine behI (runVP (As := [.int 1]) (rest := []) ⟨hx, hb, hml, hown, ht⟩ (pX10_isSlot l G cs h q 1) okV_RX10_348 ⟨by decide, by decide⟩ hK hP [] rfl 0 rfl rfl hl.1 rfl (Nat.le_of_ble_eq_true rfl) dX10_paste_2 ⟨by decide, by decide⟩) hP hS (fun _ h => h) (fun H locs hP hS => ?_)
      refine lv_topi (fun v1 ev1 => ?_)
      obtain rfl : v1 = 1 := ev1.trans (by decide)
      refine lv_if_eq (tgt := 16) hx hb dX10_paste_5 (by decide) (fun c2 => False.elim (by revert c2; decide)) (fun c3 => ?_)
      refine lv_aload_n hx hb dX10_paste_8 rfl (lv_at hl 0 rfl) ?_
      refine lv_iload_n hx hb dX10_paste_9 rfl (lv_at hl 3 rfl) ?_
      refine behI (runVP (As := [.int 3]) (rest := []) ⟨hx, hb, hml, hown, ht⟩ (pX10_isSlot l G cs h q 3) okV_RX10_348 ⟨by decide, by decide⟩ hK hP [] rfl 0 rfl rfl hl.1 rfl (Nat.le_of_ble_eq_true rfl) dX10_paste_10 ⟨by decide, by decide⟩) hP hS (fun _ h => h) (fun H locs hP hS => ?_)
      refine lv_topi (fun v4 ev4 => ?_)
      obtain rfl : v4 = 1 := ev4.trans (by decide)
      refine lv_if_ne (tgt := 19) hx hb dX10_paste_13 (by decide) (fun c6 => ?_) (fun c5 => False.elim (by revert c5; decide))
      refine lv_aload_n hx hb dX10_paste_19 rfl (lv_at hl 0 rfl) ?_
      refine getF hx hb ht hown hK hP iTX10 0 5 rfl rfl (by decide) fl_RX10_41 rfl dX10_paste_20 ?_
      refine lv_iload_n hx hb dX10_paste_23 rfl (lv_at hl 1 rfl) ?_
      refine va_aldq hx hb hK.1 hP 1 5 rfl rfl (show ¬ (_ ∨ _) by decide) dX10_paste_24 ?_
      refine W.eq (g2 := F0 m 25 ls [.ref (q 56)]) rfl ?_
      refine lv_astore (lv' := [(6, .ref (q 56)), (0, .ref h), (1, .int 1), (2, .int a2), (3, .int 3), (4, .int a4), (5, .int a5)]) hx hb dX10_paste_25 hl (by decide) rfl (fun ls hl => ?_)
      refine lv_aload_n hx hb dX10_paste_27 rfl (lv_at hl 1 rfl) ?_
      refine getF hx hb ht hown hK hP iTX10 0 5 rfl rfl (by decide) fl_RX10_41 rfl dX10_paste_28 ?_
      refine lv_iload_n hx hb dX10_paste_31 rfl (lv_at hl 4 rfl) ?_
      refine va_aldq hx hb hK.1 hP 1 5 rfl rfl (show ¬ (_ ∨ _) by decide) dX10_paste_32 ?_
      refine W.eq (g2 := F0 m 33 ls [.ref (q 60)]) rfl ?_
      refine lv_astore (lv' := [(7, .ref (q 60)), (6, .ref (q 56)), (0, .ref h), (1, .int 1), (2, .int a2), (3, .int 3), (4, .int a4), (5, .int a5)]) hx hb dX10_paste_33 hl (by decide) rfl (fun ls hl => ?_)
      refine lv_aload hx hb dX10_paste_35 (lv_at hl 1 rfl) ?_
      refine getF hx hb ht hown hK hP iTX7 3 1 rfl rfl (by decide) fl_RX10_354 rfl dX10_paste_37 ?_
      refine lv_if_eq (tgt := 51) hx hb dX10_paste_40 (by decide) (fun c8 => ?_) (fun c7 => False.elim (by revert c7; decide))
      refine lv_bipush (v := (-6)) hx hb dX10_paste_51 (by decide) ?_
      exact retPi hx hb hr hlk hS dX10_paste_53 (by decide)
  · rcases cs4 a3 with hn2 | hb2 | rfl | rfl | rfl | rfl
    · refine mkP (Qc := QPi (spk 4 2 (spk 4 a3 (-6) (-2)) (-2))) (by decide) (by simp [lg_sl, Value.category]) ?_
      intro p e s m args below meth c ls hx hb hml hr hlk hown ht hK hP hS hl
      have hl : lv_has ls 8 [(0, .ref h), (1, .int 2), (2, .int a2), (3, .int a3), (4, .int a4), (5, .int a5)] := hl
      refine lv_aload_n hx hb dX10_paste_0 rfl (lv_at hl 0 rfl) ?_
      refine lv_iload_n hx hb dX10_paste_1 rfl (lv_at hl 1 rfl) ?_
      refine behI (runVP (As := [.int 2]) (rest := []) ⟨hx, hb, hml, hown, ht⟩ (pX10_isSlot l G cs h q 2) okV_RX10_348 ⟨by decide, by decide⟩ hK hP [] rfl 0 rfl rfl hl.1 rfl (Nat.le_of_ble_eq_true rfl) dX10_paste_2 ⟨by decide, by decide⟩) hP hS (fun _ h => h) (fun H locs hP hS => ?_)
      refine lv_topi (fun v1 ev1 => ?_)
      obtain rfl : v1 = 1 := ev1.trans (by decide)
      refine lv_if_eq (tgt := 16) hx hb dX10_paste_5 (by decide) (fun c2 => False.elim (by revert c2; decide)) (fun c3 => ?_)
      refine lv_aload_n hx hb dX10_paste_8 rfl (lv_at hl 0 rfl) ?_
      refine lv_iload_n hx hb dX10_paste_9 rfl (lv_at hl 3 rfl) ?_
      refine behI (runVP (As := [.int a3]) (rest := []) ⟨hx, hb, hml, hown, ht⟩ (pX10_isSlot l G cs h q a3) okV_RX10_348 ⟨by decide, by decide⟩ hK hP [] rfl 0 rfl rfl hl.1 rfl (Nat.le_of_ble_eq_true rfl) dX10_paste_10 ⟨by decide, by decide⟩) hP hS (fun _ h => h) (fun H locs hP hS => ?_)
      refine lv_topi (fun v4 ev4 => ?_)
      obtain rfl : v4 = 0 := ev4.trans (spk_lo hn2)
      refine lv_if_ne (tgt := 19) hx hb dX10_paste_13 (by decide) (fun c5 => False.elim (by revert c5; decide)) (fun c6 => ?_)
      refine lv_bipush (v := (-2)) hx hb dX10_paste_16 (by decide) ?_
      exact retPi hx hb hr hlk hS dX10_paste_18 ((show _ = spk 4 _ (spk 4 a3 (-6) (-2)) (-2) by rw [spk_lo hn2]; decide))
    · refine mkP (Qc := QPi (spk 4 2 (spk 4 a3 (-6) (-2)) (-2))) (by decide) (by simp [lg_sl, Value.category]) ?_
      intro p e s m args below meth c ls hx hb hml hr hlk hown ht hK hP hS hl
      have hl : lv_has ls 8 [(0, .ref h), (1, .int 2), (2, .int a2), (3, .int a3), (4, .int a4), (5, .int a5)] := hl
      refine lv_aload_n hx hb dX10_paste_0 rfl (lv_at hl 0 rfl) ?_
      refine lv_iload_n hx hb dX10_paste_1 rfl (lv_at hl 1 rfl) ?_
      refine behI (runVP (As := [.int 2]) (rest := []) ⟨hx, hb, hml, hown, ht⟩ (pX10_isSlot l G cs h q 2) okV_RX10_348 ⟨by decide, by decide⟩ hK hP [] rfl 0 rfl rfl hl.1 rfl (Nat.le_of_ble_eq_true rfl) dX10_paste_2 ⟨by decide, by decide⟩) hP hS (fun _ h => h) (fun H locs hP hS => ?_)
      refine lv_topi (fun v1 ev1 => ?_)
      obtain rfl : v1 = 1 := ev1.trans (by decide)
      refine lv_if_eq (tgt := 16) hx hb dX10_paste_5 (by decide) (fun c2 => False.elim (by revert c2; decide)) (fun c3 => ?_)
      refine lv_aload_n hx hb dX10_paste_8 rfl (lv_at hl 0 rfl) ?_
      refine lv_iload_n hx hb dX10_paste_9 rfl (lv_at hl 3 rfl) ?_
      refine behI (runVP (As := [.int a3]) (rest := []) ⟨hx, hb, hml, hown, ht⟩ (pX10_isSlot l G cs h q a3) okV_RX10_348 ⟨by decide, by decide⟩ hK hP [] rfl 0 rfl rfl hl.1 rfl (Nat.le_of_ble_eq_true rfl) dX10_paste_10 ⟨by decide, by decide⟩) hP hS (fun _ h => h) (fun H locs hP hS => ?_)
      refine lv_topi (fun v4 ev4 => ?_)
      obtain rfl : v4 = 0 := ev4.trans (spk_hi (by decide) hb2)
      refine lv_if_ne (tgt := 19) hx hb dX10_paste_13 (by decide) (fun c5 => False.elim (by revert c5; decide)) (fun c6 => ?_)
      refine lv_bipush (v := (-2)) hx hb dX10_paste_16 (by decide) ?_
      exact retPi hx hb hr hlk hS dX10_paste_18 ((show _ = spk 4 _ (spk 4 a3 (-6) (-2)) (-2) by rw [spk_hi (by decide) hb2]; decide))
    · refine mkP (Qc := QPi (spk 4 2 (spk 4 0 (-6) (-2)) (-2))) (by decide) (by simp [lg_sl, Value.category]) ?_
      intro p e s m args below meth c ls hx hb hml hr hlk hown ht hK hP hS hl
      have hl : lv_has ls 8 [(0, .ref h), (1, .int 2), (2, .int a2), (3, .int 0), (4, .int a4), (5, .int a5)] := hl
      refine lv_aload_n hx hb dX10_paste_0 rfl (lv_at hl 0 rfl) ?_
      refine lv_iload_n hx hb dX10_paste_1 rfl (lv_at hl 1 rfl) ?_
      refine behI (runVP (As := [.int 2]) (rest := []) ⟨hx, hb, hml, hown, ht⟩ (pX10_isSlot l G cs h q 2) okV_RX10_348 ⟨by decide, by decide⟩ hK hP [] rfl 0 rfl rfl hl.1 rfl (Nat.le_of_ble_eq_true rfl) dX10_paste_2 ⟨by decide, by decide⟩) hP hS (fun _ h => h) (fun H locs hP hS => ?_)
      refine lv_topi (fun v1 ev1 => ?_)
      obtain rfl : v1 = 1 := ev1.trans (by decide)
      refine lv_if_eq (tgt := 16) hx hb dX10_paste_5 (by decide) (fun c2 => False.elim (by revert c2; decide)) (fun c3 => ?_)
      refine lv_aload_n hx hb dX10_paste_8 rfl (lv_at hl 0 rfl) ?_
      refine lv_iload_n hx hb dX10_paste_9 rfl (lv_at hl 3 rfl) ?_
      refine behI (runVP (As := [.int 0]) (rest := []) ⟨hx, hb, hml, hown, ht⟩ (pX10_isSlot l G cs h q 0) okV_RX10_348 ⟨by decide, by decide⟩ hK hP [] rfl 0 rfl rfl hl.1 rfl (Nat.le_of_ble_eq_true rfl) dX10_paste_10 ⟨by decide, by decide⟩) hP hS (fun _ h => h) (fun H locs hP hS => ?_)
      refine lv_topi (fun v4 ev4 => ?_)
      obtain rfl : v4 = 1 := ev4.trans (by decide)
      refine lv_if_ne (tgt := 19) hx hb dX10_paste_13 (by decide) (fun c6 => ?_) (fun c5 => False.elim (by revert c5; decide))
      refine lv_aload_n hx hb dX10_paste_19 rfl (lv_at hl 0 rfl) ?_
      refine getF hx hb ht hown hK hP iTX10 0 5 rfl rfl (by decide) fl_RX10_41 rfl dX10_paste_20 ?_
      refine lv_iload_n hx hb dX10_paste_23 rfl (lv_at hl 1 rfl) ?_
      refine va_aldq hx hb hK.1 hP 1 5 rfl rfl (show ¬ (_ ∨ _) by decide) dX10_paste_24 ?_
      refine W.eq (g2 := F0 m 25 ls [.ref (q 58)]) rfl ?_
      refine lv_astore (lv' := [(6, .ref (q 58)), (0, .ref h), (1, .int 2), (2, .int a2), (3, .int 0), (4, .int a4), (5, .int a5)]) hx hb dX10_paste_25 hl (by decide) rfl (fun ls hl => ?_)
      refine lv_aload_n hx hb dX10_paste_27 rfl (lv_at hl 1 rfl) ?_
      refine getF hx hb ht hown hK hP iTX10 0 5 rfl rfl (by decide) fl_RX10_41 rfl dX10_paste_28 ?_
      refine lv_iload_n hx hb dX10_paste_31 rfl (lv_at hl 4 rfl) ?_
      refine va_aldq hx hb hK.1 hP 1 5 rfl rfl (show ¬ (_ ∨ _) by decide) dX10_paste_32 ?_
      refine W.eq (g2 := F0 m 33 ls [.ref (q 54)]) rfl ?_
      refine lv_astore (lv' := [(7, .ref (q 54)), (6, .ref (q 58)), (0, .ref h), (1, .int 2), (2, .int a2), (3, .int 0), (4, .int a4), (5, .int a5)]) hx hb dX10_paste_33 hl (by decide) rfl (fun ls hl => ?_)
      refine lv_aload hx hb dX10_paste_35 (lv_at hl 1 rfl) ?_
      refine getF hx hb ht hown hK hP iTX7 4 1 rfl rfl (by decide) fl_RX10_354 rfl dX10_paste_37 ?_
      refine lv_if_eq (tgt := 51) hx hb dX10_paste_40 (by decide) (fun c8 => ?_) (fun c7 => False.elim (by revert c7; decide))
      refine lv_bipush (v := (-6)) hx hb dX10_paste_51 (by decide) ?_
      exact retPi hx hb hr hlk hS dX10_paste_53 (by decide)
    · refine mkP (Qc := QPi (spk 4 2 (spk 4 1 (-6) (-2)) (-2))) (by decide) (by simp [lg_sl, Value.category]) ?_
      intro p e s m args below meth c ls hx hb hml hr hlk hown ht hK hP hS hl
      have hl : lv_has ls 8 [(0, .ref h), (1, .int 2), (2, .int a2), (3, .int 1), (4, .int a4), (5, .int a5)] := hl
      refine lv_aload_n hx hb dX10_paste_0 rfl (lv_at hl 0 rfl) ?_
      refine lv_iload_n hx hb dX10_paste_1 rfl (lv_at hl 1 rfl) ?_
      refine behI (runVP (As := [.int 2]) (rest := []) ⟨hx, hb, hml, hown, ht⟩ (pX10_isSlot l G cs h q 2) okV_RX10_348 ⟨by decide, by decide⟩ hK hP [] rfl 0 rfl rfl hl.1 rfl (Nat.le_of_ble_eq_true rfl) dX10_paste_2 ⟨by decide, by decide⟩) hP hS (fun _ h => h) (fun H locs hP hS => ?_)
      refine lv_topi (fun v1 ev1 => ?_)
      obtain rfl : v1 = 1 := ev1.trans (by decide)
      refine lv_if_eq (tgt := 16) hx hb dX10_paste_5 (by decide) (fun c2 => False.elim (by revert c2; decide)) (fun c3 => ?_)
      refine lv_aload_n hx hb dX10_paste_8 rfl (lv_at hl 0 rfl) ?_
      refine lv_iload_n hx hb dX10_paste_9 rfl (lv_at hl 3 rfl) ?_
      refine behI (runVP (As := [.int 1]) (rest := []) ⟨hx, hb, hml, hown, ht⟩ (pX10_isSlot l G cs h q 1) okV_RX10_348 ⟨by decide, by decide⟩ hK hP [] rfl 0 rfl rfl hl.1 rfl (Nat.le_of_ble_eq_true rfl) dX10_paste_10 ⟨by decide, by decide⟩) hP hS (fun _ h => h) (fun H locs hP hS => ?_)
      refine lv_topi (fun v4 ev4 => ?_)
      obtain rfl : v4 = 1 := ev4.trans (by decide)
      refine lv_if_ne (tgt := 19) hx hb dX10_paste_13 (by decide) (fun c6 => ?_) (fun c5 => False.elim (by revert c5; decide))
      refine lv_aload_n hx hb dX10_paste_19 rfl (lv_at hl 0 rfl) ?_
      refine getF hx hb ht hown hK hP iTX10 0 5 rfl rfl (by decide) fl_RX10_41 rfl dX10_paste_20 ?_
      refine lv_iload_n hx hb dX10_paste_23 rfl (lv_at hl 1 rfl) ?_
      refine va_aldq hx hb hK.1 hP 1 5 rfl rfl (show ¬ (_ ∨ _) by decide) dX10_paste_24 ?_
      refine W.eq (g2 := F0 m 25 ls [.ref (q 58)]) rfl ?_
      refine lv_astore (lv' := [(6, .ref (q 58)), (0, .ref h), (1, .int 2), (2, .int a2), (3, .int 1), (4, .int a4), (5, .int a5)]) hx hb dX10_paste_25 hl (by decide) rfl (fun ls hl => ?_)
      refine lv_aload_n hx hb dX10_paste_27 rfl (lv_at hl 1 rfl) ?_
      refine getF hx hb ht hown hK hP iTX10 0 5 rfl rfl (by decide) fl_RX10_41 rfl dX10_paste_28 ?_
      refine lv_iload_n hx hb dX10_paste_31 rfl (lv_at hl 4 rfl) ?_
      refine va_aldq hx hb hK.1 hP 1 5 rfl rfl (show ¬ (_ ∨ _) by decide) dX10_paste_32 ?_
      refine W.eq (g2 := F0 m 33 ls [.ref (q 56)]) rfl ?_
      refine lv_astore (lv' := [(7, .ref (q 56)), (6, .ref (q 58)), (0, .ref h), (1, .int 2), (2, .int a2), (3, .int 1), (4, .int a4), (5, .int a5)]) hx hb dX10_paste_33 hl (by decide) rfl (fun ls hl => ?_)
      refine lv_aload hx hb dX10_paste_35 (lv_at hl 1 rfl) ?_
      refine getF hx hb ht hown hK hP iTX7 4 1 rfl rfl (by decide) fl_RX10_354 rfl dX10_paste_37 ?_
      refine lv_if_eq (tgt := 51) hx hb dX10_paste_40 (by decide) (fun c8 => ?_) (fun c7 => False.elim (by revert c7; decide))
      refine lv_bipush (v := (-6)) hx hb dX10_paste_51 (by decide) ?_
      exact retPi hx hb hr hlk hS dX10_paste_53 (by decide)
    · refine mkP (Qc := QPi (spk 4 2 (spk 4 2 (-6) (-2)) (-2))) (by decide) (by simp [lg_sl, Value.category]) ?_
      intro p e s m args below meth c ls hx hb hml hr hlk hown ht hK hP hS hl
      have hl : lv_has ls 8 [(0, .ref h), (1, .int 2), (2, .int a2), (3, .int 2), (4, .int a4), (5, .int a5)] := hl
      refine lv_aload_n hx hb dX10_paste_0 rfl (lv_at hl 0 rfl) ?_
      refine lv_iload_n hx hb dX10_paste_1 rfl (lv_at hl 1 rfl) ?_
      refine behI (runVP (As := [.int 2]) (rest := []) ⟨hx, hb, hml, hown, ht⟩ (pX10_isSlot l G cs h q 2) okV_RX10_348 ⟨by decide, by decide⟩ hK hP [] rfl 0 rfl rfl hl.1 rfl (Nat.le_of_ble_eq_true rfl) dX10_paste_2 ⟨by decide, by decide⟩) hP hS (fun _ h => h) (fun H locs hP hS => ?_)
      refine lv_topi (fun v1 ev1 => ?_)
      obtain rfl : v1 = 1 := ev1.trans (by decide)
      refine lv_if_eq (tgt := 16) hx hb dX10_paste_5 (by decide) (fun c2 => False.elim (by revert c2; decide)) (fun c3 => ?_)
      refine lv_aload_n hx hb dX10_paste_8 rfl (lv_at hl 0 rfl) ?_
      refine lv_iload_n hx hb dX10_paste_9 rfl (lv_at hl 3 rfl) ?_
      refine behI (runVP (As := [.int 2]) (rest := []) ⟨hx, hb, hml, hown, ht⟩ (pX10_isSlot l G cs h q 2) okV_RX10_348 ⟨by decide, by decide⟩ hK hP [] rfl 0 rfl rfl hl.1 rfl (Nat.le_of_ble_eq_true rfl) dX10_paste_10 ⟨by decide, by decide⟩) hP hS (fun _ h => h) (fun H locs hP hS => ?_)
      refine lv_topi (fun v4 ev4 => ?_)
      obtain rfl : v4 = 1 := ev4.trans (by decide)
      refine lv_if_ne (tgt := 19) hx hb dX10_paste_13 (by decide) (fun c6 => ?_) (fun c5 => False.elim (by revert c5; decide))
      refine lv_aload_n hx hb dX10_paste_19 rfl (lv_at hl 0 rfl) ?_
      refine getF hx hb ht hown hK hP iTX10 0 5 rfl rfl (by decide) fl_RX10_41 rfl dX10_paste_20 ?_
      refine lv_iload_n hx hb dX10_paste_23 rfl (lv_at hl 1 rfl) ?_
      refine va_aldq hx hb hK.1 hP 1 5 rfl rfl (show ¬ (_ ∨ _) by decide) dX10_paste_24 ?_
      refine W.eq (g2 := F0 m 25 ls [.ref (q 58)]) rfl ?_
      refine lv_astore (lv' := [(6, .ref (q 58)), (0, .ref h), (1, .int 2), (2, .int a2), (3, .int 2), (4, .int a4), (5, .int a5)]) hx hb dX10_paste_25 hl (by decide) rfl (fun ls hl => ?_)
      refine lv_aload_n hx hb dX10_paste_27 rfl (lv_at hl 1 rfl) ?_
      refine getF hx hb ht hown hK hP iTX10 0 5 rfl rfl (by decide) fl_RX10_41 rfl dX10_paste_28 ?_
      refine lv_iload_n hx hb dX10_paste_31 rfl (lv_at hl 4 rfl) ?_
      refine va_aldq hx hb hK.1 hP 1 5 rfl rfl (show ¬ (_ ∨ _) by decide) dX10_paste_32 ?_
      refine W.eq (g2 := F0 m 33 ls [.ref (q 58)]) rfl ?_
      refine lv_astore (lv' := [(7, .ref (q 58)), (6, .ref (q 58)), (0, .ref h), (1, .int 2), (2, .int a2), (3, .int 2), (4, .int a4), (5, .int a5)]) hx hb dX10_paste_33 hl (by decide) rfl (fun ls hl => ?_)
      refine lv_aload hx hb dX10_paste_35 (lv_at hl 1 rfl) ?_
      refine getF hx hb ht hown hK hP iTX7 4 1 rfl rfl (by decide) fl_RX10_354 rfl dX10_paste_37 ?_
      refine lv_if_eq (tgt := 51) hx hb dX10_paste_40 (by decide) (fun c8 => ?_) (fun c7 => False.elim (by revert c7; decide))
      refine lv_bipush (v := (-6)) hx hb dX10_paste_51 (by decide) ?_
      exact retPi hx hb hr hlk hS dX10_paste_53 (by decide)
    · refine mkP (Qc := QPi (spk 4 2 (spk 4 3 (-6) (-2)) (-2))) (by decide) (by simp [lg_sl, Value.category]) ?_
      intro p e s m args below meth c ls hx hb hml hr hlk hown ht hK hP hS hl
      have hl : lv_has ls 8 [(0, .ref h), (1, .int 2), (2, .int a2), (3, .int 3), (4, .int a4), (5, .int a5)] := hl
      refine lv_aload_n hx hb dX10_paste_0 rfl (lv_at hl 0 rfl) ?_
      refine lv_iload_n hx hb dX10_paste_1 rfl (lv_at hl 1 rfl) ?_
      refine behI (runVP (As := [.int 2]) (rest := []) ⟨hx, hb, hml, hown, ht⟩ (pX10_isSlot l G cs h q 2) okV_RX10_348 ⟨by decide, by decide⟩ hK hP [] rfl 0 rfl rfl hl.1 rfl (Nat.le_of_ble_eq_true rfl) dX10_paste_2 ⟨by decide, by decide⟩) hP hS (fun _ h => h) (fun H locs hP hS => ?_)
      refine lv_topi (fun v1 ev1 => ?_)
      obtain rfl : v1 = 1 := ev1.trans (by decide)
      refine lv_if_eq (tgt := 16) hx hb dX10_paste_5 (by decide) (fun c2 => False.elim (by revert c2; decide)) (fun c3 => ?_)
      refine lv_aload_n hx hb dX10_paste_8 rfl (lv_at hl 0 rfl) ?_
      refine lv_iload_n hx hb dX10_paste_9 rfl (lv_at hl 3 rfl) ?_
      refine behI (runVP (As := [.int 3]) (rest := []) ⟨hx, hb, hml, hown, ht⟩ (pX10_isSlot l G cs h q 3) okV_RX10_348 ⟨by decide, by decide⟩ hK hP [] rfl 0 rfl rfl hl.1 rfl (Nat.le_of_ble_eq_true rfl) dX10_paste_10 ⟨by decide, by decide⟩) hP hS (fun _ h => h) (fun H locs hP hS => ?_)
      refine lv_topi (fun v4 ev4 => ?_)
      obtain rfl : v4 = 1 := ev4.trans (by decide)
      refine lv_if_ne (tgt := 19) hx hb dX10_paste_13 (by decide) (fun c6 => ?_) (fun c5 => False.elim (by revert c5; decide))
      refine lv_aload_n hx hb dX10_paste_19 rfl (lv_at hl 0 rfl) ?_
      refine getF hx hb ht hown hK hP iTX10 0 5 rfl rfl (by decide) fl_RX10_41 rfl dX10_paste_20 ?_
      refine lv_iload_n hx hb dX10_paste_23 rfl (lv_at hl 1 rfl) ?_
      refine va_aldq hx hb hK.1 hP 1 5 rfl rfl (show ¬ (_ ∨ _) by decide) dX10_paste_24 ?_
      refine W.eq (g2 := F0 m 25 ls [.ref (q 58)]) rfl ?_
      refine lv_astore (lv' := [(6, .ref (q 58)), (0, .ref h), (1, .int 2), (2, .int a2), (3, .int 3), (4, .int a4), (5, .int a5)]) hx hb dX10_paste_25 hl (by decide) rfl (fun ls hl => ?_)
      refine lv_aload_n hx hb dX10_paste_27 rfl (lv_at hl 1 rfl) ?_
      refine getF hx hb ht hown hK hP iTX10 0 5 rfl rfl (by decide) fl_RX10_41 rfl dX10_paste_28 ?_
      refine lv_iload_n hx hb dX10_paste_31 rfl (lv_at hl 4 rfl) ?_
      refine va_aldq hx hb hK.1 hP 1 5 rfl rfl (show ¬ (_ ∨ _) by decide) dX10_paste_32 ?_
      refine W.eq (g2 := F0 m 33 ls [.ref (q 60)]) rfl ?_
      refine lv_astore (lv' := [(7, .ref (q 60)), (6, .ref (q 58)), (0, .ref h), (1, .int 2), (2, .int a2), (3, .int 3), (4, .int a4), (5, .int a5)]) hx hb dX10_paste_33 hl (by decide) rfl (fun ls hl => ?_)
      refine lv_aload hx hb dX10_paste_35 (lv_at hl 1 rfl) ?_
      refine getF hx hb ht hown hK hP iTX7 4 1 rfl rfl (by decide) fl_RX10_354 rfl dX10_paste_37 ?_
      refine lv_if_eq (tgt := 51) hx hb dX10_paste_40 (by decide) (fun c8 => ?_) (fun c7 => False.elim (by revert c7; decide))
      refine lv_bipush (v := (-6)) hx hb dX10_paste_51 (by decide) ?_
      exact retPi hx hb hr hlk hS dX10_paste_53 (by decide)
  · rcases cs4 a3 with hn2 | hb2 | rfl | rfl | rfl | rfl
    · refine mkP (Qc := QPi (spk 4 3 (spk 4 a3 (-6) (-2)) (-2))) (by decide) (by simp [lg_sl, Value.category]) ?_
      intro p e s m args below meth c ls hx hb hml hr hlk hown ht hK hP hS hl
      have hl : lv_has ls 8 [(0, .ref h), (1, .int 3), (2, .int a2), (3, .int a3), (4, .int a4), (5, .int a5)] := hl
      refine lv_aload_n hx hb dX10_paste_0 rfl (lv_at hl 0 rfl) ?_
      refine lv_iload_n hx hb dX10_paste_1 rfl (lv_at hl 1 rfl) ?_
      refine behI (runVP (As := [.int 3]) (rest := []) ⟨hx, hb, hml, hown, ht⟩ (pX10_isSlot l G cs h q 3) okV_RX10_348 ⟨by decide, by decide⟩ hK hP [] rfl 0 rfl rfl hl.1 rfl (Nat.le_of_ble_eq_true rfl) dX10_paste_2 ⟨by decide, by decide⟩) hP hS (fun _ h => h) (fun H locs hP hS => ?_)
      refine lv_topi (fun v1 ev1 => ?_)
      obtain rfl : v1 = 1 := ev1.trans (by decide)
      refine lv_if_eq (tgt := 16) hx hb dX10_paste_5 (by decide) (fun c2 => False.elim (by revert c2; decide)) (fun c3 => ?_)
      refine lv_aload_n hx hb dX10_paste_8 rfl (lv_at hl 0 rfl) ?_
      refine lv_iload_n hx hb dX10_paste_9 rfl (lv_at hl 3 rfl) ?_
      refine behI (runVP (As := [.int a3]) (rest := []) ⟨hx, hb, hml, hown, ht⟩ (pX10_isSlot l G cs h q a3) okV_RX10_348 ⟨by decide, by decide⟩ hK hP [] rfl 0 rfl rfl hl.1 rfl (Nat.le_of_ble_eq_true rfl) dX10_paste_10 ⟨by decide, by decide⟩) hP hS (fun _ h => h) (fun H locs hP hS => ?_)
      refine lv_topi (fun v4 ev4 => ?_)
      obtain rfl : v4 = 0 := ev4.trans (spk_lo hn2)
      refine lv_if_ne (tgt := 19) hx hb dX10_paste_13 (by decide) (fun c5 => False.elim (by revert c5; decide)) (fun c6 => ?_)
      refine lv_bipush (v := (-2)) hx hb dX10_paste_16 (by decide) ?_
      exact retPi hx hb hr hlk hS dX10_paste_18 ((show _ = spk 4 _ (spk 4 a3 (-6) (-2)) (-2) by rw [spk_lo hn2]; decide))
    · refine mkP (Qc := QPi (spk 4 3 (spk 4 a3 (-6) (-2)) (-2))) (by decide) (by simp [lg_sl, Value.category]) ?_
      intro p e s m args below meth c ls hx hb hml hr hlk hown ht hK hP hS hl
      have hl : lv_has ls 8 [(0, .ref h), (1, .int 3), (2, .int a2), (3, .int a3), (4, .int a4), (5, .int a5)] := hl
      refine lv_aload_n hx hb dX10_paste_0 rfl (lv_at hl 0 rfl) ?_
      refine lv_iload_n hx hb dX10_paste_1 rfl (lv_at hl 1 rfl) ?_
      refine behI (runVP (As := [.int 3]) (rest := []) ⟨hx, hb, hml, hown, ht⟩ (pX10_isSlot l G cs h q 3) okV_RX10_348 ⟨by decide, by decide⟩ hK hP [] rfl 0 rfl rfl hl.1 rfl (Nat.le_of_ble_eq_true rfl) dX10_paste_2 ⟨by decide, by decide⟩) hP hS (fun _ h => h) (fun H locs hP hS => ?_)
      refine lv_topi (fun v1 ev1 => ?_)
      obtain rfl : v1 = 1 := ev1.trans (by decide)
      refine lv_if_eq (tgt := 16) hx hb dX10_paste_5 (by decide) (fun c2 => False.elim (by revert c2; decide)) (fun c3 => ?_)
      refine lv_aload_n hx hb dX10_paste_8 rfl (lv_at hl 0 rfl) ?_
      refine lv_iload_n hx hb dX10_paste_9 rfl (lv_at hl 3 rfl) ?_
      refine behI (runVP (As := [.int a3]) (rest := []) ⟨hx, hb, hml, hown, ht⟩ (pX10_isSlot l G cs h q a3) okV_RX10_348 ⟨by decide, by decide⟩ hK hP [] rfl 0 rfl rfl hl.1 rfl (Nat.le_of_ble_eq_true rfl) dX10_paste_10 ⟨by decide, by decide⟩) hP hS (fun _ h => h) (fun H locs hP hS => ?_)
      refine lv_topi (fun v4 ev4 => ?_)
      obtain rfl : v4 = 0 := ev4.trans (spk_hi (by decide) hb2)
      refine lv_if_ne (tgt := 19) hx hb dX10_paste_13 (by decide) (fun c5 => False.elim (by revert c5; decide)) (fun c6 => ?_)
      refine lv_bipush (v := (-2)) hx hb dX10_paste_16 (by decide) ?_
      exact retPi hx hb hr hlk hS dX10_paste_18 ((show _ = spk 4 _ (spk 4 a3 (-6) (-2)) (-2) by rw [spk_hi (by decide) hb2]; decide))
    · refine mkP (Qc := QPi (spk 4 3 (spk 4 0 (-6) (-2)) (-2))) (by decide) (by simp [lg_sl, Value.category]) ?_
      intro p e s m args below meth c ls hx hb hml hr hlk hown ht hK hP hS hl
      have hl : lv_has ls 8 [(0, .ref h), (1, .int 3), (2, .int a2), (3, .int 0), (4, .int a4), (5, .int a5)] := hl
      refine lv_aload_n hx hb dX10_paste_0 rfl (lv_at hl 0 rfl) ?_
      refine lv_iload_n hx hb dX10_paste_1 rfl (lv_at hl 1 rfl) ?_
      refine behI (runVP (As := [.int 3]) (rest := []) ⟨hx, hb, hml, hown, ht⟩ (pX10_isSlot l G cs h q 3) okV_RX10_348 ⟨by decide, by decide⟩ hK hP [] rfl 0 rfl rfl hl.1 rfl (Nat.le_of_ble_eq_true rfl) dX10_paste_2 ⟨by decide, by decide⟩) hP hS (fun _ h => h) (fun H locs hP hS => ?_)
      refine lv_topi (fun v1 ev1 => ?_)
      obtain rfl : v1 = 1 := ev1.trans (by decide)
      refine lv_if_eq (tgt := 16) hx hb dX10_paste_5 (by decide) (fun c2 => False.elim (by revert c2; decide)) (fun c3 => ?_)
      refine lv_aload_n hx hb dX10_paste_8 rfl (lv_at hl 0 rfl) ?_
      refine lv_iload_n hx hb dX10_paste_9 rfl (lv_at hl 3 rfl) ?_
      refine behI (runVP (As := [.int 0]) (rest := []) ⟨hx, hb, hml, hown, ht⟩ (pX10_isSlot l G cs h q 0) okV_RX10_348 ⟨by decide, by decide⟩ hK hP [] rfl 0 rfl rfl hl.1 rfl (Nat.le_of_ble_eq_true rfl) dX10_paste_10 ⟨by decide, by decide⟩) hP hS (fun _ h => h) (fun H locs hP hS => ?_)
      refine lv_topi (fun v4 ev4 => ?_)
      obtain rfl : v4 = 1 := ev4.trans (by decide)
      refine lv_if_ne (tgt := 19) hx hb dX10_paste_13 (by decide) (fun c6 => ?_) (fun c5 => False.elim (by revert c5; decide))
      refine lv_aload_n hx hb dX10_paste_19 rfl (lv_at hl 0 rfl) ?_
      refine getF hx hb ht hown hK hP iTX10 0 5 rfl rfl (by decide) fl_RX10_41 rfl dX10_paste_20 ?_
      refine lv_iload_n hx hb dX10_paste_23 rfl (lv_at hl 1 rfl) ?_
      refine va_aldq hx hb hK.1 hP 1 5 rfl rfl (show ¬ (_ ∨ _) by decide) dX10_paste_24 ?_
      refine W.eq (g2 := F0 m 25 ls [.ref (q 60)]) rfl ?_
      refine lv_astore (lv' := [(6, .ref (q 60)), (0, .ref h), (1, .int 3), (2, .int a2), (3, .int 0), (4, .int a4), (5, .int a5)]) hx hb dX10_paste_25 hl (by decide) rfl (fun ls hl => ?_)
      refine lv_aload_n hx hb dX10_paste_27 rfl (lv_at hl 1 rfl) ?_
      refine getF hx hb ht hown hK hP iTX10 0 5 rfl rfl (by decide) fl_RX10_41 rfl dX10_paste_28 ?_
      refine lv_iload_n hx hb dX10_paste_31 rfl (lv_at hl 4 rfl) ?_
      refine va_aldq hx hb hK.1 hP 1 5 rfl rfl (show ¬ (_ ∨ _) by decide) dX10_paste_32 ?_
      refine W.eq (g2 := F0 m 33 ls [.ref (q 54)]) rfl ?_
      refine lv_astore (lv' := [(7, .ref (q 54)), (6, .ref (q 60)), (0, .ref h), (1, .int 3), (2, .int a2), (3, .int 0), (4, .int a4), (5, .int a5)]) hx hb dX10_paste_33 hl (by decide) rfl (fun ls hl => ?_)
      refine lv_aload hx hb dX10_paste_35 (lv_at hl 1 rfl) ?_
      refine getF hx hb ht hown hK hP iTX7 5 1 rfl rfl (by decide) fl_RX10_354 rfl dX10_paste_37 ?_
      refine lv_if_eq (tgt := 51) hx hb dX10_paste_40 (by decide) (fun c8 => ?_) (fun c7 => False.elim (by revert c7; decide))
      refine lv_bipush (v := (-6)) hx hb dX10_paste_51 (by decide) ?_
      exact retPi hx hb hr hlk hS dX10_paste_53 (by decide)
    · refine mkP (Qc := QPi (spk 4 3 (spk 4 1 (-6) (-2)) (-2))) (by decide) (by simp [lg_sl, Value.category]) ?_
      intro p e s m args below meth c ls hx hb hml hr hlk hown ht hK hP hS hl
      have hl : lv_has ls 8 [(0, .ref h), (1, .int 3), (2, .int a2), (3, .int 1), (4, .int a4), (5, .int a5)] := hl
      refine lv_aload_n hx hb dX10_paste_0 rfl (lv_at hl 0 rfl) ?_
      refine lv_iload_n hx hb dX10_paste_1 rfl (lv_at hl 1 rfl) ?_
      refine behI (runVP (As := [.int 3]) (rest := []) ⟨hx, hb, hml, hown, ht⟩ (pX10_isSlot l G cs h q 3) okV_RX10_348 ⟨by decide, by decide⟩ hK hP [] rfl 0 rfl rfl hl.1 rfl (Nat.le_of_ble_eq_true rfl) dX10_paste_2 ⟨by decide, by decide⟩) hP hS (fun _ h => h) (fun H locs hP hS => ?_)
      refine lv_topi (fun v1 ev1 => ?_)
      obtain rfl : v1 = 1 := ev1.trans (by decide)
      refine lv_if_eq (tgt := 16) hx hb dX10_paste_5 (by decide) (fun c2 => False.elim (by revert c2; decide)) (fun c3 => ?_)
      refine lv_aload_n hx hb dX10_paste_8 rfl (lv_at hl 0 rfl) ?_
      refine lv_iload_n hx hb dX10_paste_9 rfl (lv_at hl 3 rfl) ?_
      refine behI (runVP (As := [.int 1]) (rest := []) ⟨hx, hb, hml, hown, ht⟩ (pX10_isSlot l G cs h q 1) okV_RX10_348 ⟨by decide, by decide⟩ hK hP [] rfl 0 rfl rfl hl.1 rfl (Nat.le_of_ble_eq_true rfl) dX10_paste_10 ⟨by decide, by decide⟩) hP hS (fun _ h => h) (fun H locs hP hS => ?_)
      refine lv_topi (fun v4 ev4 => ?_)
      obtain rfl : v4 = 1 := ev4.trans (by decide)
      refine lv_if_ne (tgt := 19) hx hb dX10_paste_13 (by decide) (fun c6 => ?_) (fun c5 => False.elim (by revert c5; decide))
      refine lv_aload_n hx hb dX10_paste_19 rfl (lv_at hl 0 rfl) ?_
      refine getF hx hb ht hown hK hP iTX10 0 5 rfl rfl (by decide) fl_RX10_41 rfl dX10_paste_20 ?_
      refine lv_iload_n hx hb dX10_paste_23 rfl (lv_at hl 1 rfl) ?_
      refine va_aldq hx hb hK.1 hP 1 5 rfl rfl (show ¬ (_ ∨ _) by decide) dX10_paste_24 ?_
      refine W.eq (g2 := F0 m 25 ls [.ref (q 60)]) rfl ?_
      refine lv_astore (lv' := [(6, .ref (q 60)), (0, .ref h), (1, .int 3), (2, .int a2), (3, .int 1), (4, .int a4), (5, .int a5)]) hx hb dX10_paste_25 hl (by decide) rfl (fun ls hl => ?_)
      refine lv_aload_n hx hb dX10_paste_27 rfl (lv_at hl 1 rfl) ?_
      refine getF hx hb ht hown hK hP iTX10 0 5 rfl rfl (by decide) fl_RX10_41 rfl dX10_paste_28 ?_
      refine lv_iload_n hx hb dX10_paste_31 rfl (lv_at hl 4 rfl) ?_
      refine va_aldq hx hb hK.1 hP 1 5 rfl rfl (show ¬ (_ ∨ _) by decide) dX10_paste_32 ?_
      refine W.eq (g2 := F0 m 33 ls [.ref (q 56)]) rfl ?_
      refine lv_astore (lv' := [(7, .ref (q 56)), (6, .ref (q 60)), (0, .ref h), (1, .int 3), (2, .int a2), (3, .int 1), (4, .int a4), (5, .int a5)]) hx hb dX10_paste_33 hl (by decide) rfl (fun ls hl => ?_)
      refine lv_aload hx hb dX10_paste_35 (lv_at hl 1 rfl) ?_
      refine getF hx hb ht hown hK hP iTX7 5 1 rfl rfl (by decide) fl_RX10_354 rfl dX10_paste_37 ?_
      refine lv_if_eq (tgt := 51) hx hb dX10_paste_40 (by decide) (fun c8 => ?_) (fun c7 => False.elim (by revert c7; decide))
      refine lv_bipush (v := (-6)) hx hb dX10_paste_51 (by decide) ?_
      exact retPi hx hb hr hlk hS dX10_paste_53 (by decide)
    · refine mkP (Qc := QPi (spk 4 3 (spk 4 2 (-6) (-2)) (-2))) (by decide) (by simp [lg_sl, Value.category]) ?_
      intro p e s m args below meth c ls hx hb hml hr hlk hown ht hK hP hS hl
      have hl : lv_has ls 8 [(0, .ref h), (1, .int 3), (2, .int a2), (3, .int 2), (4, .int a4), (5, .int a5)] := hl
      refine lv_aload_n hx hb dX10_paste_0 rfl (lv_at hl 0 rfl) ?_
      refine lv_iload_n hx hb dX10_paste_1 rfl (lv_at hl 1 rfl) ?_
      refine behI (runVP (As := [.int 3]) (rest := []) ⟨hx, hb, hml, hown, ht⟩ (pX10_isSlot l G cs h q 3) okV_RX10_348 ⟨by decide, by decide⟩ hK hP [] rfl 0 rfl rfl hl.1 rfl (Nat.le_of_ble_eq_true rfl) dX10_paste_2 ⟨by decide, by decide⟩) hP hS (fun _ h => h) (fun H locs hP hS => ?_)
      refine lv_topi (fun v1 ev1 => ?_)
      obtain rfl : v1 = 1 := ev1.trans (by decide)
      refine lv_if_eq (tgt := 16) hx hb dX10_paste_5 (by decide) (fun c2 => False.elim (by revert c2; decide)) (fun c3 => ?_)
      refine lv_aload_n hx hb dX10_paste_8 rfl (lv_at hl 0 rfl) ?_
      refine lv_iload_n hx hb dX10_paste_9 rfl (lv_at hl 3 rfl) ?_
      refine behI (runVP (As := [.int 2]) (rest := []) ⟨hx, hb, hml, hown, ht⟩ (pX10_isSlot l G cs h q 2) okV_RX10_348 ⟨by decide, by decide⟩ hK hP [] rfl 0 rfl rfl hl.1 rfl (Nat.le_of_ble_eq_true rfl) dX10_paste_10 ⟨by decide, by decide⟩) hP hS (fun _ h => h) (fun H locs hP hS => ?_)
      refine lv_topi (fun v4 ev4 => ?_)
      obtain rfl : v4 = 1 := ev4.trans (by decide)
      refine lv_if_ne (tgt := 19) hx hb dX10_paste_13 (by decide) (fun c6 => ?_) (fun c5 => False.elim (by revert c5; decide))
      refine lv_aload_n hx hb dX10_paste_19 rfl (lv_at hl 0 rfl) ?_
      refine getF hx hb ht hown hK hP iTX10 0 5 rfl rfl (by decide) fl_RX10_41 rfl dX10_paste_20 ?_
      refine lv_iload_n hx hb dX10_paste_23 rfl (lv_at hl 1 rfl) ?_
      refine va_aldq hx hb hK.1 hP 1 5 rfl rfl (show ¬ (_ ∨ _) by decide) dX10_paste_24 ?_
      refine W.eq (g2 := F0 m 25 ls [.ref (q 60)]) rfl ?_
      refine lv_astore (lv' := [(6, .ref (q 60)), (0, .ref h), (1, .int 3), (2, .int a2), (3, .int 2), (4, .int a4), (5, .int a5)]) hx hb dX10_paste_25 hl (by decide) rfl (fun ls hl => ?_)
      refine lv_aload_n hx hb dX10_paste_27 rfl (lv_at hl 1 rfl) ?_
      refine getF hx hb ht hown hK hP iTX10 0 5 rfl rfl (by decide) fl_RX10_41 rfl dX10_paste_28 ?_
      refine lv_iload_n hx hb dX10_paste_31 rfl (lv_at hl 4 rfl) ?_
      refine va_aldq hx hb hK.1 hP 1 5 rfl rfl (show ¬ (_ ∨ _) by decide) dX10_paste_32 ?_
      refine W.eq (g2 := F0 m 33 ls [.ref (q 58)]) rfl ?_
      refine lv_astore (lv' := [(7, .ref (q 58)), (6, .ref (q 60)), (0, .ref h), (1, .int 3), (2, .int a2), (3, .int 2), (4, .int a4), (5, .int a5)]) hx hb dX10_paste_33 hl (by decide) rfl (fun ls hl => ?_)
      refine lv_aload hx hb dX10_paste_35 (lv_at hl 1 rfl) ?_
      refine getF hx hb ht hown hK hP iTX7 5 1 rfl rfl (by decide) fl_RX10_354 rfl dX10_paste_37 ?_
      refine lv_if_eq (tgt := 51) hx hb dX10_paste_40 (by decide) (fun c8 => ?_) (fun c7 => False.elim (by revert c7; decide))
      refine lv_bipush (v := (-6)) hx hb dX10_paste_51 (by decide) ?_
      exact retPi hx hb hr hlk hS dX10_paste_53 (by decide)
    · refine mkP (Qc := QPi (spk 4 3 (spk 4 3 (-6) (-2)) (-2))) (by decide) (by simp [lg_sl, Value.category]) ?_
      intro p e s m args below meth c ls hx hb hml hr hlk hown ht hK hP hS hl
      have hl : lv_has ls 8 [(0, .ref h), (1, .int 3), (2, .int a2), (3, .int 3), (4, .int a4), (5, .int a5)] := hl
      refine lv_aload_n hx hb dX10_paste_0 rfl (lv_at hl 0 rfl) ?_
      refine lv_iload_n hx hb dX10_paste_1 rfl (lv_at hl 1 rfl) ?_
      refine behI (runVP (As := [.int 3]) (rest := []) ⟨hx, hb, hml, hown, ht⟩ (pX10_isSlot l G cs h q 3) okV_RX10_348 ⟨by decide, by decide⟩ hK hP [] rfl 0 rfl rfl hl.1 rfl (Nat.le_of_ble_eq_true rfl) dX10_paste_2 ⟨by decide, by decide⟩) hP hS (fun _ h => h) (fun H locs hP hS => ?_)
      refine lv_topi (fun v1 ev1 => ?_)
      obtain rfl : v1 = 1 := ev1.trans (by decide)
      refine lv_if_eq (tgt := 16) hx hb dX10_paste_5 (by decide) (fun c2 => False.elim (by revert c2; decide)) (fun c3 => ?_)
      refine lv_aload_n hx hb dX10_paste_8 rfl (lv_at hl 0 rfl) ?_
      refine lv_iload_n hx hb dX10_paste_9 rfl (lv_at hl 3 rfl) ?_
      refine behI (runVP (As := [.int 3]) (rest := []) ⟨hx, hb, hml, hown, ht⟩ (pX10_isSlot l G cs h q 3) okV_RX10_348 ⟨by decide, by decide⟩ hK hP [] rfl 0 rfl rfl hl.1 rfl (Nat.le_of_ble_eq_true rfl) dX10_paste_10 ⟨by decide, by decide⟩) hP hS (fun _ h => h) (fun H locs hP hS => ?_)
      refine lv_topi (fun v4 ev4 => ?_)
      obtain rfl : v4 = 1 := ev4.trans (by decide)
      refine lv_if_ne (tgt := 19) hx hb dX10_paste_13 (by decide) (fun c6 => ?_) (fun c5 => False.elim (by revert c5; decide))
      refine lv_aload_n hx hb dX10_paste_19 rfl (lv_at hl 0 rfl) ?_
      refine getF hx hb ht hown hK hP iTX10 0 5 rfl rfl (by decide) fl_RX10_41 rfl dX10_paste_20 ?_
      refine lv_iload_n hx hb dX10_paste_23 rfl (lv_at hl 1 rfl) ?_
      refine va_aldq hx hb hK.1 hP 1 5 rfl rfl (show ¬ (_ ∨ _) by decide) dX10_paste_24 ?_
      refine W.eq (g2 := F0 m 25 ls [.ref (q 60)]) rfl ?_
      refine lv_astore (lv' := [(6, .ref (q 60)), (0, .ref h), (1, .int 3), (2, .int a2), (3, .int 3), (4, .int a4), (5, .int a5)]) hx hb dX10_paste_25 hl (by decide) rfl (fun ls hl => ?_)
      refine lv_aload_n hx hb dX10_paste_27 rfl (lv_at hl 1 rfl) ?_
      refine getF hx hb ht hown hK hP iTX10 0 5 rfl rfl (by decide) fl_RX10_41 rfl dX10_paste_28 ?_
      refine lv_iload_n hx hb dX10_paste_31 rfl (lv_at hl 4 rfl) ?_
      refine va_aldq hx hb hK.1 hP 1 5 rfl rfl (show ¬ (_ ∨ _) by decide) dX10_paste_32 ?_
      refine W.eq (g2 := F0 m 33 ls [.ref (q 60)]) rfl ?_
      refine lv_astore (lv' := [(7, .ref (q 60)), (6, .ref (q 60)), (0, .ref h), (1, .int 3), (2, .int a2), (3, .int 3), (4, .int a4), (5, .int a5)]) hx hb dX10_paste_33 hl (by decide) rfl (fun ls hl => ?_)
      refine lv_aload hx hb dX10_paste_35 (lv_at hl 1 rfl) ?_
      refine getF hx hb ht hown hK hP iTX7 5 1 rfl rfl (by decide) fl_RX10_354 rfl dX10_paste_37 ?_
      refine lv_if_eq (tgt := 51) hx hb dX10_paste_40 (by decide) (fun c8 => ?_) (fun c7 => False.elim (by revert c7; decide))
      refine lv_bipush (v := (-6)) hx hb dX10_paste_51 (by decide) ?_
      exact retPi hx hb hr hlk hS dX10_paste_53 (by decide)

set_option maxRecDepth 100000 in
set_option maxHeartbeats 4000000 in
theorem pX10_fault (l : Launch) (G : va_G) (cs : Nat → ClassId) (h : Nat) (q : Nat → Nat) (a1 : Int32) : PureI l yX10_fault cX10_fault 2 (some .int) 0 G (TY cs) [.ref h, .int a1] [(xc0 cs h q), (xc1 cs h q)] (spf a1) := by
  rcases csf a1 with rfl | rfl | ⟨hf0, hf1⟩
  · refine mkP (Qc := QPi (spf 0)) (by decide) (by simp [lg_sl, Value.category]) ?_
    intro p e s m args below meth c ls hx hb hml hr hlk hown ht hK hP hS hl
    have hl : lv_has ls 2 [(0, .ref h), (1, .int 0)] := hl
    refine lv_iload_n hx hb dX10_fault_0 rfl (lv_at hl 1 rfl) ?_
    refine lv_lookup (off := 27) (tgt := 28) hx hb dX10_fault_1 (by decide) (by decide) (by decide) ?_
    refine lv_aload_n hx hb dX10_fault_28 rfl (lv_at hl 0 rfl) ?_
    refine getF hx hb ht hown hK hP iTX10 0 0 rfl rfl (by decide) fl_RX10_10 rfl dX10_fault_29 ?_
    refine getF hx hb ht hown hK hP iTX6 1 5 rfl rfl (by decide) fl_RX10_114 rfl dX10_fault_32 ?_
    exact retPi hx hb hr hlk hS dX10_fault_35 (by decide)
  · refine mkP (Qc := QPi (spf 1)) (by decide) (by simp [lg_sl, Value.category]) ?_
    intro p e s m args below meth c ls hx hb hml hr hlk hown ht hK hP hS hl
    have hl : lv_has ls 2 [(0, .ref h), (1, .int 1)] := hl
    refine lv_iload_n hx hb dX10_fault_0 rfl (lv_at hl 1 rfl) ?_
    refine lv_lookup (off := 35) (tgt := 36) hx hb dX10_fault_1 (by decide) (by decide) (by decide) ?_
    refine lv_aload_n hx hb dX10_fault_36 rfl (lv_at hl 0 rfl) ?_
    refine getF hx hb ht hown hK hP iTX10 0 0 rfl rfl (by decide) fl_RX10_10 rfl dX10_fault_37 ?_
    refine getF hx hb ht hown hK hP iTX6 1 6 rfl rfl (by decide) fl_RX10_117 rfl dX10_fault_40 ?_
    exact retPi hx hb hr hlk hS dX10_fault_43 (by decide)
  · refine mkP (Qc := QPi (spf a1)) (by decide) (by simp [lg_sl, Value.category]) ?_
    intro p e s m args below meth c ls hx hb hml hr hlk hown ht hK hP hS hl
    have hl : lv_has ls 2 [(0, .ref h), (1, .int a1)] := hl
    refine lv_iload_n hx hb dX10_fault_0 rfl (lv_at hl 1 rfl) ?_
    refine lv_lookup (off := 43) (tgt := 44) hx hb dX10_fault_1 (by decide) ((lv_osw hf0 (by decide)).trans ((lv_osw hf1 (by decide)).trans rfl)) (by decide) ?_
    refine lv_iconst (v := (-1)) hx hb dX10_fault_44 (by decide) ?_
    exact retPi hx hb hr hlk hS dX10_fault_45 ((if_neg hf0).symm)

