set_option maxRecDepth 100000 in
set_option maxHeartbeats 4000000 in
theorem pX11_card (l : Launch) (G : va_G) (cs : Nat → ClassId) (h : Nat) (q : Nat → Nat) (a1 : Int32) (a2 : Int32) : PureI l yX11_card cX11_card 3 (some .int) 2 G (TY cs) [.ref h, .int a1, .int a2] [(mc0 cs h q), (mc1 cs h q)] (-2) := by
  refine mkP (Qc := QPi (-2)) (by decide) (by simp [lg_sl, Value.category]) ?_
  intro p e s m args below meth c ls hx hb hml hr hlk hown ht hK hP hS hl
  have hl : lv_has ls 3 [(0, .ref h), (1, .int a1), (2, .int a2)] := hl
  refine lv_aload_n hx hb dX11_card_0 rfl (lv_at hl 0 rfl) ?_
  refine lv_iload_n hx hb dX11_card_1 rfl (lv_at hl 1 rfl) ?_
  refine lv_i2l hx hb dX11_card_2 rfl ?_
  refine behI (runVP (As := [.long a1.toInt64]) (rest := []) ⟨hx, hb, hml, hown, ht⟩ (pX11_isRoom l G cs h q a1.toInt64) okV_RX11_89 ⟨by decide, by decide⟩ hK hP [0, 1] rfl 0 rfl rfl hl.1 rfl (Nat.le_of_ble_eq_true rfl) dX11_card_3 ⟨by decide, by decide⟩) hP hS (fun _ h => h) (fun H locs hP hS => ?_)
  refine lv_if_eq (tgt := 30) hx hb dX11_card_6 (by decide) (fun c2 => ?_) (fun c1 => False.elim (by revert c1; decide))
  refine lv_bipush (v := (-2)) hx hb dX11_card_30 (by decide) ?_
  exact retPi hx hb hr hlk hS dX11_card_32 (rfl)

set_option maxRecDepth 100000 in
set_option maxHeartbeats 4000000 in
theorem pX11_desk (l : Launch) (G : va_G) (cs : Nat → ClassId) (h : Nat) (q : Nat → Nat) (a1 : Int32) : PureI l yX11_desk cX11_desk 6 (some .int) 0 G (TY cs) [.ref h, .int a1] [(mc0 cs h q), (mc1 cs h q)] (-2) := by
  refine mkP (Qc := QPi (-2)) (by decide) (by simp [lg_sl, Value.category]) ?_
  intro p e s m args below meth c ls hx hb hml hr hlk hown ht hK hP hS hl
  have hl : lv_has ls 6 [(0, .ref h), (1, .int a1)] := hl
  refine lv_aload_n hx hb dX11_desk_0 rfl (lv_at hl 0 rfl) ?_
  refine getF hx hb ht hown hK hP iTX11 0 1 rfl rfl (by decide) fl_RX11_9 rfl dX11_desk_1 ?_
  refine lv_iconst (v := 4) hx hb dX11_desk_4 (by decide) ?_
  refine va_iald hx hb hK.1 hP 1 0 rfl rfl (show ¬ (_ ∨ _) by decide) dX11_desk_5 ?_
  refine lv_topi (fun v1 ev1 => ?_)
  obtain rfl : v1 = 0 := ev1.trans rfl
  refine lv_if_eq (tgt := 21) hx hb dX11_desk_6 (by decide) (fun c3 => ?_) (fun c2 => False.elim (by revert c2; decide))
  refine lv_bipush (v := (-2)) hx hb dX11_desk_21 (by decide) ?_
  exact retPi hx hb hr hlk hS dX11_desk_23 (rfl)

set_option maxRecDepth 100000 in
set_option maxHeartbeats 4000000 in
theorem pX11_one (l : Launch) (G : va_G) (cs : Nat → ClassId) (h : Nat) (q : Nat → Nat) (a1 : Int32) : PureI l yX11_one cX11_one 2 (some .int) 2 G (TY cs) [.ref h, .int a1] [(mc0 cs h q), (mc1 cs h q)] (-2) := by
  refine mkP (Qc := QPi (-2)) (by decide) (by simp [lg_sl, Value.category]) ?_
  intro p e s m args below meth c ls hx hb hml hr hlk hown ht hK hP hS hl
  have hl : lv_has ls 2 [(0, .ref h), (1, .int a1)] := hl
  refine lv_aload_n hx hb dX11_one_0 rfl (lv_at hl 0 rfl) ?_
  refine lv_iload_n hx hb dX11_one_1 rfl (lv_at hl 1 rfl) ?_
  refine lv_i2l hx hb dX11_one_2 rfl ?_
  refine behI (runVP (As := [.long a1.toInt64]) (rest := []) ⟨hx, hb, hml, hown, ht⟩ (pX11_isRoom l G cs h q a1.toInt64) okV_RX11_89 ⟨by decide, by decide⟩ hK hP [0, 1] rfl 0 rfl rfl hl.1 rfl (Nat.le_of_ble_eq_true rfl) dX11_one_3 ⟨by decide, by decide⟩) hP hS (fun _ h => h) (fun H locs hP hS => ?_)
  refine lv_if_eq (tgt := 23) hx hb dX11_one_6 (by decide) (fun c2 => ?_) (fun c1 => False.elim (by revert c1; decide))
  refine lv_bipush (v := (-2)) hx hb dX11_one_23 (by decide) ?_
  exact retPi hx hb hr hlk hS dX11_one_25 (rfl)

set_option maxRecDepth 100000 in
set_option maxHeartbeats 4000000 in
theorem pX11_two (l : Launch) (G : va_G) (cs : Nat → ClassId) (h : Nat) (q : Nat → Nat) (a1 : Int32) (a2 : Int32) : PureI l yX11_two cX11_two 3 (some .int) 2 G (TY cs) [.ref h, .int a1, .int a2] [(mc0 cs h q), (mc1 cs h q)] (-2) := by
  refine mkP (Qc := QPi (-2)) (by decide) (by simp [lg_sl, Value.category]) ?_
  intro p e s m args below meth c ls hx hb hml hr hlk hown ht hK hP hS hl
  have hl : lv_has ls 3 [(0, .ref h), (1, .int a1), (2, .int a2)] := hl
  refine lv_aload_n hx hb dX11_two_0 rfl (lv_at hl 0 rfl) ?_
  refine lv_iload_n hx hb dX11_two_1 rfl (lv_at hl 1 rfl) ?_
  refine lv_i2l hx hb dX11_two_2 rfl ?_
  refine behI (runVP (As := [.long a1.toInt64]) (rest := []) ⟨hx, hb, hml, hown, ht⟩ (pX11_isRoom l G cs h q a1.toInt64) okV_RX11_89 ⟨by decide, by decide⟩ hK hP [0, 1] rfl 0 rfl rfl hl.1 rfl (Nat.le_of_ble_eq_true rfl) dX11_two_3 ⟨by decide, by decide⟩) hP hS (fun _ h => h) (fun H locs hP hS => ?_)
  refine lv_if_eq (tgt := 32) hx hb dX11_two_6 (by decide) (fun c2 => ?_) (fun c1 => False.elim (by revert c1; decide))
  refine lv_bipush (v := (-2)) hx hb dX11_two_32 (by decide) ?_
  exact retPi hx hb hr hlk hS dX11_two_34 (rfl)

set_option maxRecDepth 100000 in
set_option maxHeartbeats 4000000 in
theorem pX11_way (l : Launch) (G : va_G) (cs : Nat → ClassId) (h : Nat) (q : Nat → Nat) (a1 : Int32) (a2 : Int32) (a3 : Int32) (a4 : Int32) : PureI l yX11_way cX11_way 6 (some .int) 2 G (TY cs) [.ref h, .int a1, .int a2, .int a3, .int a4] [(mc0 cs h q), (mc1 cs h q)] (-2) := by
  refine mkP (Qc := QPi (-2)) (by decide) (by simp [lg_sl, Value.category]) ?_
  intro p e s m args below meth c ls hx hb hml hr hlk hown ht hK hP hS hl
  have hl : lv_has ls 6 [(0, .ref h), (1, .int a1), (2, .int a2), (3, .int a3), (4, .int a4)] := hl
  refine lv_aload_n hx hb dX11_way_0 rfl (lv_at hl 0 rfl) ?_
  refine lv_iload_n hx hb dX11_way_1 rfl (lv_at hl 1 rfl) ?_
  refine lv_i2l hx hb dX11_way_2 rfl ?_
  refine behI (runVP (As := [.long a1.toInt64]) (rest := []) ⟨hx, hb, hml, hown, ht⟩ (pX11_isRoom l G cs h q a1.toInt64) okV_RX11_89 ⟨by decide, by decide⟩ hK hP [0, 1] rfl 0 rfl rfl hl.1 rfl (Nat.le_of_ble_eq_true rfl) dX11_way_3 ⟨by decide, by decide⟩) hP hS (fun _ h => h) (fun H locs hP hS => ?_)
  refine lv_if_eq (tgt := 28) hx hb dX11_way_6 (by decide) (fun c2 => ?_) (fun c1 => False.elim (by revert c1; decide))
  refine lv_bipush (v := (-2)) hx hb dX11_way_28 (by decide) ?_
  exact retPi hx hb hr hlk hS dX11_way_30 (rfl)

set_option maxRecDepth 100000 in
set_option maxHeartbeats 4000000 in
theorem pX11_slips (l : Launch) (G : va_G) (cs : Nat → ClassId) (h : Nat) (q : Nat → Nat) (a1 : Int32) (a2 : Int32) : PureI l yX11_slips cX11_slips 7 (some .int) 3 G (TY cs) [.ref h, .int a1, .int a2] [(mc0 cs h q), (mc1 cs h q)] (-2) := by
  refine mkP (Qc := QPi (-2)) (by decide) (by simp [lg_sl, Value.category]) ?_
  intro p e s m args below meth c ls hx hb hml hr hlk hown ht hK hP hS hl
  have hl : lv_has ls 7 [(0, .ref h), (1, .int a1), (2, .int a2)] := hl
  refine lv_aload_n hx hb dX11_slips_0 rfl (lv_at hl 0 rfl) ?_
  refine lv_iload_n hx hb dX11_slips_1 rfl (lv_at hl 1 rfl) ?_
  refine lv_aload_n hx hb dX11_slips_2 rfl (lv_at hl 0 rfl) ?_
  refine lv_iload_n hx hb dX11_slips_3 rfl (lv_at hl 2 rfl) ?_
  refine lv_i2l hx hb dX11_slips_4 rfl ?_
  refine behI (runVP (As := [.long a2.toInt64]) (rest := [.int a1, .ref h]) ⟨hx, hb, hml, hown, ht⟩ (pX11_isRoom l G cs h q a2.toInt64) okV_RX11_89 ⟨by decide, by decide⟩ hK hP [0, 1] rfl 0 rfl rfl hl.1 rfl (Nat.le_of_ble_eq_true rfl) dX11_slips_5 ⟨by decide, by decide⟩) hP hS (fun _ h => h) (fun H locs hP hS => ?_)
  refine behI (runVP (As := [.int a1, .int 0]) (rest := []) ⟨hx, hb, hml, hown, ht⟩ (pX11_asksRound l G cs h q a1 0) okV_RX11_303 ⟨by decide, by decide⟩ hK hP [0, 1] rfl 0 rfl rfl hl.1 rfl (Nat.le_of_ble_eq_true rfl) dX11_slips_8 ⟨by decide, by decide⟩) hP hS (fun _ h => h) (fun H locs hP hS => ?_)
  refine lv_istore_n (lv' := [(3, .int (-2)), (0, .ref h), (1, .int a1), (2, .int a2)]) hx hb dX11_slips_11 rfl hl (by decide) rfl (fun ls hl => ?_)
  refine lv_iload_n hx hb dX11_slips_12 rfl (lv_at hl 0 rfl) ?_
  refine lv_if_ge (tgt := 18) hx hb dX11_slips_13 (by decide) (fun c1 => False.elim (by revert c1; decide)) (fun c2 => ?_)
  refine lv_iload_n hx hb dX11_slips_16 rfl (lv_at hl 0 rfl) ?_
  exact retPi hx hb hr hlk hS dX11_slips_17 (rfl)

set_option maxRecDepth 100000 in
set_option maxHeartbeats 4000000 in
theorem pX11_boys (l : Launch) (G : va_G) (cs : Nat → ClassId) (h : Nat) (q : Nat → Nat)  : PureI l yX11_boys cX11_boys 2 (some .int) 0 G (TY cs) [.ref h] [(mc0 cs h q), (mc1 cs h q)] (-2) := by
  refine mkP (Qc := QPi (-2)) (by decide) (by simp [lg_sl, Value.category]) ?_
  intro p e s m args below meth c ls hx hb hml hr hlk hown ht hK hP hS hl
  have hl : lv_has ls 2 [(0, .ref h)] := hl
  refine lv_aload_n hx hb dX11_boys_0 rfl (lv_at hl 0 rfl) ?_
  refine getF hx hb ht hown hK hP iTX11 0 1 rfl rfl (by decide) fl_RX11_9 rfl dX11_boys_1 ?_
  refine lv_iconst (v := 4) hx hb dX11_boys_4 (by decide) ?_
  refine va_iald hx hb hK.1 hP 1 0 rfl rfl (show ¬ (_ ∨ _) by decide) dX11_boys_5 ?_
  refine lv_topi (fun v1 ev1 => ?_)
  obtain rfl : v1 = 0 := ev1.trans rfl
  refine lv_if_ne (tgt := 12) hx hb dX11_boys_6 (by decide) (fun c2 => False.elim (by revert c2; decide)) (fun c3 => ?_)
  refine lv_bipush (v := (-2)) hx hb dX11_boys_9 (by decide) ?_
  exact retPi hx hb hr hlk hS dX11_boys_11 (rfl)

set_option maxRecDepth 100000 in
set_option maxHeartbeats 4000000 in
theorem pX11_pairs (l : Launch) (G : va_G) (cs : Nat → ClassId) (h : Nat) (q : Nat → Nat)  : PureI l yX11_pairs cX11_pairs 4 (some .int) 0 G (TY cs) [.ref h] [(mc0 cs h q), (mc1 cs h q)] (-2) := by
  refine mkP (Qc := QPi (-2)) (by decide) (by simp [lg_sl, Value.category]) ?_
  intro p e s m args below meth c ls hx hb hml hr hlk hown ht hK hP hS hl
  have hl : lv_has ls 4 [(0, .ref h)] := hl
  refine lv_aload_n hx hb dX11_pairs_0 rfl (lv_at hl 0 rfl) ?_
  refine getF hx hb ht hown hK hP iTX11 0 1 rfl rfl (by decide) fl_RX11_9 rfl dX11_pairs_1 ?_
  refine lv_iconst (v := 4) hx hb dX11_pairs_4 (by decide) ?_
  refine va_iald hx hb hK.1 hP 1 0 rfl rfl (show ¬ (_ ∨ _) by decide) dX11_pairs_5 ?_
  refine lv_topi (fun v1 ev1 => ?_)
  obtain rfl : v1 = 0 := ev1.trans rfl
  refine lv_if_ne (tgt := 12) hx hb dX11_pairs_6 (by decide) (fun c2 => False.elim (by revert c2; decide)) (fun c3 => ?_)
  refine lv_bipush (v := (-2)) hx hb dX11_pairs_9 (by decide) ?_
  exact retPi hx hb hr hlk hS dX11_pairs_11 (rfl)

set_option maxRecDepth 100000 in
set_option maxHeartbeats 4000000 in
theorem pX11_which (l : Launch) (G : va_G) (cs : Nat → ClassId) (h : Nat) (q : Nat → Nat) (a1 : Int32) : PureI l yX11_which cX11_which 2 (some .int) 2 G (TY cs) [.ref h, .int a1] [(mc0 cs h q), (mc1 cs h q)] (-2) := by
  refine mkP (Qc := QPi (-2)) (by decide) (by simp [lg_sl, Value.category]) ?_
  intro p e s m args below meth c ls hx hb hml hr hlk hown ht hK hP hS hl
  have hl : lv_has ls 2 [(0, .ref h), (1, .int a1)] := hl
  refine lv_aload_n hx hb dX11_which_0 rfl (lv_at hl 0 rfl) ?_
  refine lv_iload_n hx hb dX11_which_1 rfl (lv_at hl 1 rfl) ?_
  refine behI (runVP (As := [.int a1]) (rest := []) ⟨hx, hb, hml, hown, ht⟩ (pX11_areMen l G cs h q a1) okV_RX11_375 ⟨by decide, by decide⟩ hK hP [0, 1] rfl 0 rfl rfl hl.1 rfl (Nat.le_of_ble_eq_true rfl) dX11_which_2 ⟨by decide, by decide⟩) hP hS (fun _ h => h) (fun H locs hP hS => ?_)
  refine lv_if_ne (tgt := 11) hx hb dX11_which_5 (by decide) (fun c1 => False.elim (by revert c1; decide)) (fun c2 => ?_)
  refine lv_bipush (v := (-2)) hx hb dX11_which_8 (by decide) ?_
  exact retPi hx hb hr hlk hS dX11_which_10 (rfl)

set_option maxRecDepth 100000 in
set_option maxHeartbeats 4000000 in
theorem pX11_question (l : Launch) (G : va_G) (cs : Nat → ClassId) (h : Nat) (q : Nat → Nat) (a1 : Int32) : PureI l yX11_question cX11_question 3 (some .int) 2 G (TY cs) [.ref h, .int a1] [(mc0 cs h q), (mc1 cs h q)] (-2) := by
  refine mkP (Qc := QPi (-2)) (by decide) (by simp [lg_sl, Value.category]) ?_
  intro p e s m args below meth c ls hx hb hml hr hlk hown ht hK hP hS hl
  have hl : lv_has ls 3 [(0, .ref h), (1, .int a1)] := hl
  refine lv_aload_n hx hb dX11_question_0 rfl (lv_at hl 0 rfl) ?_
  refine lv_iload_n hx hb dX11_question_1 rfl (lv_at hl 1 rfl) ?_
  refine behI (runVP (As := [.int a1]) (rest := []) ⟨hx, hb, hml, hown, ht⟩ (pX11_areMen l G cs h q a1) okV_RX11_375 ⟨by decide, by decide⟩ hK hP [0, 1] rfl 0 rfl rfl hl.1 rfl (Nat.le_of_ble_eq_true rfl) dX11_question_2 ⟨by decide, by decide⟩) hP hS (fun _ h => h) (fun H locs hP hS => ?_)
  refine lv_if_ne (tgt := 11) hx hb dX11_question_5 (by decide) (fun c1 => False.elim (by revert c1; decide)) (fun c2 => ?_)
  refine lv_bipush (v := (-2)) hx hb dX11_question_8 (by decide) ?_
  exact retPi hx hb hr hlk hS dX11_question_10 (rfl)

set_option maxRecDepth 100000 in
set_option maxHeartbeats 4000000 in
theorem pX11_yes (l : Launch) (G : va_G) (cs : Nat → ClassId) (h : Nat) (q : Nat → Nat) (a1 : Int32) (a2 : Int32) : PureI l yX11_yes cX11_yes 3 (some .int) 2 G (TY cs) [.ref h, .int a1, .int a2] [(mc0 cs h q), (mc1 cs h q)] (-2) := by
  refine mkP (Qc := QPi (-2)) (by decide) (by simp [lg_sl, Value.category]) ?_
  intro p e s m args below meth c ls hx hb hml hr hlk hown ht hK hP hS hl
  have hl : lv_has ls 3 [(0, .ref h), (1, .int a1), (2, .int a2)] := hl
  refine lv_aload_n hx hb dX11_yes_0 rfl (lv_at hl 0 rfl) ?_
  refine lv_iload_n hx hb dX11_yes_1 rfl (lv_at hl 1 rfl) ?_
  refine behI (runVP (As := [.int a1]) (rest := []) ⟨hx, hb, hml, hown, ht⟩ (pX11_areMen l G cs h q a1) okV_RX11_375 ⟨by decide, by decide⟩ hK hP [0, 1] rfl 0 rfl rfl hl.1 rfl (Nat.le_of_ble_eq_true rfl) dX11_yes_2 ⟨by decide, by decide⟩) hP hS (fun _ h => h) (fun H locs hP hS => ?_)
  refine lv_if_eq (tgt := 29) hx hb dX11_yes_5 (by decide) (fun c2 => ?_) (fun c1 => False.elim (by revert c1; decide))
  refine lv_bipush (v := (-2)) hx hb dX11_yes_29 (by decide) ?_
  exact retPi hx hb hr hlk hS dX11_yes_31 (rfl)

set_option maxRecDepth 100000 in
set_option maxHeartbeats 4000000 in
theorem pX11_list (l : Launch) (G : va_G) (cs : Nat → ClassId) (h : Nat) (q : Nat → Nat) (a1 : Int32) : PureI l yX11_list cX11_list 4 (some .int) 2 G (TY cs) [.ref h, .int a1] [(mc0 cs h q), (mc1 cs h q)] (-2) := by
  refine mkP (Qc := QPi (-2)) (by decide) (by simp [lg_sl, Value.category]) ?_
  intro p e s m args below meth c ls hx hb hml hr hlk hown ht hK hP hS hl
  have hl : lv_has ls 4 [(0, .ref h), (1, .int a1)] := hl
  refine lv_aload_n hx hb dX11_list_0 rfl (lv_at hl 0 rfl) ?_
  refine lv_iload_n hx hb dX11_list_1 rfl (lv_at hl 1 rfl) ?_
  refine behI (runVP (As := [.int a1]) (rest := []) ⟨hx, hb, hml, hown, ht⟩ (pX11_areMen l G cs h q a1) okV_RX11_375 ⟨by decide, by decide⟩ hK hP [0, 1] rfl 0 rfl rfl hl.1 rfl (Nat.le_of_ble_eq_true rfl) dX11_list_2 ⟨by decide, by decide⟩) hP hS (fun _ h => h) (fun H locs hP hS => ?_)
  refine lv_if_ne (tgt := 11) hx hb dX11_list_5 (by decide) (fun c1 => False.elim (by revert c1; decide)) (fun c2 => ?_)
  refine lv_bipush (v := (-2)) hx hb dX11_list_8 (by decide) ?_
  exact retPi hx hb hr hlk hS dX11_list_10 (rfl)

set_option maxRecDepth 100000 in
set_option maxHeartbeats 4000000 in
theorem pX11_meant (l : Launch) (G : va_G) (cs : Nat → ClassId) (h : Nat) (q : Nat → Nat) (a1 : Int32) (a2 : Int32) (a3 : Int32) : PureI l yX11_meant cX11_meant 6 (some .int) 2 G (TY cs) [.ref h, .int a1, .int a2, .int a3] [(mc0 cs h q), (mc1 cs h q)] (-2) := by
  refine mkP (Qc := QPi (-2)) (by decide) (by simp [lg_sl, Value.category]) ?_
  intro p e s m args below meth c ls hx hb hml hr hlk hown ht hK hP hS hl
  have hl : lv_has ls 6 [(0, .ref h), (1, .int a1), (2, .int a2), (3, .int a3)] := hl
  refine lv_aload_n hx hb dX11_meant_0 rfl (lv_at hl 0 rfl) ?_
  refine lv_iload_n hx hb dX11_meant_1 rfl (lv_at hl 1 rfl) ?_
  refine behI (runVP (As := [.int a1]) (rest := []) ⟨hx, hb, hml, hown, ht⟩ (pX11_areMen l G cs h q a1) okV_RX11_375 ⟨by decide, by decide⟩ hK hP [0, 1] rfl 0 rfl rfl hl.1 rfl (Nat.le_of_ble_eq_true rfl) dX11_meant_2 ⟨by decide, by decide⟩) hP hS (fun _ h => h) (fun H locs hP hS => ?_)
  refine lv_if_eq (tgt := 26) hx hb dX11_meant_5 (by decide) (fun c2 => ?_) (fun c1 => False.elim (by revert c1; decide))
  refine lv_bipush (v := (-2)) hx hb dX11_meant_26 (by decide) ?_
  exact retPi hx hb hr hlk hS dX11_meant_28 (rfl)

set_option maxRecDepth 100000 in
set_option maxHeartbeats 4000000 in
theorem pX11_read (l : Launch) (G : va_G) (cs : Nat → ClassId) (h : Nat) (q : Nat → Nat) (a1 : Int32) (a2 : Int32) (a3 : Int32) : PureL l yX11_read cX11_read 4 (some .long) 2 G (TY cs) [.ref h, .int a1, .int a2, .int a3] [(mc0 cs h q), (mc1 cs h q)] (-2) := by
  refine mkP (Qc := QPl (-2)) (by decide) (by simp [lg_sl, Value.category]) ?_
  intro p e s m args below meth c ls hx hb hml hr hlk hown ht hK hP hS hl
  have hl : lv_has ls 4 [(0, .ref h), (1, .int a1), (2, .int a2), (3, .int a3)] := hl
  refine lv_aload_n hx hb dX11_read_0 rfl (lv_at hl 0 rfl) ?_
  refine lv_iload_n hx hb dX11_read_1 rfl (lv_at hl 1 rfl) ?_
  refine behI (runVP (As := [.int a1]) (rest := []) ⟨hx, hb, hml, hown, ht⟩ (pX11_isMan l G cs h q a1) okV_RX11_230 ⟨by decide, by decide⟩ hK hP [0, 1] rfl 0 rfl rfl hl.1 rfl (Nat.le_of_ble_eq_true rfl) dX11_read_2 ⟨by decide, by decide⟩) hP hS (fun _ h => h) (fun H locs hP hS => ?_)
  refine lv_if_eq (tgt := 26) hx hb dX11_read_5 (by decide) (fun c2 => ?_) (fun c1 => False.elim (by revert c1; decide))
  refine lv_ldc2 hx hb hown (ht _ kl_RX11_401) dX11_read_26 ?_
  exact retPl hx hb hr hlk hS dX11_read_29 (rfl)

set_option maxRecDepth 100000 in
set_option maxHeartbeats 4000000 in
theorem pX11_guess (l : Launch) (G : va_G) (cs : Nat → ClassId) (h : Nat) (q : Nat → Nat) (a1 : Int32) : PureI l yX11_guess cX11_guess 4 (some .int) 2 G (TY cs) [.ref h, .int a1] [(mc0 cs h q), (mc1 cs h q)] (-2) := by
  refine mkP (Qc := QPi (-2)) (by decide) (by simp [lg_sl, Value.category]) ?_
  intro p e s m args below meth c ls hx hb hml hr hlk hown ht hK hP hS hl
  have hl : lv_has ls 4 [(0, .ref h), (1, .int a1)] := hl
  refine lv_aload_n hx hb dX11_guess_0 rfl (lv_at hl 0 rfl) ?_
  refine lv_iload_n hx hb dX11_guess_1 rfl (lv_at hl 1 rfl) ?_
  refine behI (runVP (As := [.int a1]) (rest := []) ⟨hx, hb, hml, hown, ht⟩ (pX11_isMan l G cs h q a1) okV_RX11_230 ⟨by decide, by decide⟩ hK hP [0, 1] rfl 0 rfl rfl hl.1 rfl (Nat.le_of_ble_eq_true rfl) dX11_guess_2 ⟨by decide, by decide⟩) hP hS (fun _ h => h) (fun H locs hP hS => ?_)
  refine lv_if_ne (tgt := 11) hx hb dX11_guess_5 (by decide) (fun c1 => False.elim (by revert c1; decide)) (fun c2 => ?_)
  refine lv_bipush (v := (-2)) hx hb dX11_guess_8 (by decide) ?_
  exact retPi hx hb hr hlk hS dX11_guess_10 (rfl)

set_option maxRecDepth 100000 in
set_option maxHeartbeats 4000000 in
theorem pX11_right (l : Launch) (G : va_G) (cs : Nat → ClassId) (h : Nat) (q : Nat → Nat) (a1 : Int32) : PureL l yX11_right cX11_right 8 (some .long) 0 G (TY cs) [.ref h, .int a1] [(mc0 cs h q), (mc1 cs h q)] (-2) := by
  refine mkP (Qc := QPl (-2)) (by decide) (by simp [lg_sl, Value.category]) ?_
  intro p e s m args below meth c ls hx hb hml hr hlk hown ht hK hP hS hl
  have hl : lv_has ls 8 [(0, .ref h), (1, .int a1)] := hl
  refine lv_aload_n hx hb dX11_right_0 rfl (lv_at hl 0 rfl) ?_
  refine getF hx hb ht hown hK hP iTX11 0 1 rfl rfl (by decide) fl_RX11_9 rfl dX11_right_1 ?_
  refine lv_iconst (v := 5) hx hb dX11_right_4 (by decide) ?_
  refine va_iald hx hb hK.1 hP 1 0 rfl rfl (show ¬ (_ ∨ _) by decide) dX11_right_5 ?_
  refine lv_topi (fun v1 ev1 => ?_)
  obtain rfl : v1 = 0 := ev1.trans rfl
  refine lv_if_eq (tgt := 19) hx hb dX11_right_6 (by decide) (fun c3 => ?_) (fun c2 => False.elim (by revert c2; decide))
  refine lv_ldc2 hx hb hown (ht _ kl_RX11_401) dX11_right_19 ?_
  exact retPl hx hb hr hlk hS dX11_right_22 (rfl)

set_option maxRecDepth 100000 in
set_option maxHeartbeats 4000000 in
theorem pX11_habit (l : Launch) (G : va_G) (cs : Nat → ClassId) (h : Nat) (q : Nat → Nat) (a1 : Int32) : PureI l yX11_habit cX11_habit 3 (some .int) 3 G (TY cs) [.ref h, .int a1] [(mc0 cs h q), (mc1 cs h q)] (-2) := by
  refine mkP (Qc := QPi (-2)) (by decide) (by simp [lg_sl, Value.category]) ?_
  intro p e s m args below meth c ls hx hb hml hr hlk hown ht hK hP hS hl
  have hl : lv_has ls 3 [(0, .ref h), (1, .int a1)] := hl
  refine lv_aload_n hx hb dX11_habit_0 rfl (lv_at hl 0 rfl) ?_
  refine lv_iload_n hx hb dX11_habit_1 rfl (lv_at hl 1 rfl) ?_
  refine lv_iconst (v := 1) hx hb dX11_habit_2 (by decide) ?_
  refine behI (runVP (As := [.int a1, .int 1]) (rest := []) ⟨hx, hb, hml, hown, ht⟩ (pX11_asksHabit l G cs h q a1 1) okV_RX11_406 ⟨by decide, by decide⟩ hK hP [0, 1] rfl 0 rfl rfl hl.1 rfl (Nat.le_of_ble_eq_true rfl) dX11_habit_3 ⟨by decide, by decide⟩) hP hS (fun _ h => h) (fun H locs hP hS => ?_)
  refine lv_istore_n (lv' := [(2, .int (-2)), (0, .ref h), (1, .int a1)]) hx hb dX11_habit_6 rfl hl (by decide) rfl (fun ls hl => ?_)
  refine lv_iload_n hx hb dX11_habit_7 rfl (lv_at hl 0 rfl) ?_
  refine lv_if_ge (tgt := 15) hx hb dX11_habit_8 (by decide) (fun c1 => False.elim (by revert c1; decide)) (fun c2 => ?_)
  refine lv_iload_n hx hb dX11_habit_11 rfl (lv_at hl 0 rfl) ?_
  refine lv_goto (tgt := 21) hx hb dX11_habit_12 (by decide) ?_
  exact retPi hx hb hr hlk hS dX11_habit_21 (rfl)

set_option maxRecDepth 100000 in
set_option maxHeartbeats 4000000 in
theorem pX11_follows (l : Launch) (G : va_G) (cs : Nat → ClassId) (h : Nat) (q : Nat → Nat) (a1 : Int32) (a2 : Int32) : PureI l yX11_follows cX11_follows 4 (some .int) 3 G (TY cs) [.ref h, .int a1, .int a2] [(mc0 cs h q), (mc1 cs h q)] (-2) := by
  refine mkP (Qc := QPi (-2)) (by decide) (by simp [lg_sl, Value.category]) ?_
  intro p e s m args below meth c ls hx hb hml hr hlk hown ht hK hP hS hl
  have hl : lv_has ls 4 [(0, .ref h), (1, .int a1), (2, .int a2)] := hl
  refine lv_aload_n hx hb dX11_follows_0 rfl (lv_at hl 0 rfl) ?_
  refine lv_iload_n hx hb dX11_follows_1 rfl (lv_at hl 1 rfl) ?_
  refine lv_aload_n hx hb dX11_follows_2 rfl (lv_at hl 0 rfl) ?_
  refine lv_iload_n hx hb dX11_follows_3 rfl (lv_at hl 2 rfl) ?_
  refine lv_i2l hx hb dX11_follows_4 rfl ?_
  refine behI (runVP (As := [.long a2.toInt64]) (rest := [.int a1, .ref h]) ⟨hx, hb, hml, hown, ht⟩ (pX11_isRoom l G cs h q a2.toInt64) okV_RX11_89 ⟨by decide, by decide⟩ hK hP [0, 1] rfl 0 rfl rfl hl.1 rfl (Nat.le_of_ble_eq_true rfl) dX11_follows_5 ⟨by decide, by decide⟩) hP hS (fun _ h => h) (fun H locs hP hS => ?_)
  refine behI (runVP (As := [.int a1, .int 0]) (rest := []) ⟨hx, hb, hml, hown, ht⟩ (pX11_asksHabit l G cs h q a1 0) okV_RX11_406 ⟨by decide, by decide⟩ hK hP [0, 1] rfl 0 rfl rfl hl.1 rfl (Nat.le_of_ble_eq_true rfl) dX11_follows_8 ⟨by decide, by decide⟩) hP hS (fun _ h => h) (fun H locs hP hS => ?_)
  refine lv_istore_n (lv' := [(3, .int (-2)), (0, .ref h), (1, .int a1), (2, .int a2)]) hx hb dX11_follows_11 rfl hl (by decide) rfl (fun ls hl => ?_)
  refine lv_iload_n hx hb dX11_follows_12 rfl (lv_at hl 0 rfl) ?_
  refine lv_if_ge (tgt := 20) hx hb dX11_follows_13 (by decide) (fun c1 => False.elim (by revert c1; decide)) (fun c2 => ?_)
  refine lv_iload_n hx hb dX11_follows_16 rfl (lv_at hl 0 rfl) ?_
  refine lv_goto (tgt := 26) hx hb dX11_follows_17 (by decide) ?_
  exact retPi hx hb hr hlk hS dX11_follows_26 (rfl)

set_option maxRecDepth 100000 in
set_option maxHeartbeats 4000000 in
theorem pX11_period (l : Launch) (G : va_G) (cs : Nat → ClassId) (h : Nat) (q : Nat → Nat) (a1 : Int32) : PureI l yX11_period cX11_period 6 (some .int) 3 G (TY cs) [.ref h, .int a1] [(mc0 cs h q), (mc1 cs h q)] (-2) := by
  refine mkP (Qc := QPi (-2)) (by decide) (by simp [lg_sl, Value.category]) ?_
  intro p e s m args below meth c ls hx hb hml hr hlk hown ht hK hP hS hl
  have hl : lv_has ls 6 [(0, .ref h), (1, .int a1)] := hl
  refine lv_aload_n hx hb dX11_period_0 rfl (lv_at hl 0 rfl) ?_
  refine lv_iload_n hx hb dX11_period_1 rfl (lv_at hl 1 rfl) ?_
  refine lv_iconst (v := 1) hx hb dX11_period_2 (by decide) ?_
  refine behI (runVP (As := [.int a1, .int 1]) (rest := []) ⟨hx, hb, hml, hown, ht⟩ (pX11_asksHabit l G cs h q a1 1) okV_RX11_406 ⟨by decide, by decide⟩ hK hP [0, 1] rfl 0 rfl rfl hl.1 rfl (Nat.le_of_ble_eq_true rfl) dX11_period_3 ⟨by decide, by decide⟩) hP hS (fun _ h => h) (fun H locs hP hS => ?_)
  refine lv_istore_n (lv' := [(2, .int (-2)), (0, .ref h), (1, .int a1)]) hx hb dX11_period_6 rfl hl (by decide) rfl (fun ls hl => ?_)
  refine lv_iload_n hx hb dX11_period_7 rfl (lv_at hl 0 rfl) ?_
  refine lv_if_ge (tgt := 13) hx hb dX11_period_8 (by decide) (fun c1 => False.elim (by revert c1; decide)) (fun c2 => ?_)
  refine lv_iload_n hx hb dX11_period_11 rfl (lv_at hl 0 rfl) ?_
  exact retPi hx hb hr hlk hS dX11_period_12 (rfl)

set_option maxRecDepth 100000 in
set_option maxHeartbeats 4000000 in
theorem pX11_drawn (l : Launch) (G : va_G) (cs : Nat → ClassId) (h : Nat) (q : Nat → Nat) (a1 : Int32) (a2 : Int32) (a3 : Int32) : PureI l yX11_drawn cX11_drawn 5 (some .int) 3 G (TY cs) [.ref h, .int a1, .int a2, .int a3] [(mc0 cs h q), (mc1 cs h q)] (-2) := by
  refine mkP (Qc := QPi (-2)) (by decide) (by simp [lg_sl, Value.category]) ?_
  intro p e s m args below meth c ls hx hb hml hr hlk hown ht hK hP hS hl
  have hl : lv_has ls 5 [(0, .ref h), (1, .int a1), (2, .int a2), (3, .int a3)] := hl
  refine lv_aload_n hx hb dX11_drawn_0 rfl (lv_at hl 0 rfl) ?_
  refine lv_iload_n hx hb dX11_drawn_1 rfl (lv_at hl 2 rfl) ?_
  refine lv_iload_n hx hb dX11_drawn_2 rfl (lv_at hl 1 rfl) ?_
  refine behI (runSP (As := [.int a1]) (rest := [.int a2, .ref h]) ⟨hx, hb, hml, hown, ht⟩ (pX11_isSeed l G cs h q a1) okS_RX11_441 ⟨by decide, by decide⟩ hK hP [] rfl hl.1 rfl (Nat.le_of_ble_eq_true rfl) dX11_drawn_3 ⟨by decide, by decide⟩) hP hS (fun _ h => h) (fun H locs hP hS => ?_)
  refine lv_if_eq (tgt := 23) hx hb dX11_drawn_6 (by decide) (fun c1 => ?_) (fun c1 => ?_)
  · refine lv_iconst (v := 0) hx hb dX11_drawn_23 (by decide) ?_
    refine behI (runVP (As := [.int a2, .int 0]) (rest := []) ⟨hx, hb, hml, hown, ht⟩ (pX11_asksRound l G cs h q a2 0) okV_RX11_303 ⟨by decide, by decide⟩ hK hP [0, 1] rfl 0 rfl rfl hl.1 rfl (Nat.le_of_ble_eq_true rfl) dX11_drawn_24 ⟨by decide, by decide⟩) hP hS (fun _ h => h) (fun H locs hP hS => ?_)
    refine lv_istore (lv' := [(4, .int (-2)), (0, .ref h), (1, .int a1), (2, .int a2), (3, .int a3)]) hx hb dX11_drawn_27 hl (by decide) rfl (fun ls hl => ?_)
    refine lv_iload hx hb dX11_drawn_29 (lv_at hl 0 rfl) ?_
    refine lv_if_ge (tgt := 37) hx hb dX11_drawn_31 (by decide) (fun c2 => False.elim (by revert c2; decide)) (fun c3 => ?_)
    refine lv_iload hx hb dX11_drawn_34 (lv_at hl 0 rfl) ?_
    exact retPi hx hb hr hlk hS dX11_drawn_36 (rfl)
  · refine lv_iload_n hx hb dX11_drawn_9 rfl (lv_at hl 3 rfl) ?_
    refine lv_i2l hx hb dX11_drawn_10 rfl ?_
    refine lv_lconst (v := 0) hx hb dX11_drawn_11 (by decide) ?_
    refine lv_lconst (v := 1) hx hb dX11_drawn_12 (by decide) ?_
    refine behI (runSP (As := [.long a3.toInt64, .long 0, .long 1]) (rest := [.int a2, .ref h]) ⟨hx, hb, hml, hown, ht⟩ (pX11_in l G cs h q a3.toInt64 0 1) okS_RX11_79 ⟨by decide, by decide⟩ hK hP [] rfl hl.1 rfl (Nat.le_of_ble_eq_true rfl) dX11_drawn_13 ⟨by decide, by decide⟩) hP hS (fun _ h => h) (fun H locs hP hS => ?_)
    refine lv_if_eq (tgt := 23) hx hb dX11_drawn_16 (by decide) (fun c4 => ?_) (fun c4 => ?_)
    · refine lv_iconst (v := 0) hx hb dX11_drawn_23 (by decide) ?_
      refine behI (runVP (As := [.int a2, .int 0]) (rest := []) ⟨hx, hb, hml, hown, ht⟩ (pX11_asksRound l G cs h q a2 0) okV_RX11_303 ⟨by decide, by decide⟩ hK hP [0, 1] rfl 0 rfl rfl hl.1 rfl (Nat.le_of_ble_eq_true rfl) dX11_drawn_24 ⟨by decide, by decide⟩) hP hS (fun _ h => h) (fun H locs hP hS => ?_)
      refine lv_istore (lv' := [(4, .int (-2)), (0, .ref h), (1, .int a1), (2, .int a2), (3, .int a3)]) hx hb dX11_drawn_27 hl (by decide) rfl (fun ls hl => ?_)
      refine lv_iload hx hb dX11_drawn_29 (lv_at hl 0 rfl) ?_
      refine lv_if_ge (tgt := 37) hx hb dX11_drawn_31 (by decide) (fun c5 => False.elim (by revert c5; decide)) (fun c6 => ?_)
      refine lv_iload hx hb dX11_drawn_34 (lv_at hl 0 rfl) ?_
      exact retPi hx hb hr hlk hS dX11_drawn_36 (rfl)
    · refine lv_iconst (v := 1) hx hb dX11_drawn_19 (by decide) ?_
      refine lv_goto (tgt := 24) hx hb dX11_drawn_20 (by decide) ?_
      refine behI (runVP (As := [.int a2, .int 1]) (rest := []) ⟨hx, hb, hml, hown, ht⟩ (pX11_asksRound l G cs h q a2 1) okV_RX11_303 ⟨by decide, by decide⟩ hK hP [0, 1] rfl 0 rfl rfl hl.1 rfl (Nat.le_of_ble_eq_true rfl) dX11_drawn_24 ⟨by decide, by decide⟩) hP hS (fun _ h => h) (fun H locs hP hS => ?_)
      refine lv_istore (lv' := [(4, .int (-2)), (0, .ref h), (1, .int a1), (2, .int a2), (3, .int a3)]) hx hb dX11_drawn_27 hl (by decide) rfl (fun ls hl => ?_)
      refine lv_iload hx hb dX11_drawn_29 (lv_at hl 0 rfl) ?_
      refine lv_if_ge (tgt := 37) hx hb dX11_drawn_31 (by decide) (fun c7 => False.elim (by revert c7; decide)) (fun c8 => ?_)
      refine lv_iload hx hb dX11_drawn_34 (lv_at hl 0 rfl) ?_
      exact retPi hx hb hr hlk hS dX11_drawn_36 (rfl)

