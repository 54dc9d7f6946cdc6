set_option maxRecDepth 100000 in
set_option maxHeartbeats 4000000 in
theorem pX11_lot (l : Launch) (G : va_G) (cs : Nat → ClassId) (h : Nat) (q : Nat → Nat) (a1 : Int32) (a2 : Int32) (a3 : Int32) : PureI l yX11_lot cX11_lot 7 (some .int) 3 G (TY cs) [.ref h, .int a1, .int a2, .int a3] [(mc0 cs h q), (mc1 cs h q)] (-2) := by
  refine mkP (Qc := QPi (-2)) (by decide) (by simp [lg_sl, Value.category]) ?_
  intro p e s m args below meth c ls hx hb hml hr hlk hown ht hK hP hS hl
  have hl : lv_has ls 7 [(0, .ref h), (1, .int a1), (2, .int a2), (3, .int a3)] := hl
  refine lv_aload_n hx hb dX11_lot_0 rfl (lv_at hl 0 rfl) ?_
  refine lv_iload_n hx hb dX11_lot_1 rfl (lv_at hl 2 rfl) ?_
  refine lv_iload_n hx hb dX11_lot_2 rfl (lv_at hl 1 rfl) ?_
  refine behI (runSP (As := [.int a1]) (rest := [.int a2, .ref h]) ⟨hx, hb, hml, hown, ht⟩ (pX11_isSeed l G cs h q a1) okS_RX11_441 ⟨by decide, by decide⟩ hK hP [] rfl hl.1 rfl (Nat.le_of_ble_eq_true rfl) dX11_lot_3 ⟨by decide, by decide⟩) hP hS (fun _ h => h) (fun H locs hP hS => ?_)
  refine lv_if_eq (tgt := 25) hx hb dX11_lot_6 (by decide) (fun c1 => ?_) (fun c1 => ?_)
  · refine lv_iconst (v := 0) hx hb dX11_lot_25 (by decide) ?_
    refine behI (runVP (As := [.int a2, .int 0]) (rest := []) ⟨hx, hb, hml, hown, ht⟩ (pX11_asksRound l G cs h q a2 0) okV_RX11_303 ⟨by decide, by decide⟩ hK hP [0, 1] rfl 0 rfl rfl hl.1 rfl (Nat.le_of_ble_eq_true rfl) dX11_lot_26 ⟨by decide, by decide⟩) hP hS (fun _ h => h) (fun H locs hP hS => ?_)
    refine lv_istore (lv' := [(4, .int (-2)), (0, .ref h), (1, .int a1), (2, .int a2), (3, .int a3)]) hx hb dX11_lot_29 hl (by decide) rfl (fun ls hl => ?_)
    refine lv_iload hx hb dX11_lot_31 (lv_at hl 0 rfl) ?_
    refine lv_if_ge (tgt := 39) hx hb dX11_lot_33 (by decide) (fun c2 => False.elim (by revert c2; decide)) (fun c3 => ?_)
    refine lv_iload hx hb dX11_lot_36 (lv_at hl 0 rfl) ?_
    exact retPi hx hb hr hlk hS dX11_lot_38 (rfl)
  · refine lv_iload_n hx hb dX11_lot_9 rfl (lv_at hl 3 rfl) ?_
    refine lv_i2l hx hb dX11_lot_10 rfl ?_
    refine lv_lconst (v := 1) hx hb dX11_lot_11 (by decide) ?_
    refine lv_ldc2 hx hb hown (ht _ kl_RX11_448) dX11_lot_12 ?_
    refine behI (runSP (As := [.long a3.toInt64, .long 1, .long 20]) (rest := [.int a2, .ref h]) ⟨hx, hb, hml, hown, ht⟩ (pX11_in l G cs h q a3.toInt64 1 20) okS_RX11_79 ⟨by decide, by decide⟩ hK hP [] rfl hl.1 rfl (Nat.le_of_ble_eq_true rfl) dX11_lot_15 ⟨by decide, by decide⟩) hP hS (fun _ h => h) (fun H locs hP hS => ?_)
    refine lv_if_eq (tgt := 25) hx hb dX11_lot_18 (by decide) (fun c4 => ?_) (fun c4 => ?_)
    · refine lv_iconst (v := 0) hx hb dX11_lot_25 (by decide) ?_
      refine behI (runVP (As := [.int a2, .int 0]) (rest := []) ⟨hx, hb, hml, hown, ht⟩ (pX11_asksRound l G cs h q a2 0) okV_RX11_303 ⟨by decide, by decide⟩ hK hP [0, 1] rfl 0 rfl rfl hl.1 rfl (Nat.le_of_ble_eq_true rfl) dX11_lot_26 ⟨by decide, by decide⟩) hP hS (fun _ h => h) (fun H locs hP hS => ?_)
      refine lv_istore (lv' := [(4, .int (-2)), (0, .ref h), (1, .int a1), (2, .int a2), (3, .int a3)]) hx hb dX11_lot_29 hl (by decide) rfl (fun ls hl => ?_)
      refine lv_iload hx hb dX11_lot_31 (lv_at hl 0 rfl) ?_
      refine lv_if_ge (tgt := 39) hx hb dX11_lot_33 (by decide) (fun c5 => False.elim (by revert c5; decide)) (fun c6 => ?_)
      refine lv_iload hx hb dX11_lot_36 (lv_at hl 0 rfl) ?_
      exact retPi hx hb hr hlk hS dX11_lot_38 (rfl)
    · refine lv_iconst (v := 1) hx hb dX11_lot_21 (by decide) ?_
      refine lv_goto (tgt := 26) hx hb dX11_lot_22 (by decide) ?_
      refine behI (runVP (As := [.int a2, .int 1]) (rest := []) ⟨hx, hb, hml, hown, ht⟩ (pX11_asksRound l G cs h q a2 1) okV_RX11_303 ⟨by decide, by decide⟩ hK hP [0, 1] rfl 0 rfl rfl hl.1 rfl (Nat.le_of_ble_eq_true rfl) dX11_lot_26 ⟨by decide, by decide⟩) hP hS (fun _ h => h) (fun H locs hP hS => ?_)
      refine lv_istore (lv' := [(4, .int (-2)), (0, .ref h), (1, .int a1), (2, .int a2), (3, .int a3)]) hx hb dX11_lot_29 hl (by decide) rfl (fun ls hl => ?_)
      refine lv_iload hx hb dX11_lot_31 (lv_at hl 0 rfl) ?_
      refine lv_if_ge (tgt := 39) hx hb dX11_lot_33 (by decide) (fun c7 => False.elim (by revert c7; decide)) (fun c8 => ?_)
      refine lv_iload hx hb dX11_lot_36 (lv_at hl 0 rfl) ?_
      exact retPi hx hb hr hlk hS dX11_lot_38 (rfl)

set_option maxRecDepth 100000 in
set_option maxHeartbeats 4000000 in
theorem pX11_tell (l : Launch) (G : va_G) (cs : Nat → ClassId) (h : Nat) (q : Nat → Nat) (a1 : Int32) (a2 : Int32) (a3 : Int32) : PureI l yX11_tell cX11_tell 5 (some .int) 2 G (TY cs) [.ref h, .int a1, .int a2, .int a3] [(mc0 cs h q), (mc1 cs h q)] (-2) := by
  refine mkP (Qc := QPi (-2)) (by decide) (by simp [lg_sl, Value.category]) ?_
  intro p e s m args below meth c ls hx hb hml hr hlk hown ht hK hP hS hl
  have hl : lv_has ls 5 [(0, .ref h), (1, .int a1), (2, .int a2), (3, .int a3)] := hl
  refine lv_aload_n hx hb dX11_tell_0 rfl (lv_at hl 0 rfl) ?_
  refine lv_iload_n hx hb dX11_tell_1 rfl (lv_at hl 1 rfl) ?_
  refine lv_i2l hx hb dX11_tell_2 rfl ?_
  refine behI (runVP (As := [.long a1.toInt64]) (rest := []) ⟨hx, hb, hml, hown, ht⟩ (pX11_isRoom l G cs h q a1.toInt64) okV_RX11_89 ⟨by decide, by decide⟩ hK hP [0, 1] rfl 0 rfl rfl hl.1 rfl (Nat.le_of_ble_eq_true rfl) dX11_tell_3 ⟨by decide, by decide⟩) hP hS (fun _ h => h) (fun H locs hP hS => ?_)
  refine lv_if_eq (tgt := 54) hx hb dX11_tell_6 (by decide) (fun c2 => ?_) (fun c1 => False.elim (by revert c1; decide))
  refine lv_bipush (v := (-2)) hx hb dX11_tell_54 (by decide) ?_
  exact retPi hx hb hr hlk hS dX11_tell_56 (rfl)

set_option maxRecDepth 100000 in
set_option maxHeartbeats 4000000 in
theorem pX11_shut (l : Launch) (G : va_G) (cs : Nat → ClassId) (h : Nat) (q : Nat → Nat) (a1 : Int32) (a2 : Int32) (a3 : Int32) : PureI l yX11_shut cX11_shut 5 (some .int) 2 G (TY cs) [.ref h, .int a1, .int a2, .int a3] [(mc0 cs h q), (mc1 cs h q)] (-2) := by
  refine mkP (Qc := QPi (-2)) (by decide) (by simp [lg_sl, Value.category]) ?_
  intro p e s m args below meth c ls hx hb hml hr hlk hown ht hK hP hS hl
  have hl : lv_has ls 5 [(0, .ref h), (1, .int a1), (2, .int a2), (3, .int a3)] := hl
  refine lv_aload_n hx hb dX11_shut_0 rfl (lv_at hl 0 rfl) ?_
  refine lv_iload_n hx hb dX11_shut_1 rfl (lv_at hl 1 rfl) ?_
  refine lv_i2l hx hb dX11_shut_2 rfl ?_
  refine behI (runVP (As := [.long a1.toInt64]) (rest := []) ⟨hx, hb, hml, hown, ht⟩ (pX11_isRoom l G cs h q a1.toInt64) okV_RX11_89 ⟨by decide, by decide⟩ hK hP [0, 1] rfl 0 rfl rfl hl.1 rfl (Nat.le_of_ble_eq_true rfl) dX11_shut_3 ⟨by decide, by decide⟩) hP hS (fun _ h => h) (fun H locs hP hS => ?_)
  refine lv_if_eq (tgt := 33) hx hb dX11_shut_6 (by decide) (fun c2 => ?_) (fun c1 => False.elim (by revert c1; decide))
  refine lv_bipush (v := (-2)) hx hb dX11_shut_33 (by decide) ?_
  exact retPi hx hb hr hlk hS dX11_shut_35 (rfl)

set_option maxRecDepth 100000 in
set_option maxHeartbeats 4000000 in
theorem pX11_gain (l : Launch) (G : va_G) (cs : Nat → ClassId) (h : Nat) (q : Nat → Nat) (a1 : Int32) : PureI l yX11_gain cX11_gain 3 (some .int) 3 G (TY cs) [.ref h, .int a1] [(mc0 cs h q), (mc1 cs h q)] (-2000000) := by
  refine mkP (Qc := QPi (-2000000)) (by decide) (by simp [lg_sl, Value.category]) ?_
  intro p e s m args below meth c ls hx hb hml hr hlk hown ht hK hP hS hl
  have hl : lv_has ls 3 [(0, .ref h), (1, .int a1)] := hl
  refine lv_aload_n hx hb dX11_gain_0 rfl (lv_at hl 0 rfl) ?_
  refine lv_iload_n hx hb dX11_gain_1 rfl (lv_at hl 1 rfl) ?_
  refine lv_iconst (v := 1) hx hb dX11_gain_2 (by decide) ?_
  refine behI (runVP (As := [.int a1, .int 1]) (rest := []) ⟨hx, hb, hml, hown, ht⟩ (pX11_asksRound l G cs h q a1 1) okV_RX11_303 ⟨by decide, by decide⟩ hK hP [0, 1] rfl 0 rfl rfl hl.1 rfl (Nat.le_of_ble_eq_true rfl) dX11_gain_3 ⟨by decide, by decide⟩) hP hS (fun _ h => h) (fun H locs hP hS => ?_)
  refine lv_istore_n (lv' := [(2, .int (-2)), (0, .ref h), (1, .int a1)]) hx hb dX11_gain_6 rfl hl (by decide) rfl (fun ls hl => ?_)
  refine lv_iload_n hx hb dX11_gain_7 rfl (lv_at hl 0 rfl) ?_
  refine lv_bipush (v := (-2)) hx hb dX11_gain_8 (by decide) ?_
  refine lv_icmp_ne (tgt := 19) hx hb dX11_gain_10 (by decide) (fun c1 => False.elim (by revert c1; decide)) (fun c2 => ?_)
  refine lv_ldcw hx hb hown (ht _ ki_RX11_307) dX11_gain_13 ?_
  refine lv_goto (tgt := 43) hx hb dX11_gain_16 (by decide) ?_
  exact retPi hx hb hr hlk hS dX11_gain_43 (rfl)

set_option maxRecDepth 100000 in
set_option maxHeartbeats 4000000 in
theorem pX11_count (l : Launch) (G : va_G) (cs : Nat → ClassId) (h : Nat) (q : Nat → Nat) (a1 : Int32) : PureI l yX11_count cX11_count 4 (some .int) 0 G (TY cs) [.ref h, .int a1] [(mc0 cs h q), (mc1 cs h q), (mc31 cs h q)] (spk 8 a1 0 (-1)) := by
  rcases cs8 a1 with hn0 | hb0 | rfl | rfl | rfl | rfl | rfl | rfl | rfl | rfl
  · refine mkP (Qc := QPi (spk 8 a1 0 (-1))) (by decide) (by simp [lg_sl, Value.category]) ?_
    intro p e s m args below meth c ls hx hb hml hr hlk hown ht hK hP hS hl
    have hl : lv_has ls 4 [(0, .ref h), (1, .int a1)] := hl
    refine lv_iconst (v := 0) hx hb dX11_count_0 (by decide) ?_
    refine lv_istore_n (lv' := [(2, .int 0), (0, .ref h), (1, .int a1)]) hx hb dX11_count_1 rfl hl (by decide) rfl (fun ls hl => ?_)
    refine lv_iload_n hx hb dX11_count_2 rfl (lv_at hl 2 rfl) ?_
    refine lv_tableOut (tgt := 179) hx hb dX11_count_3 (by have z0 := ltT hn0; have k0 : (0 : Int32).toInt = 0 := (by decide); omega) (by decide) ?_
    refine lv_iconst (v := (-1)) hx hb dX11_count_179 (by decide) ?_
    exact retPi hx hb hr hlk hS dX11_count_180 ((spk_lo hn0).symm)
  · refine mkP (Qc := QPi (spk 8 a1 0 (-1))) (by decide) (by simp [lg_sl, Value.category]) ?_
    intro p e s m args below meth c ls hx hb hml hr hlk hown ht hK hP hS hl
    have hl : lv_has ls 4 [(0, .ref h), (1, .int a1)] := hl
    refine lv_iconst (v := 0) hx hb dX11_count_0 (by decide) ?_
    refine lv_istore_n (lv' := [(2, .int 0), (0, .ref h), (1, .int a1)]) hx hb dX11_count_1 rfl hl (by decide) rfl (fun ls hl => ?_)
    refine lv_iload_n hx hb dX11_count_2 rfl (lv_at hl 2 rfl) ?_
    refine lv_tableOut (tgt := 179) hx hb dX11_count_3 (by have z0 := leT hb0; have k0 : (8 : Int32).toInt = 8 := (by decide); omega) (by decide) ?_
    refine lv_iconst (v := (-1)) hx hb dX11_count_179 (by decide) ?_
    exact retPi hx hb hr hlk hS dX11_count_180 ((spk_hi (by decide) hb0).symm)
  · refine mkP (Qc := QPi (spk 8 0 0 (-1))) (by decide) (by simp [lg_sl, Value.category]) ?_
    intro p e s m args below meth c ls hx hb hml hr hlk hown ht hK hP hS hl
    have hl : lv_has ls 4 [(0, .ref h), (1, .int 0)] := hl
    refine lv_iconst (v := 0) hx hb dX11_count_0 (by decide) ?_
    refine lv_istore_n (lv' := [(2, .int 0), (0, .ref h), (1, .int 0)]) hx hb dX11_count_1 rfl hl (by decide) rfl (fun ls hl => ?_)
    refine lv_iload_n hx hb dX11_count_2 rfl (lv_at hl 2 rfl) ?_
    refine lv_tableIn (off := 45) (tgt := 48) hx hb dX11_count_3 (by decide) (by decide) (by decide) (by decide) ?_
    refine lv_aload_n hx hb dX11_count_48 rfl (lv_at hl 1 rfl) ?_
    refine getF hx hb ht hown hK hP iTX11 0 1 rfl rfl (by decide) fl_RX11_9 rfl dX11_count_49 ?_
    refine lv_iconst (v := 4) hx hb dX11_count_52 (by decide) ?_
    refine va_iald hx hb hK.1 hP 1 0 rfl rfl (show ¬ (_ ∨ _) by decide) dX11_count_53 ?_
    refine lv_topi (fun v1 ev1 => ?_)
    obtain rfl : v1 = 0 := ev1.trans rfl
    exact retPi hx hb hr hlk hS dX11_count_54 (by decide)
  · refine mkP (Qc := QPi (spk 8 1 0 (-1))) (by decide) (by simp [lg_sl, Value.category]) ?_
    intro p e s m args below meth c ls hx hb hml hr hlk hown ht hK hP hS hl
    have hl : lv_has ls 4 [(0, .ref h), (1, .int 1)] := hl
    refine lv_iconst (v := 0) hx hb dX11_count_0 (by decide) ?_
    refine lv_istore_n (lv' := [(2, .int 0), (0, .ref h), (1, .int 1)]) hx hb dX11_count_1 rfl hl (by decide) rfl (fun ls hl => ?_)
    refine lv_iload_n hx hb dX11_count_2 rfl (lv_at hl 2 rfl) ?_
    refine lv_tableIn (off := 52) (tgt := 55) hx hb dX11_count_3 (by decide) (by decide) (by decide) (by decide) ?_
    refine lv_iconst (v := 0) hx hb dX11_count_55 (by decide) ?_
    refine lv_istore_n (lv' := [(3, .int 0), (2, .int 0), (0, .ref h), (1, .int 1)]) hx hb dX11_count_56 rfl hl (by decide) rfl (fun ls hl => ?_)
    refine lv_iload_n hx hb dX11_count_57 rfl (lv_at hl 0 rfl) ?_
    refine lv_aload_n hx hb dX11_count_58 rfl (lv_at hl 2 rfl) ?_
    refine getF hx hb ht hown hK hP iTX11 0 1 rfl rfl (by decide) fl_RX11_9 rfl dX11_count_59 ?_
    refine lv_iconst (v := 4) hx hb dX11_count_62 (by decide) ?_
    refine va_iald hx hb hK.1 hP 1 0 rfl rfl (show ¬ (_ ∨ _) by decide) dX11_count_63 ?_
    refine lv_topi (fun v1 ev1 => ?_)
    obtain rfl : v1 = 0 := ev1.trans rfl
    refine lv_icmp_ge (tgt := 85) hx hb dX11_count_64 (by decide) (fun c3 => ?_) (fun c2 => False.elim (by revert c2; decide))
    refine lv_iload_n hx hb dX11_count_85 rfl (lv_at hl 1 rfl) ?_
    refine lv_iconst (v := 2) hx hb dX11_count_86 (by decide) ?_
    refine lv_idiv hx hb dX11_count_87 (by decide) ?_
    refine lv_topi (fun v4 ev4 => ?_)
    obtain rfl : v4 = 0 := ev4.trans (by decide)
    exact retPi hx hb hr hlk hS dX11_count_88 (by decide)
  · refine mkP (Qc := QPi (spk 8 2 0 (-1))) (by decide) (by simp [lg_sl, Value.category]) ?_
    intro p e s m args below meth c ls hx hb hml hr hlk hown ht hK hP hS hl
    have hl : lv_has ls 4 [(0, .ref h), (1, .int 2)] := hl
    refine lv_iconst (v := 0) hx hb dX11_count_0 (by decide) ?_
    refine lv_istore_n (lv' := [(2, .int 0), (0, .ref h), (1, .int 2)]) hx hb dX11_count_1 rfl hl (by decide) rfl (fun ls hl => ?_)
    refine lv_iload_n hx hb dX11_count_2 rfl (lv_at hl 2 rfl) ?_
    refine lv_tableIn (off := 86) (tgt := 89) hx hb dX11_count_3 (by decide) (by decide) (by decide) (by decide) ?_
    refine lv_aload_n hx hb dX11_count_89 rfl (lv_at hl 1 rfl) ?_
    refine getF hx hb ht hown hK hP iTX11 0 1 rfl rfl (by decide) fl_RX11_9 rfl dX11_count_90 ?_
    refine lv_iconst (v := 5) hx hb dX11_count_93 (by decide) ?_
    refine va_iald hx hb hK.1 hP 1 0 rfl rfl (show ¬ (_ ∨ _) by decide) dX11_count_94 ?_
    refine lv_topi (fun v1 ev1 => ?_)
    obtain rfl : v1 = 0 := ev1.trans rfl
    exact retPi hx hb hr hlk hS dX11_count_95 (by decide)
  · refine mkP (Qc := QPi (spk 8 3 0 (-1))) (by decide) (by simp [lg_sl, Value.category]) ?_
    intro p e s m args below meth c ls hx hb hml hr hlk hown ht hK hP hS hl
    have hl : lv_has ls 4 [(0, .ref h), (1, .int 3)] := hl
    refine lv_iconst (v := 0) hx hb dX11_count_0 (by decide) ?_
    refine lv_istore_n (lv' := [(2, .int 0), (0, .ref h), (1, .int 3)]) hx hb dX11_count_1 rfl hl (by decide) rfl (fun ls hl => ?_)
    refine lv_iload_n hx hb dX11_count_2 rfl (lv_at hl 2 rfl) ?_
    refine lv_tableIn (off := 93) (tgt := 96) hx hb dX11_count_3 (by decide) (by decide) (by decide) (by decide) ?_
    refine lv_iconst (v := 0) hx hb dX11_count_96 (by decide) ?_
    refine lv_istore_n (lv' := [(3, .int 0), (2, .int 0), (0, .ref h), (1, .int 3)]) hx hb dX11_count_97 rfl hl (by decide) rfl (fun ls hl => ?_)
    refine lv_iload_n hx hb dX11_count_98 rfl (lv_at hl 0 rfl) ?_
    refine lv_aload_n hx hb dX11_count_99 rfl (lv_at hl 2 rfl) ?_
    refine getF hx hb ht hown hK hP iTX11 0 1 rfl rfl (by decide) fl_RX11_9 rfl dX11_count_100 ?_
    refine lv_iconst (v := 4) hx hb dX11_count_103 (by decide) ?_
    refine va_iald hx hb hK.1 hP 1 0 rfl rfl (show ¬ (_ ∨ _) by decide) dX11_count_104 ?_
    refine lv_topi (fun v1 ev1 => ?_)
    obtain rfl : v1 = 0 := ev1.trans rfl
    refine lv_icmp_ge (tgt := 123) hx hb dX11_count_105 (by decide) (fun c3 => ?_) (fun c2 => False.elim (by revert c2; decide))
    refine lv_iload_n hx hb dX11_count_123 rfl (lv_at hl 1 rfl) ?_
    exact retPi hx hb hr hlk hS dX11_count_124 (by decide)
  · refine mkP (Qc := QPi (spk 8 4 0 (-1))) (by decide) (by simp [lg_sl, Value.category]) ?_
    intro p e s m args below meth c ls hx hb hml hr hlk hown ht hK hP hS hl
    have hl : lv_has ls 4 [(0, .ref h), (1, .int 4)] := hl
    refine lv_iconst (v := 0) hx hb dX11_count_0 (by decide) ?_
    refine lv_istore_n (lv' := [(2, .int 0), (0, .ref h), (1, .int 4)]) hx hb dX11_count_1 rfl hl (by decide) rfl (fun ls hl => ?_)
    refine lv_iload_n hx hb dX11_count_2 rfl (lv_at hl 2 rfl) ?_
    refine lv_tableIn (off := 122) (tgt := 125) hx hb dX11_count_3 (by decide) (by decide) (by decide) (by decide) ?_
    refine lv_aload_n hx hb dX11_count_125 rfl (lv_at hl 1 rfl) ?_
    refine getF hx hb ht hown hK hP iTX11 0 1 rfl rfl (by decide) fl_RX11_9 rfl dX11_count_126 ?_
    refine lv_bipush (v := 6) hx hb dX11_count_129 (by decide) ?_
    refine va_iald hx hb hK.1 hP 1 0 rfl rfl (show ¬ (_ ∨ _) by decide) dX11_count_131 ?_
    refine lv_topi (fun v1 ev1 => ?_)
    obtain rfl : v1 = 0 := ev1.trans rfl
    exact retPi hx hb hr hlk hS dX11_count_132 (by decide)
  · refine mkP (Qc := QPi (spk 8 5 0 (-1))) (by decide) (by simp [lg_sl, Value.category]) ?_
    intro p e s m args below meth c ls hx hb hml hr hlk hown ht hK hP hS hl
    have hl : lv_has ls 4 [(0, .ref h), (1, .int 5)] := hl
    refine lv_iconst (v := 0) hx hb dX11_count_0 (by decide) ?_
    refine lv_istore_n (lv' := [(2, .int 0), (0, .ref h), (1, .int 5)]) hx hb dX11_count_1 rfl hl (by decide) rfl (fun ls hl => ?_)
    refine lv_iload_n hx hb dX11_count_2 rfl (lv_at hl 2 rfl) ?_
    refine lv_tableIn (off := 130) (tgt := 133) hx hb dX11_count_3 (by decide) (by decide) (by decide) (by decide) ?_
    refine lv_aload_n hx hb dX11_count_133 rfl (lv_at hl 1 rfl) ?_
    refine getF hx hb ht hown hK hP iTX11 0 5 rfl rfl (by decide) fl_RX11_93 rfl dX11_count_134 ?_
    exact retPi hx hb hr hlk hS dX11_count_137 (by decide)
  · refine mkP (Qc := QPi (spk 8 6 0 (-1))) (by decide) (by simp [lg_sl, Value.category]) ?_
    intro p e s m args below meth c ls hx hb hml hr hlk hown ht hK hP hS hl
    have hl : lv_has ls 4 [(0, .ref h), (1, .int 6)] := hl
    refine lv_iconst (v := 0) hx hb dX11_count_0 (by decide) ?_
    refine lv_istore_n (lv' := [(2, .int 0), (0, .ref h), (1, .int 6)]) hx hb dX11_count_1 rfl hl (by decide) rfl (fun ls hl => ?_)
    refine lv_iload_n hx hb dX11_count_2 rfl (lv_at hl 2 rfl) ?_
    refine lv_tableIn (off := 135) (tgt := 138) hx hb dX11_count_3 (by decide) (by decide) (by decide) (by decide) ?_
    refine lv_aload_n hx hb dX11_count_138 rfl (lv_at hl 1 rfl) ?_
    refine getF hx hb ht hown hK hP iTX11 0 1 rfl rfl (by decide) fl_RX11_9 rfl dX11_count_139 ?_
    refine lv_bipush (v := 7) hx hb dX11_count_142 (by decide) ?_
    refine va_iald hx hb hK.1 hP 1 0 rfl rfl (show ¬ (_ ∨ _) by decide) dX11_count_144 ?_
    refine lv_topi (fun v1 ev1 => ?_)
    obtain rfl : v1 = 0 := ev1.trans rfl
    exact retPi hx hb hr hlk hS dX11_count_145 (by decide)
  · refine mkP (Qc := QPi (spk 8 7 0 (-1))) (by decide) (by simp [lg_sl, Value.category]) ?_
    intro p e s m args below meth c ls hx hb hml hr hlk hown ht hK hP hS hl
    have hl : lv_has ls 4 [(0, .ref h), (1, .int 7)] := hl
    refine lv_iconst (v := 0) hx hb dX11_count_0 (by decide) ?_
    refine lv_istore_n (lv' := [(2, .int 0), (0, .ref h), (1, .int 7)]) hx hb dX11_count_1 rfl hl (by decide) rfl (fun ls hl => ?_)
    refine lv_iload_n hx hb dX11_count_2 rfl (lv_at hl 2 rfl) ?_
    refine lv_tableIn (off := 143) (tgt := 146) hx hb dX11_count_3 (by decide) (by decide) (by decide) (by decide) ?_
    refine lv_iconst (v := 0) hx hb dX11_count_146 (by decide) ?_
    refine lv_istore_n (lv' := [(3, .int 0), (2, .int 0), (0, .ref h), (1, .int 7)]) hx hb dX11_count_147 rfl hl (by decide) rfl (fun ls hl => ?_)
    refine lv_iload_n hx hb dX11_count_148 rfl (lv_at hl 0 rfl) ?_
    refine lv_iconst (v := 4) hx hb dX11_count_149 (by decide) ?_
    refine lv_icmp_ge (tgt := 177) hx hb dX11_count_150 (by decide) (fun c1 => False.elim (by revert c1; decide)) (fun c2 => ?_)
    refine lv_iload_n hx hb dX11_count_153 rfl (lv_at hl 1 rfl) ?_
    refine lv_aload_n hx hb dX11_count_154 rfl (lv_at hl 2 rfl) ?_
    refine getF hx hb ht hown hK hP iTX11 0 31 rfl rfl (by decide) fl_RX11_61 rfl dX11_count_155 ?_
    refine lv_iload_n hx hb dX11_count_158 rfl (lv_at hl 0 rfl) ?_
    refine va_iald hx hb hK.1 hP 2 0 rfl rfl (show ¬ (_ ∨ _) by decide) dX11_count_159 ?_
    refine lv_topi (fun v3 ev3 => ?_)
    obtain rfl : v3 = (-1) := ev3.trans rfl
    refine lv_iconst (v := (-1)) hx hb dX11_count_160 (by decide) ?_
    refine lv_icmp_ne (tgt := 168) hx hb dX11_count_161 (by decide) (fun c4 => False.elim (by revert c4; decide)) (fun c5 => ?_)
    refine lv_iconst (v := 0) hx hb dX11_count_164 (by decide) ?_
    refine lv_goto (tgt := 169) hx hb dX11_count_165 (by decide) ?_
    refine lv_iadd hx hb dX11_count_169 ?_
    refine lv_topi (fun v6 ev6 => ?_)
    obtain rfl : v6 = 0 := ev6.trans (by decide)
    refine lv_istore_n (lv' := [(2, .int 0), (3, .int 0), (0, .ref h), (1, .int 7)]) hx hb dX11_count_170 rfl hl (by decide) rfl (fun ls hl => ?_)
    refine lv_iinc (v := 1) (lv' := [(3, .int 1), (2, .int 0), (0, .ref h), (1, .int 7)]) hx hb dX11_count_171 hl (k := 1) rfl (by decide) (by decide) rfl (fun ls hl => ?_)
    refine lv_goto (tgt := 148) hx hb dX11_count_174 (by decide) ?_
    refine lv_iload_n hx hb dX11_count_148 rfl (lv_at hl 0 rfl) ?_
    refine lv_iconst (v := 4) hx hb dX11_count_149 (by decide) ?_
    refine lv_icmp_ge (tgt := 177) hx hb dX11_count_150 (by decide) (fun c7 => False.elim (by revert c7; decide)) (fun c8 => ?_)
    refine lv_iload_n hx hb dX11_count_153 rfl (lv_at hl 1 rfl) ?_
    refine lv_aload_n hx hb dX11_count_154 rfl (lv_at hl 2 rfl) ?_
    refine getF hx hb ht hown hK hP iTX11 0 31 rfl rfl (by decide) fl_RX11_61 rfl dX11_count_155 ?_
    refine lv_iload_n hx hb dX11_count_158 rfl (lv_at hl 0 rfl) ?_
    refine va_iald hx hb hK.1 hP 2 0 rfl rfl (show ¬ (_ ∨ _) by decide) dX11_count_159 ?_
    refine lv_topi (fun v9 ev9 => ?_)
    obtain rfl : v9 = (-1) := ev9.trans rfl
    refine lv_iconst (v := (-1)) hx hb dX11_count_160 (by decide) ?_
    refine lv_icmp_ne (tgt := 168) hx hb dX11_count_161 (by decide) (fun c10 => False.elim (by revert c10; decide)) (fun c11 => ?_)
    refine lv_iconst (v := 0) hx hb dX11_count_164 (by decide) ?_
    refine lv_goto (tgt := 169) hx hb dX11_count_165 (by decide) ?_
    refine lv_iadd hx hb dX11_count_169 ?_
    refine lv_topi (fun v12 ev12 => ?_)
    obtain rfl : v12 = 0 := ev12.trans (by decide)
    refine lv_istore_n (lv' := [(2, .int 0), (3, .int 1), (0, .ref h), (1, .int 7)]) hx hb dX11_count_170 rfl hl (by decide) rfl (fun ls hl => ?_)
    refine lv_iinc (v := 2) (lv' := [(3, .int 2), (2, .int 0), (0, .ref h), (1, .int 7)]) hx hb dX11_count_171 hl (k := 1) rfl (by decide) (by decide) rfl (fun ls hl => ?_)
    refine lv_goto (tgt := 148) hx hb dX11_count_174 (by decide) ?_
    refine lv_iload_n hx hb dX11_count_148 rfl (lv_at hl 0 rfl) ?_
    refine lv_iconst (v := 4) hx hb dX11_count_149 (by decide) ?_
    refine lv_icmp_ge (tgt := 177) hx hb dX11_count_150 (by decide) (fun c13 => False.elim (by revert c13; decide)) (fun c14 => ?_)
    refine lv_iload_n hx hb dX11_count_153 rfl (lv_at hl 1 rfl) ?_
    refine lv_aload_n hx hb dX11_count_154 rfl (lv_at hl 2 rfl) ?_
    refine getF hx hb ht hown hK hP iTX11 0 31 rfl rfl (by decide) fl_RX11_61 rfl dX11_count_155 ?_
    refine lv_iload_n hx hb dX11_count_158 rfl (lv_at hl 0 rfl) ?_
    refine va_iald hx hb hK.1 hP 2 0 rfl rfl (show ¬ (_ ∨ _) by decide) dX11_count_159 ?_
    refine lv_topi (fun v15 ev15 => ?_)
    obtain rfl : v15 = (-1) := ev15.trans rfl
    refine lv_iconst (v := (-1)) hx hb dX11_count_160 (by decide) ?_
    refine lv_icmp_ne (tgt := 168) hx hb dX11_count_161 (by decide) (fun c16 => False.elim (by revert c16; decide)) (fun c17 => ?_)
    refine lv_iconst (v := 0) hx hb dX11_count_164 (by decide) ?_
    refine lv_goto (tgt := 169) hx hb dX11_count_165 (by decide) ?_
    refine lv_iadd hx hb dX11_count_169 ?_
    refine lv_topi (fun v18 ev18 => ?_)
    obtain rfl : v18 = 0 := ev18.trans (by decide)
    refine lv_istore_n (lv' := [(2, .int 0), (3, .int 2), (0, .ref h), (1, .int 7)]) hx hb dX11_count_170 rfl hl (by decide) rfl (fun ls hl => ?_)
    refine lv_iinc (v := 3) (lv' := [(3, .int 3), (2, .int 0), (0, .ref h), (1, .int 7)]) hx hb dX11_count_171 hl (k := 1) rfl (by decide) (by decide) rfl (fun ls hl => ?_)
    refine lv_goto (tgt := 148) hx hb dX11_count_174 (by decide) ?_
    refine lv_iload_n hx hb dX11_count_148 rfl (lv_at hl 0 rfl) ?_
    refine lv_iconst (v := 4) hx hb dX11_count_149 (by decide) ?_
    refine lv_icmp_ge (tgt := 177) hx hb dX11_count_150 (by decide) (fun c19 => False.elim (by revert c19; decide)) (fun c20 => ?_)
    refine lv_iload_n hx hb dX11_count_153 rfl (lv_at hl 1 rfl) ?_
    refine lv_aload_n hx hb dX11_count_154 rfl (lv_at hl 2 rfl) ?_
    refine getF hx hb ht hown hK hP iTX11 0 31 rfl rfl (by decide) fl_RX11_61 rfl dX11_count_155 ?_
    refine lv_iload_n hx hb dX11_count_158 rfl (lv_at hl 0 rfl) ?_
    refine va_iald hx hb hK.1 hP 2 0 rfl rfl (show ¬ (_ ∨ _) by decide) dX11_count_159 ?_
    refine lv_topi (fun v21 ev21 => ?_)
    obtain rfl : v21 = (-1) := ev21.trans rfl
    refine lv_iconst (v := (-1)) hx hb dX11_count_160 (by decide) ?_
    refine lv_icmp_ne (tgt := 168) hx hb dX11_count_161 (by decide) (fun c22 => False.elim (by revert c22; decide)) (fun c23 => ?_)
    refine lv_iconst (v := 0) hx hb dX11_count_164 (by decide) ?_
    refine lv_goto (tgt := 169) hx hb dX11_count_165 (by decide) ?_
    refine lv_iadd hx hb dX11_count_169 ?_
    refine lv_topi (fun v24 ev24 => ?_)
    obtain rfl : v24 = 0 := ev24.trans (by decide)
    refine lv_istore_n (lv' := [(2, .int 0), (3, .int 3), (0, .ref h), (1, .int 7)]) hx hb dX11_count_170 rfl hl (by decide) rfl (fun ls hl => ?_)
    refine lv_iinc (v := 4) (lv' := [(3, .int 4), (2, .int 0), (0, .ref h), (1, .int 7)]) hx hb dX11_count_171 hl (k := 1) rfl (by decide) (by decide) rfl (fun ls hl => ?_)
    refine lv_goto (tgt := 148) hx hb dX11_count_174 (by decide) ?_
    refine lv_iload_n hx hb dX11_count_148 rfl (lv_at hl 0 rfl) ?_
    refine lv_iconst (v := 4) hx hb dX11_count_149 (by decide) ?_
    refine lv_icmp_ge (tgt := 177) hx hb dX11_count_150 (by decide) (fun c26 => ?_) (fun c25 => False.elim (by revert c25; decide))
    refine lv_iload_n hx hb dX11_count_177 rfl (lv_at hl 1 rfl) ?_
    exact retPi hx hb hr hlk hS dX11_count_178 (by decide)

set_option maxRecDepth 100000 in
set_option maxHeartbeats 4000000 in
theorem pX11_back (l : Launch) (G : va_G) (cs : Nat → ClassId) (h : Nat) (q : Nat → Nat) (a1 : Int32) : PureI l yX11_back cX11_back 3 (some .int) 1 G (TY cs) [.ref h, .int a1] [(mc0 cs h q), (mc3 cs h q)] (spk 3 a1 (-6) (-2)) := by
  rcases cs3 a1 with hn0 | hb0 | rfl | rfl | rfl
  · refine mkP (Qc := QPi (spk 3 a1 (-6) (-2))) (by decide) (by simp [lg_sl, Value.category]) ?_
    intro p e s m args below meth c ls hx hb hml hr hlk hown ht hK hP hS hl
    have hl : lv_has ls 3 [(0, .ref h), (1, .int a1)] := hl
    refine lv_iload_n hx hb dX11_back_0 rfl (lv_at hl 1 rfl) ?_
    refine lv_i2l hx hb dX11_back_1 rfl ?_
    refine lv_lconst (v := 0) hx hb dX11_back_2 (by decide) ?_
    refine lv_ldc2 hx hb hown (ht _ kl_RX11_77) dX11_back_3 ?_
    refine behI (runSP (As := [.long a1.toInt64, .long 0, .long 2]) (rest := []) ⟨hx, hb, hml, hown, ht⟩ (pX11_in l G cs h q a1.toInt64 0 2) okS_RX11_79 ⟨by decide, by decide⟩ hK hP [] rfl hl.1 rfl (Nat.le_of_ble_eq_true rfl) dX11_back_6 ⟨by decide, by decide⟩) hP hS (fun _ h => h) (fun H locs hP hS => ?_)
    refine lv_topi (fun v1 ev1 => ?_)
    obtain rfl : v1 = 0 := ev1.trans (inF_n (by have z0 := ltT hn0; have k0 : (0 : Int32).toInt = 0 := (by decide); have K0 : (0 : Int64).toInt = 0 := (by decide); have K1 : (2 : Int64).toInt = 2 := (by decide); omega))
    refine lv_if_ne (tgt := 15) hx hb dX11_back_9 (by decide) (fun c2 => False.elim (by revert c2; decide)) (fun c3 => ?_)
    refine lv_bipush (v := (-2)) hx hb dX11_back_12 (by decide) ?_
    exact retPi hx hb hr hlk hS dX11_back_14 ((spk_lo hn0).symm)
  · refine mkP (Qc := QPi (spk 3 a1 (-6) (-2))) (by decide) (by simp [lg_sl, Value.category]) ?_
    intro p e s m args below meth c ls hx hb hml hr hlk hown ht hK hP hS hl
    have hl : lv_has ls 3 [(0, .ref h), (1, .int a1)] := hl
    refine lv_iload_n hx hb dX11_back_0 rfl (lv_at hl 1 rfl) ?_
    refine lv_i2l hx hb dX11_back_1 rfl ?_
    refine lv_lconst (v := 0) hx hb dX11_back_2 (by decide) ?_
    refine lv_ldc2 hx hb hown (ht _ kl_RX11_77) dX11_back_3 ?_
    refine behI (runSP (As := [.long a1.toInt64, .long 0, .long 2]) (rest := []) ⟨hx, hb, hml, hown, ht⟩ (pX11_in l G cs h q a1.toInt64 0 2) okS_RX11_79 ⟨by decide, by decide⟩ hK hP [] rfl hl.1 rfl (Nat.le_of_ble_eq_true rfl) dX11_back_6 ⟨by decide, by decide⟩) hP hS (fun _ h => h) (fun H locs hP hS => ?_)
    refine lv_topi (fun v1 ev1 => ?_)
    obtain rfl : v1 = 0 := ev1.trans (inF_n (by have z0 := leT hb0; have k0 : (3 : Int32).toInt = 3 := (by decide); have K0 : (0 : Int64).toInt = 0 := (by decide); have K1 : (2 : Int64).toInt = 2 := (by decide); omega))
    refine lv_if_ne (tgt := 15) hx hb dX11_back_9 (by decide) (fun c2 => False.elim (by revert c2; decide)) (fun c3 => ?_)
    refine lv_bipush (v := (-2)) hx hb dX11_back_12 (by decide) ?_
    exact retPi hx hb hr hlk hS dX11_back_14 ((spk_hi (by decide) hb0).symm)
  · refine mkP (Qc := QPi (spk 3 0 (-6) (-2))) (by decide) (by simp [lg_sl, Value.category]) ?_
    intro p e s m args below meth c ls hx hb hml hr hlk hown ht hK hP hS hl
    have hl : lv_has ls 3 [(0, .ref h), (1, .int 0)] := hl
    refine lv_iload_n hx hb dX11_back_0 rfl (lv_at hl 1 rfl) ?_
    refine lv_i2l (v := 0) hx hb dX11_back_1 (by decide) ?_
    refine lv_lconst (v := 0) hx hb dX11_back_2 (by decide) ?_
    refine lv_ldc2 hx hb hown (ht _ kl_RX11_77) dX11_back_3 ?_
    refine behI (runSP (As := [.long 0, .long 0, .long 2]) (rest := []) ⟨hx, hb, hml, hown, ht⟩ (pX11_in l G cs h q 0 0 2) okS_RX11_79 ⟨by decide, by decide⟩ hK hP [] rfl hl.1 rfl (Nat.le_of_ble_eq_true rfl) dX11_back_6 ⟨by decide, by decide⟩) hP hS (fun _ h => h) (fun H locs hP hS => ?_)
    refine lv_topi (fun v1 ev1 => ?_)
    obtain rfl : v1 = 1 := ev1.trans (by decide)
    refine lv_if_ne (tgt := 15) hx hb dX11_back_9 (by decide) (fun c3 => ?_) (fun c2 => False.elim (by revert c2; decide))
    refine lv_aload_n hx hb dX11_back_15 rfl (lv_at hl 0 rfl) ?_
    refine getF hx hb ht hown hK hP iTX11 0 3 rfl rfl (by decide) fl_RX11_16 rfl dX11_back_16 ?_
    refine lv_iload_n hx hb dX11_back_19 rfl (lv_at hl 1 rfl) ?_
    refine va_zald hx hb hK.1 hP 1 3 rfl rfl (show ¬ (_ ∨ _) by decide) dX11_back_20 ?_
    refine lv_topi (fun v4 ev4 => ?_)
    obtain rfl : v4 = 0 := ev4.trans rfl
    refine lv_if_ne (tgt := 27) hx hb dX11_back_21 (by decide) (fun c5 => False.elim (by revert c5; decide)) (fun c6 => ?_)
    refine lv_bipush (v := (-6)) hx hb dX11_back_24 (by decide) ?_
    exact retPi hx hb hr hlk hS dX11_back_26 (by decide)
  · refine mkP (Qc := QPi (spk 3 1 (-6) (-2))) (by decide) (by simp [lg_sl, Value.category]) ?_
    intro p e s m args below meth c ls hx hb hml hr hlk hown ht hK hP hS hl
    have hl : lv_has ls 3 [(0, .ref h), (1, .int 1)] := hl
    refine lv_iload_n hx hb dX11_back_0 rfl (lv_at hl 1 rfl) ?_
    refine lv_i2l (v := 1) hx hb dX11_back_1 (by decide) ?_
    refine lv_lconst (v := 0) hx hb dX11_back_2 (by decide) ?_
    refine lv_ldc2 hx hb hown (ht _ kl_RX11_77) dX11_back_3 ?_
    refine behI (runSP (As := [.long 1, .long 0, .long 2]) (rest := []) ⟨hx, hb, hml, hown, ht⟩ (pX11_in l G cs h q 1 0 2) okS_RX11_79 ⟨by decide, by decide⟩ hK hP [] rfl hl.1 rfl (Nat.le_of_ble_eq_true rfl) dX11_back_6 ⟨by decide, by decide⟩) hP hS (fun _ h => h) (fun H locs hP hS => ?_)
    refine lv_topi (fun v1 ev1 => ?_)
    obtain rfl : v1 = 1 := ev1.trans (by decide)
    refine lv_if_ne (tgt := 15) hx hb dX11_back_9 (by decide) (fun c3 => ?_) (fun c2 => False.elim (by revert c2; decide))
    refine lv_aload_n hx hb dX11_back_15 rfl (lv_at hl 0 rfl) ?_
    refine getF hx hb ht hown hK hP iTX11 0 3 rfl rfl (by decide) fl_RX11_16 rfl dX11_back_16 ?_
    refine lv_iload_n hx hb dX11_back_19 rfl (lv_at hl 1 rfl) ?_
    refine va_zald hx hb hK.1 hP 1 3 rfl rfl (show ¬ (_ ∨ _) by decide) dX11_back_20 ?_
    refine lv_topi (fun v4 ev4 => ?_)
    obtain rfl : v4 = 0 := ev4.trans rfl
    refine lv_if_ne (tgt := 27) hx hb dX11_back_21 (by decide) (fun c5 => False.elim (by revert c5; decide)) (fun c6 => ?_)
    refine lv_bipush (v := (-6)) hx hb dX11_back_24 (by decide) ?_
    exact retPi hx hb hr hlk hS dX11_back_26 (by decide)
  · refine mkP (Qc := QPi (spk 3 2 (-6) (-2))) (by decide) (by simp [lg_sl, Value.category]) ?_
    intro p e s m args below meth c ls hx hb hml hr hlk hown ht hK hP hS hl
    have hl : lv_has ls 3 [(0, .ref h), (1, .int 2)] := hl
    refine lv_iload_n hx hb dX11_back_0 rfl (lv_at hl 1 rfl) ?_
    refine lv_i2l (v := 2) hx hb dX11_back_1 (by decide) ?_
    refine lv_lconst (v := 0) hx hb dX11_back_2 (by decide) ?_
    refine lv_ldc2 hx hb hown (ht _ kl_RX11_77) dX11_back_3 ?_
    refine behI (runSP (As := [.long 2, .long 0, .long 2]) (rest := []) ⟨hx, hb, hml, hown, ht⟩ (pX11_in l G cs h q 2 0 2) okS_RX11_79 ⟨by decide, by decide⟩ hK hP [] rfl hl.1 rfl (Nat.le_of_ble_eq_true rfl) dX11_back_6 ⟨by decide, by decide⟩) hP hS (fun _ h => h) (fun H locs hP hS => ?_)
    refine lv_topi (fun v1 ev1 => ?_)
    obtain rfl : v1 = 1 := ev1.trans (by decide)
    refine lv_if_ne (tgt := 15) hx hb dX11_back_9 (by decide) (fun c3 => ?_) (fun c2 => False.elim (by revert c2; decide))
    refine lv_aload_n hx hb dX11_back_15 rfl (lv_at hl 0 rfl) ?_
    refine getF hx hb ht hown hK hP iTX11 0 3 rfl rfl (by decide) fl_RX11_16 rfl dX11_back_16 ?_
    refine lv_iload_n hx hb dX11_back_19 rfl (lv_at hl 1 rfl) ?_
    refine va_zald hx hb hK.1 hP 1 3 rfl rfl (show ¬ (_ ∨ _) by decide) dX11_back_20 ?_
    refine lv_topi (fun v4 ev4 => ?_)
    obtain rfl : v4 = 0 := ev4.trans rfl
    refine lv_if_ne (tgt := 27) hx hb dX11_back_21 (by decide) (fun c5 => False.elim (by revert c5; decide)) (fun c6 => ?_)
    refine lv_bipush (v := (-6)) hx hb dX11_back_24 (by decide) ?_
    exact retPi hx hb hr hlk hS dX11_back_26 (by decide)

set_option maxRecDepth 100000 in
set_option maxHeartbeats 4000000 in
theorem pX11_write (l : Launch) (G : va_G) (cs : Nat → ClassId) (h : Nat) (q : Nat → Nat) (a1 : Int32) (a2 : Int32) (a3 : Int64) : PureI l yX11_write cX11_write 5 (some .int) 2 G (TY cs) [.ref h, .int a1, .int a2, .long a3] [(mc0 cs h q), (mc31 cs h q)] (spk 4 a1 (-6) (-2)) := by
  rcases cs4 a1 with hn0 | hb0 | rfl | rfl | rfl | rfl
  · refine mkP (Qc := QPi (spk 4 a1 (-6) (-2))) (by decide) (by simp [lg_sl, Value.category]) ?_
    intro p e s m args below meth c ls hx hb hml hr hlk hown ht hK hP hS hl
    have hl : lv_has ls 5 [(0, .ref h), (1, .int a1), (2, .int a2), (3, .long a3)] := hl
    refine lv_iload_n hx hb dX11_write_0 rfl (lv_at hl 1 rfl) ?_
    refine behI (runSP (As := [.int a1]) (rest := []) ⟨hx, hb, hml, hown, ht⟩ (pX11_isSlot l G cs h q a1) okS_RX11_290 ⟨by decide, by decide⟩ hK hP [] rfl hl.1 rfl (Nat.le_of_ble_eq_true rfl) dX11_write_1 ⟨by decide, by decide⟩) hP hS (fun _ h => h) (fun H locs hP hS => ?_)
    refine lv_topi (fun v1 ev1 => ?_)
    obtain rfl : v1 = 0 := ev1.trans (inF_n (by have z0 := ltT hn0; have k0 : (0 : Int32).toInt = 0 := (by decide); have K0 : (0 : Int64).toInt = 0 := (by decide); have K1 : (3 : Int64).toInt = 3 := (by decide); omega))
    refine lv_if_ne (tgt := 10) hx hb dX11_write_4 (by decide) (fun c2 => False.elim (by revert c2; decide)) (fun c3 => ?_)
    refine lv_bipush (v := (-2)) hx hb dX11_write_7 (by decide) ?_
    exact retPi hx hb hr hlk hS dX11_write_9 ((spk_lo hn0).symm)
  · refine mkP (Qc := QPi (spk 4 a1 (-6) (-2))) (by decide) (by simp [lg_sl, Value.category]) ?_
    intro p e s m args below meth c ls hx hb hml hr hlk hown ht hK hP hS hl
    have hl : lv_has ls 5 [(0, .ref h), (1, .int a1), (2, .int a2), (3, .long a3)] := hl
    refine lv_iload_n hx hb dX11_write_0 rfl (lv_at hl 1 rfl) ?_
    refine behI (runSP (As := [.int a1]) (rest := []) ⟨hx, hb, hml, hown, ht⟩ (pX11_isSlot l G cs h q a1) okS_RX11_290 ⟨by decide, by decide⟩ hK hP [] rfl hl.1 rfl (Nat.le_of_ble_eq_true rfl) dX11_write_1 ⟨by decide, by decide⟩) hP hS (fun _ h => h) (fun H locs hP hS => ?_)
    refine lv_topi (fun v1 ev1 => ?_)
    obtain rfl : v1 = 0 := ev1.trans (inF_n (by have z0 := leT hb0; have k0 : (4 : Int32).toInt = 4 := (by decide); have K0 : (0 : Int64).toInt = 0 := (by decide); have K1 : (3 : Int64).toInt = 3 := (by decide); omega))
    refine lv_if_ne (tgt := 10) hx hb dX11_write_4 (by decide) (fun c2 => False.elim (by revert c2; decide)) (fun c3 => ?_)
    refine lv_bipush (v := (-2)) hx hb dX11_write_7 (by decide) ?_
    exact retPi hx hb hr hlk hS dX11_write_9 ((spk_hi (by decide) hb0).symm)
  · refine mkP (Qc := QPi (spk 4 0 (-6) (-2))) (by decide) (by simp [lg_sl, Value.category]) ?_
    intro p e s m args below meth c ls hx hb hml hr hlk hown ht hK hP hS hl
    have hl : lv_has ls 5 [(0, .ref h), (1, .int 0), (2, .int a2), (3, .long a3)] := hl
    refine lv_iload_n hx hb dX11_write_0 rfl (lv_at hl 1 rfl) ?_
    refine behI (runSP (As := [.int 0]) (rest := []) ⟨hx, hb, hml, hown, ht⟩ (pX11_isSlot l G cs h q 0) okS_RX11_290 ⟨by decide, by decide⟩ hK hP [] rfl hl.1 rfl (Nat.le_of_ble_eq_true rfl) dX11_write_1 ⟨by decide, by decide⟩) hP hS (fun _ h => h) (fun H locs hP hS => ?_)
    refine lv_topi (fun v1 ev1 => ?_)
    obtain rfl : v1 = 1 := ev1.trans (by decide)
    refine lv_if_ne (tgt := 10) hx hb dX11_write_4 (by decide) (fun c3 => ?_) (fun c2 => False.elim (by revert c2; decide))
    refine lv_aload_n hx hb dX11_write_10 rfl (lv_at hl 0 rfl) ?_
    refine getF hx hb ht hown hK hP iTX11 0 31 rfl rfl (by decide) fl_RX11_61 rfl dX11_write_11 ?_
    refine lv_iload_n hx hb dX11_write_14 rfl (lv_at hl 1 rfl) ?_
    refine va_iald hx hb hK.1 hP 1 0 rfl rfl (show ¬ (_ ∨ _) by decide) dX11_write_15 ?_
    refine lv_topi (fun v4 ev4 => ?_)
    obtain rfl : v4 = (-1) := ev4.trans rfl
    refine lv_iconst (v := (-1)) hx hb dX11_write_16 (by decide) ?_
    refine lv_icmp_ne (tgt := 23) hx hb dX11_write_17 (by decide) (fun c5 => False.elim (by revert c5; decide)) (fun c6 => ?_)
    refine lv_bipush (v := (-6)) hx hb dX11_write_20 (by decide) ?_
    exact retPi hx hb hr hlk hS dX11_write_22 (by decide)
  · refine mkP (Qc := QPi (spk 4 1 (-6) (-2))) (by decide) (by simp [lg_sl, Value.category]) ?_
    intro p e s m args below meth c ls hx hb hml hr hlk hown ht hK hP hS hl
    have hl : lv_has ls 5 [(0, .ref h), (1, .int 1), (2, .int a2), (3, .long a3)] := hl
    refine lv_iload_n hx hb dX11_write_0 rfl (lv_at hl 1 rfl) ?_
    refine behI (runSP (As := [.int 1]) (rest := []) ⟨hx, hb, hml, hown, ht⟩ (pX11_isSlot l G cs h q 1) okS_RX11_290 ⟨by decide, by decide⟩ hK hP [] rfl hl.1 rfl (Nat.le_of_ble_eq_true rfl) dX11_write_1 ⟨by decide, by decide⟩) hP hS (fun _ h => h) (fun H locs hP hS => ?_)
    refine lv_topi (fun v1 ev1 => ?_)
    obtain rfl : v1 = 1 := ev1.trans (by decide)
    refine lv_if_ne (tgt := 10) hx hb dX11_write_4 (by decide) (fun c3 => ?_) (fun c2 => False.elim (by revert c2; decide))
    refine lv_aload_n hx hb dX11_write_10 rfl (lv_at hl 0 rfl) ?_
    refine getF hx hb ht hown hK hP iTX11 0 31 rfl rfl (by decide) fl_RX11_61 rfl dX11_write_11 ?_
    refine lv_iload_n hx hb dX11_write_14 rfl (lv_at hl 1 rfl) ?_
    refine va_iald hx hb hK.1 hP 1 0 rfl rfl (show ¬ (_ ∨ _) by decide) dX11_write_15 ?_
    refine lv_topi (fun v4 ev4 => ?_)
    obtain rfl : v4 = (-1) := ev4.trans rfl
    refine lv_iconst (v := (-1)) hx hb dX11_write_16 (by decide) ?_
    refine lv_icmp_ne (tgt := 23) hx hb dX11_write_17 (by decide) (fun c5 => False.elim (by revert c5; decide)) (fun c6 => ?_)
    refine lv_bipush (v := (-6)) hx hb dX11_write_20 (by decide) ?_
    exact retPi hx hb hr hlk hS dX11_write_22 (by decide)
  · refine mkP (Qc := QPi (spk 4 2 (-6) (-2))) (by decide) (by simp [lg_sl, Value.category]) ?_
    intro p e s m args below meth c ls hx hb hml hr hlk hown ht hK hP hS hl
    have hl : lv_has ls 5 [(0, .ref h), (1, .int 2), (2, .int a2), (3, .long a3)] := hl
    refine lv_iload_n hx hb dX11_write_0 rfl (lv_at hl 1 rfl) ?_
    refine behI (runSP (As := [.int 2]) (rest := []) ⟨hx, hb, hml, hown, ht⟩ (pX11_isSlot l G cs h q 2) okS_RX11_290 ⟨by decide, by decide⟩ hK hP [] rfl hl.1 rfl (Nat.le_of_ble_eq_true rfl) dX11_write_1 ⟨by decide, by decide⟩) hP hS (fun _ h => h) (fun H locs hP hS => ?_)
    refine lv_topi (fun v1 ev1 => ?_)
    obtain rfl : v1 = 1 := ev1.trans (by decide)
    refine lv_if_ne (tgt := 10) hx hb dX11_write_4 (by decide) (fun c3 => ?_) (fun c2 => False.elim (by revert c2; decide))
    refine lv_aload_n hx hb dX11_write_10 rfl (lv_at hl 0 rfl) ?_
    refine getF hx hb ht hown hK hP iTX11 0 31 rfl rfl (by decide) fl_RX11_61 rfl dX11_write_11 ?_
    refine lv_iload_n hx hb dX11_write_14 rfl (lv_at hl 1 rfl) ?_
    refine va_iald hx hb hK.1 hP 1 0 rfl rfl (show ¬ (_ ∨ _) by decide) dX11_write_15 ?_
    refine lv_topi (fun v4 ev4 => ?_)
    obtain rfl : v4 = (-1) := ev4.trans rfl
    refine lv_iconst (v := (-1)) hx hb dX11_write_16 (by decide) ?_
    refine lv_icmp_ne (tgt := 23) hx hb dX11_write_17 (by decide) (fun c5 => False.elim (by revert c5; decide)) (fun c6 => ?_)
    refine lv_bipush (v := (-6)) hx hb dX11_write_20 (by decide) ?_
    exact retPi hx hb hr hlk hS dX11_write_22 (by decide)
  · refine mkP (Qc := QPi (spk 4 3 (-6) (-2))) (by decide) (by simp [lg_sl, Value.category]) ?_
    intro p e s m args below meth c ls hx hb hml hr hlk hown ht hK hP hS hl
    have hl : lv_has ls 5 [(0, .ref h), (1, .int 3), (2, .int a2), (3, .long a3)] := hl
    refine lv_iload_n hx hb dX11_write_0 rfl (lv_at hl 1 rfl) ?_
    refine behI (runSP (As := [.int 3]) (rest := []) ⟨hx, hb, hml, hown, ht⟩ (pX11_isSlot l G cs h q 3) okS_RX11_290 ⟨by decide, by decide⟩ hK hP [] rfl hl.1 rfl (Nat.le_of_ble_eq_true rfl) dX11_write_1 ⟨by decide, by decide⟩) hP hS (fun _ h => h) (fun H locs hP hS => ?_)
    refine lv_topi (fun v1 ev1 => ?_)
    obtain rfl : v1 = 1 := ev1.trans (by decide)
    refine lv_if_ne (tgt := 10) hx hb dX11_write_4 (by decide) (fun c3 => ?_) (fun c2 => False.elim (by revert c2; decide))
    refine lv_aload_n hx hb dX11_write_10 rfl (lv_at hl 0 rfl) ?_
    refine getF hx hb ht hown hK hP iTX11 0 31 rfl rfl (by decide) fl_RX11_61 rfl dX11_write_11 ?_
    refine lv_iload_n hx hb dX11_write_14 rfl (lv_at hl 1 rfl) ?_
    refine va_iald hx hb hK.1 hP 1 0 rfl rfl (show ¬ (_ ∨ _) by decide) dX11_write_15 ?_
    refine lv_topi (fun v4 ev4 => ?_)
    obtain rfl : v4 = (-1) := ev4.trans rfl
    refine lv_iconst (v := (-1)) hx hb dX11_write_16 (by decide) ?_
    refine lv_icmp_ne (tgt := 23) hx hb dX11_write_17 (by decide) (fun c5 => False.elim (by revert c5; decide)) (fun c6 => ?_)
    refine lv_bipush (v := (-6)) hx hb dX11_write_20 (by decide) ?_
    exact retPi hx hb hr hlk hS dX11_write_22 (by decide)

set_option maxRecDepth 100000 in
set_option maxHeartbeats 4000000 in
theorem pX11_paste (l : Launch) (G : va_G) (cs : Nat → ClassId) (h : Nat) (q : Nat → Nat) (a1 : Int32) (a2 : Int32) (a3 : Int32) (a4 : Int32) (a5 : Int32) : PureI l yX11_paste cX11_paste 7 (some .int) 2 G (TY cs) [.ref h, .int a1, .int a2, .int a3, .int a4, .int a5] [(mc0 cs h q), (mc31 cs h q)] (spk 4 a1 (spk 4 a3 (-6) (-2)) (-2)) := by
  rcases cs4 a1 with hn0 | hb0 | rfl | rfl | rfl | rfl
  · refine mkP (Qc := QPi (spk 4 a1 (spk 4 a3 (-6) (-2)) (-2))) (by decide) (by simp [lg_sl, Value.category]) ?_
    intro p e s m args below meth c ls hx hb hml hr hlk hown ht hK hP hS hl
    have hl : lv_has ls 7 [(0, .ref h), (1, .int a1), (2, .int a2), (3, .int a3), (4, .int a4), (5, .int a5)] := hl
    refine lv_iload_n hx hb dX11_paste_0 rfl (lv_at hl 1 rfl) ?_
    refine behI (runSP (As := [.int a1]) (rest := []) ⟨hx, hb, hml, hown, ht⟩ (pX11_isSlot l G cs h q a1) okS_RX11_290 ⟨by decide, by decide⟩ hK hP [] rfl hl.1 rfl (Nat.le_of_ble_eq_true rfl) dX11_paste_1 ⟨by decide, by decide⟩) hP hS (fun _ h => h) (fun H locs hP hS => ?_)
    refine lv_topi (fun v1 ev1 => ?_)
    obtain rfl : v1 = 0 := ev1.trans (inF_n (by have z0 := ltT hn0; have k0 : (0 : Int32).toInt = 0 := (by decide); have K0 : (0 : Int64).toInt = 0 := (by decide); have K1 : (3 : Int64).toInt = 3 := (by decide); omega))
    refine lv_if_eq (tgt := 14) hx hb dX11_paste_4 (by decide) (fun c3 => ?_) (fun c2 => False.elim (by revert c2; decide))
    refine lv_bipush (v := (-2)) hx hb dX11_paste_14 (by decide) ?_
    exact retPi hx hb hr hlk hS dX11_paste_16 ((spk_lo hn0).symm)
  · refine mkP (Qc := QPi (spk 4 a1 (spk 4 a3 (-6) (-2)) (-2))) (by decide) (by simp [lg_sl, Value.category]) ?_
    intro p e s m args below meth c ls hx hb hml hr hlk hown ht hK hP hS hl
    have hl : lv_has ls 7 [(0, .ref h), (1, .int a1), (2, .int a2), (3, .int a3), (4, .int a4), (5, .int a5)] := hl
    refine lv_iload_n hx hb dX11_paste_0 rfl (lv_at hl 1 rfl) ?_
    refine behI (runSP (As := [.int a1]) (rest := []) ⟨hx, hb, hml, hown, ht⟩ (pX11_isSlot l G cs h q a1) okS_RX11_290 ⟨by decide, by decide⟩ hK hP [] rfl hl.1 rfl (Nat.le_of_ble_eq_true rfl) dX11_paste_1 ⟨by decide, by decide⟩) hP hS (fun _ h => h) (fun H locs hP hS => ?_)
    refine lv_topi (fun v1 ev1 => ?_)
    obtain rfl : v1 = 0 := ev1.trans (inF_n (by have z0 := leT hb0; have k0 : (4 : Int32).toInt = 4 := (by decide); have K0 : (0 : Int64).toInt = 0 := (by decide); have K1 : (3 : Int64).toInt = 3 := (by decide); omega))
    refine lv_if_eq (tgt := 14) hx hb dX11_paste_4 (by decide) (fun c3 => ?_) (fun c2 => False.elim (by revert c2; decide))
    refine lv_bipush (v := (-2)) hx hb dX11_paste_14 (by decide) ?_
    exact retPi hx hb hr hlk hS dX11_paste_16 ((spk_hi (by decide) hb0).symm)
  · rcases cs4 a3 with hn2 | hb2 | rfl | rfl | rfl | rfl
    · refine mkP (Qc := QPi (spk 4 0 (spk 4 a3 (-6) (-2)) (-2))) (by decide) (by simp [lg_sl, Value.category]) ?_
      intro p e s m args below meth c ls hx hb hml hr hlk hown ht hK hP hS hl
      have hl : lv_has ls 7 [(0, .ref h), (1, .int 0), (2, .int a2), (3, .int a3), (4, .int a4), (5, .int a5)] := hl
      refine lv_iload_n hx hb dX11_paste_0 rfl (lv_at hl 1 rfl) ?_
      refine behI (runSP (As := [.int 0]) (rest := []) ⟨hx, hb, hml, hown, ht⟩ (pX11_isSlot l G cs h q 0) okS_RX11_290 ⟨by decide, by decide⟩ hK hP [] rfl hl.1 rfl (Nat.le_of_ble_eq_true rfl) dX11_paste_1 ⟨by decide, by decide⟩) hP hS (fun _ h => h) (fun H locs hP hS => ?_)
      refine lv_topi (fun v1 ev1 => ?_)
      obtain rfl : v1 = 1 := ev1.trans (by decide)
      refine lv_if_eq (tgt := 14) hx hb dX11_paste_4 (by decide) (fun c2 => False.elim (by revert c2; decide)) (fun c3 => ?_)
      refine lv_iload_n hx hb dX11_paste_7 rfl (lv_at hl 3 rfl) ?_
      refine behI (runSP (As := [.int a3]) (rest := []) ⟨hx, hb, hml, hown, ht⟩ (pX11_isSlot l G cs h q a3) okS_RX11_290 ⟨by decide, by decide⟩ hK hP [] rfl hl.1 rfl (Nat.le_of_ble_eq_true rfl) dX11_paste_8 ⟨by decide, by decide⟩) hP hS (fun _ h => h) (fun H locs hP hS => ?_)
      refine lv_topi (fun v4 ev4 => ?_)
      obtain rfl : v4 = 0 := ev4.trans (inF_n (by have z0 := ltT hn2; have k0 : (0 : Int32).toInt = 0 := (by decide); have K0 : (0 : Int64).toInt = 0 := (by decide); have K1 : (3 : Int64).toInt = 3 := (by decide); omega))
      refine lv_if_ne (tgt := 17) hx hb dX11_paste_11 (by decide) (fun c5 => False.elim (by revert c5; decide)) (fun c6 => ?_)
      refine lv_bipush (v := (-2)) hx hb dX11_paste_14 (by decide) ?_
      exact retPi hx hb hr hlk hS dX11_paste_16 ((show _ = spk 4 _ (spk 4 a3 (-6) (-2)) (-2) by rw [spk_lo hn2]; decide))
    · refine mkP (Qc := QPi (spk 4 0 (spk 4 a3 (-6) (-2)) (-2))) (by decide) (by simp [lg_sl, Value.category]) ?_
      intro p e s m args below meth c ls hx hb hml hr hlk hown ht hK hP hS hl
      have hl : lv_has ls 7 [(0, .ref h), (1, .int 0), (2, .int a2), (3, .int a3), (4, .int a4), (5, .int a5)] := hl
      refine lv_iload_n hx hb dX11_paste_0 rfl (lv_at hl 1 rfl) ?_
      refine behI (runSP (As := [.int 0]) (rest := []) ⟨hx, hb, hml, hown, ht⟩ (pX11_isSlot l G cs h q 0) okS_RX11_290 ⟨by decide, by decide⟩ hK hP [] rfl hl.1 rfl (Nat.le_of_ble_eq_true rfl) dX11_paste_1 ⟨by decide, by decide⟩) hP hS (fun _ h => h) (fun H locs hP hS => ?_)
      refine lv_topi (fun v1 ev1 => ?_)
      obtain rfl : v1 = 1 := ev1.trans (by decide)
      refine lv_if_eq (tgt := 14) hx hb dX11_paste_4 (by decide) (fun c2 => False.elim (by revert c2; decide)) (fun c3 => ?_)
      refine lv_iload_n hx hb dX11_paste_7 rfl (lv_at hl 3 rfl) ?_
      refine behI (runSP (As := [.int a3]) (rest := []) ⟨hx, hb, hml, hown, ht⟩ (pX11_isSlot l G cs h q a3) okS_RX11_290 ⟨by decide, by decide⟩ hK hP [] rfl hl.1 rfl (Nat.le_of_ble_eq_true rfl) dX11_paste_8 ⟨by decide, by decide⟩) hP hS (fun _ h => h) (fun H locs hP hS => ?_)
      refine lv_topi (fun v4 ev4 => ?_)
      obtain rfl : v4 = 0 := ev4.trans (inF_n (by have z0 := leT hb2; have k0 : (4 : Int32).toInt = 4 := (by decide); have K0 : (0 : Int64).toInt = 0 := (by decide); have K1 : (3 : Int64).toInt = 3 := (by decide); omega))
      refine lv_if_ne (tgt := 17) hx hb dX11_paste_11 (by decide) (fun c5 => False.elim (by revert c5; decide)) (fun c6 => ?_)
      refine lv_bipush (v := (-2)) hx hb dX11_paste_14 (by decide) ?_
      exact retPi hx hb hr hlk hS dX11_paste_16 ((show _ = spk 4 _ (spk 4 a3 (-6) (-2)) (-2) by rw [spk_hi (by decide) hb2]; decide))
    · refine mkP (Qc := QPi (spk 4 0 (spk 4 0 (-6) (-2)) (-2))) (by decide) (by simp [lg_sl, Value.category]) ?_
      intro p e s m args below meth c ls hx hb hml hr hlk hown ht hK hP hS hl
      have hl : lv_has ls 7 [(0, .ref h), (1, .int 0), (2, .int a2), (3, .int 0), (4, .int a4), (5, .int a5)] := hl
      refine lv_iload_n hx hb dX11_paste_0 rfl (lv_at hl 1 rfl) ?_
      refine behI (runSP (As := [.int 0]) (rest := []) ⟨hx, hb, hml, hown, ht⟩ (pX11_isSlot l G cs h q 0) okS_RX11_290 ⟨by decide, by decide⟩ hK hP [] rfl hl.1 rfl (Nat.le_of_ble_eq_true rfl) dX11_paste_1 ⟨by decide, by decide⟩) hP hS (fun _ h => h) (fun H locs hP hS => ?_)
      refine lv_topi (fun v1 ev1 => ?_)
      obtain rfl : v1 = 1 := ev1.trans (by decide)
      refine lv_if_eq (tgt := 14) hx hb dX11_paste_4 (by decide) (fun c2 => False.elim (by revert c2; decide)) (fun c3 => ?_)
      refine lv_iload_n hx hb dX11_paste_7 rfl (lv_at hl 3 rfl) ?_
      refine behI (runSP (As := [.int 0]) (rest := []) ⟨hx, hb, hml, hown, ht⟩ (pX11_isSlot l G cs h q 0) okS_RX11_290 ⟨by decide, by decide⟩ hK hP [] rfl hl.1 rfl (Nat.le_of_ble_eq_true rfl) dX11_paste_8 ⟨by decide, by decide⟩) hP hS (fun _ h => h) (fun H locs hP hS => ?_)
      refine lv_topi (fun v4 ev4 => ?_)
      obtain rfl : v4 = 1 := ev4.trans (by decide)
      refine lv_if_ne (tgt := 17) hx hb dX11_paste_11 (by decide) (fun c6 => ?_) (fun c5 => False.elim (by revert c5; decide))
      refine lv_aload_n hx hb dX11_paste_17 rfl (lv_at hl 0 rfl) ?_
      refine getF hx hb ht hown hK hP iTX11 0 31 rfl rfl (by decide) fl_RX11_61 rfl dX11_paste_18 ?_
      refine lv_iload_n hx hb dX11_paste_21 rfl (lv_at hl 1 rfl) ?_
      refine va_iald hx hb hK.1 hP 1 0 rfl rfl (show ¬ (_ ∨ _) by decide) dX11_paste_22 ?_
      refine lv_topi (fun v7 ev7 => ?_)
      obtain rfl : v7 = (-1) := ev7.trans rfl
      refine lv_iconst (v := (-1)) hx hb dX11_paste_23 (by decide) ?_
      refine lv_icmp_eq (tgt := 37) hx hb dX11_paste_24 (by decide) (fun c9 => ?_) (fun c8 => False.elim (by revert c8; decide))
      refine lv_bipush (v := (-6)) hx hb dX11_paste_37 (by decide) ?_
      exact retPi hx hb hr hlk hS dX11_paste_39 (by decide)
    · refine mkP (Qc := QPi (spk 4 0 (spk 4 1 (-6) (-2)) (-2))) (by decide) (by simp [lg_sl, Value.category]) ?_
      intro p e s m args below meth c ls hx hb hml hr hlk hown ht hK hP hS hl
      have hl : lv_has ls 7 [(0, .ref h), (1, .int 0), (2, .int a2), (3, .int 1), (4, .int a4), (5, .int a5)] := hl
      refine lv_iload_n hx hb dX11_paste_0 rfl (lv_at hl 1 rfl) ?_
      refine behI (runSP (As := [.int 0]) (rest := []) ⟨hx, hb, hml, hown, ht⟩ (pX11_isSlot l G cs h q 0) okS_RX11_290 ⟨by decide, by decide⟩ hK hP [] rfl hl.1 rfl (Nat.le_of_ble_eq_true rfl) dX11_paste_1 ⟨by decide, by decide⟩) hP hS (fun _ h => h) (fun H locs hP hS => ?_)
      refine lv_topi (fun v1 ev1 => ?_)
      obtain rfl : v1 = 1 := ev1.trans (by decide)
      refine lv_if_eq (tgt := 14) hx hb dX11_paste_4 (by decide) (fun c2 => False.elim (by revert c2; decide)) (fun c3 => ?_)
      refine lv_iload_n hx hb dX11_paste_7 rfl (lv_at hl 3 rfl) ?_
      refine behI (runSP (As := [.int 1]) (rest := []) ⟨hx, hb, hml, hown, ht⟩ (pX11_isSlot l G cs h q 1) okS_RX11_290 ⟨by decide, by decide⟩ hK hP [] rfl hl.1 rfl (Nat.le_of_ble_eq_true rfl) dX11_paste_8 ⟨by decide, by decide⟩) hP hS (fun _ h => h) (fun H locs hP hS => ?_)
      refine lv_topi (fun v4 ev4 => ?_)
      obtain rfl : v4 = 1 := ev4.trans (by decide)
      refine lv_if_ne (tgt := 17) hx hb dX11_paste_11 (by decide) (fun c6 => ?_) (fun c5 => False.elim (by revert c5; decide))
      refine lv_aload_n hx hb dX11_paste_17 rfl (lv_at hl 0 rfl) ?_
      refine getF hx hb ht hown hK hP iTX11 0 31 rfl rfl (by decide) fl_RX11_61 rfl dX11_paste_18 ?_
      refine lv_iload_n hx hb dX11_paste_21 rfl (lv_at hl 1 rfl) ?_
      refine va_iald hx hb hK.1 hP 1 0 rfl rfl (show ¬ (_ ∨ _) by decide) dX11_paste_22 ?_
      refine lv_topi (fun v7 ev7 => ?_)
      obtain rfl : v7 = (-1) := ev7.trans rfl
      refine lv_iconst (v := (-1)) hx hb dX11_paste_23 (by decide) ?_
      refine lv_icmp_eq (tgt := 37) hx hb dX11_paste_24 (by decide) (fun c9 => ?_) (fun c8 => False.elim (by revert c8; decide))
      refine lv_bipush (v := (-6)) hx hb dX11_paste_37 (by decide) ?_
      exact retPi hx hb hr hlk hS dX11_paste_39 (by decide)
    · refine mkP (Qc := QPi (spk 4 0 (spk 4 2 (-6) (-2)) (-2))) (by decide) (by simp [lg_sl, Value.category]) ?_
      intro p e s m args below meth c ls hx hb hml hr hlk hown ht hK hP hS hl
      have hl : lv_has ls 7 [(0, .ref h), (1, .int 0), (2, .int a2), (3, .int 2), (4, .int a4), (5, .int a5)] := hl
      refine lv_iload_n hx hb dX11_paste_0 rfl (lv_at hl 1 rfl) ?_
      refine behI (runSP (As := [.int 0]) (rest := []) ⟨hx, hb, hml, hown, ht⟩ (pX11_isSlot l G cs h q 0) okS_RX11_290 ⟨by decide, by decide⟩ hK hP [] rfl hl.1 rfl (Nat.le_of_ble_eq_true rfl) dX11_paste_1 ⟨by decide, by decide⟩) hP hS (fun _ h => h) (fun H locs hP hS => ?_)
      refine lv_topi (fun v1 ev1 => ?_)
      obtain rfl : v1 = 1 := ev1.trans (by decide)
      refine lv_if_eq (tgt := 14) hx hb dX11_paste_4 (by decide) (fun c2 => False.elim (by revert c2; decide)) (fun c3 => ?_)
      refine lv_iload_n hx hb dX11_paste_7 rfl (lv_at hl 3 rfl) ?_
      refine behI (runSP (As := [.int 2]) (rest := []) ⟨hx, hb, hml, hown, ht⟩ (pX11_isSlot l G cs h q 2) okS_RX11_290 ⟨by decide, by decide⟩ hK hP [] rfl hl.1 rfl (Nat.le_of_ble_eq_true rfl) dX11_paste_8 ⟨by decide, by decide⟩) hP hS (fun _ h => h) (fun H locs hP hS => ?_)
      refine lv_topi (fun v4 ev4 => ?_)
      obtain rfl : v4 = 1 := ev4.trans (by decide)
      refine lv_if_ne (tgt := 17) hx hb dX11_paste_11 (by decide) (fun c6 => ?_) (fun c5 => False.elim (by revert c5; decide))
      refine lv_aload_n hx hb dX11_paste_17 rfl (lv_at hl 0 rfl) ?_
      refine getF hx hb ht hown hK hP iTX11 0 31 rfl rfl (by decide) fl_RX11_61 rfl dX11_paste_18 ?_
      refine lv_iload_n hx hb dX11_paste_21 rfl (lv_at hl 1 rfl) ?_
      refine va_iald hx hb hK.1 hP 1 0 rfl rfl (show ¬ (_ ∨ _) by decide) dX11_paste_22 ?_
      refine lv_topi (fun v7 ev7 => ?_)
      obtain rfl : v7 = (-1) := ev7.trans rfl
      refine lv_iconst (v := (-1)) hx hb dX11_paste_23 (by decide) ?_
      refine lv_icmp_eq (tgt := 37) hx hb dX11_paste_24 (by decide) (fun c9 => ?_) (fun c8 => False.elim (by revert c8; decide))
      refine lv_bipush (v := (-6)) hx hb dX11_paste_37 (by decide) ?_
      exact retPi hx hb hr hlk hS dX11_paste_39 (by decide)
    · refine mkP (Qc := QPi (spk 4 0 (spk 4 3 (-6) (-2)) (-2))) (by decide) (by simp [lg_sl, Value.category]) ?_
      intro p e s m args below meth c ls hx hb hml hr hlk hown ht hK hP hS hl
      have hl : lv_has ls 7 [(0, .ref h), (1, .int 0), (2, .int a2), (3, .int 3), (4, .int a4), (5, .int a5)] := hl
      refine lv_iload_n hx hb dX11_paste_0 rfl (lv_at hl 1 rfl) ?_
      refine behI (runSP (As := [.int 0]) (rest := []) ⟨hx, hb, hml, hown, ht⟩ (pX11_isSlot l G cs h q 0) okS_RX11_290 ⟨by decide, by decide⟩ hK hP [] rfl hl.1 rfl (Nat.le_of_ble_eq_true rfl) dX11_paste_1 ⟨by decide, by decide⟩) hP hS (fun _ h => h) (fun H locs hP hS => ?_)
      refine lv_topi (fun v1 ev1 => ?_)
      obtain rfl : v1 = 1 := ev1.trans (by decide)
      refine lv_if_eq (tgt := 14) hx hb dX11_paste_4 (by decide) (fun c2 => False.elim (by revert c2; decide)) (fun c3 => ?_)
      refine lv_iload_n hx hb dX11_paste_7 rfl (lv_at hl 3 rfl) ?_
      refine behI (runSP (As := [.int 3]) (rest := []) ⟨hx, hb, hml, hown, ht⟩ (pX11_isSlot l G cs h q 3) okS_RX11_290 ⟨by decide, by decide⟩ hK hP [] rfl hl.1 rfl (Nat.le_of_ble_eq_true rfl) dX11_paste_8 ⟨by decide, by decide⟩) hP hS (fun _ h => h) (fun H locs hP hS => ?_)
      refine lv_topi (fun v4 ev4 => ?_)
      obtain rfl : v4 = 1 := ev4.trans (by decide)
      refine lv_if_ne (tgt := 17) hx hb dX11_paste_11 (by decide) (fun c6 => ?_) (fun c5 => False.elim (by revert c5; decide))
      refine lv_aload_n hx hb dX11_paste_17 rfl (lv_at hl 0 rfl) ?_
      refine getF hx hb ht hown hK hP iTX11 0 31 rfl rfl (by decide) fl_RX11_61 rfl dX11_paste_18 ?_
      refine lv_iload_n hx hb dX11_paste_21 rfl (lv_at hl 1 rfl) ?_
      refine va_iald hx hb hK.1 hP 1 0 rfl rfl (show ¬ (_ ∨ _) by decide) dX11_paste_22 ?_
      refine lv_topi (fun v7 ev7 => ?_)
      obtain rfl : v7 = (-1) := ev7.trans rfl
      refine lv_iconst (v := (-1)) hx hb dX11_paste_23 (by decide) ?_
      refine lv_icmp_eq (tgt := 37) hx hb dX11_paste_24 (by decide) (fun c9 => ?_) (fun c8 => False.elim (by revert c8; decide))
      refine lv_bipush (v := (-6)) hx hb dX11_paste_37 (by decide) ?_
      exact retPi hx hb hr hlk hS dX11_paste_39 (by decide)
  · rcases cs4 a3 with hn2 | hb2 | rfl | rfl | rfl | rfl
    · refine mkP (Qc := QPi (spk 4 1 (spk 4 a3 (-6) (-2)) (-2))) (by decide) (by simp [lg_sl, Value.category]) ?_
      intro p e s m args below meth c ls hx hb hml hr hlk hown ht hK hP hS hl
      have hl : lv_has ls 7 [(0, .ref h), (1, .int 1), (2, .int a2), (3, .int a3), (4, .int a4), (5, .int a5)] := hl
      refine lv_iload_n hx hb dX11_paste_0 rfl (lv_at hl 1 rfl) ?_
      refine behI (runSP (As := [.int 1]) (rest := []) ⟨hx, hb, hml, hown, ht⟩ (pX11_isSlot l G cs h q 1) okS_RX11_290 ⟨by decide, by decide⟩ hK hP [] rfl hl.1 rfl (Nat.le_of_ble_eq_true rfl) dX11_paste_1 ⟨by decide, by decide⟩) hP hS (fun _ h => h) (fun H locs hP hS => ?_)
      refine lv_topi (fun v1 ev1 => ?_)
      obtain rfl : v1 = 1 := ev1.trans (by decide)
      refine lv_if_eq (tgt := 14) hx hb dX11_paste_4 (by decide) (fun c2 => False.elim (by revert c2; decide)) (fun c3 => ?_)
      refine lv_iload_n hx hb dX11_paste_7 rfl (lv_at hl 3 rfl) ?_
      refine behI (runSP (As := [.int a3]) (rest := []) ⟨hx, hb, hml, hown, ht⟩ (pX11_isSlot l G cs h q a3) okS_RX11_290 ⟨by decide, by decide⟩ hK hP [] rfl hl.1 rfl (Nat.le_of_ble_eq_true rfl) dX11_paste_8 ⟨by decide, by decide⟩) hP hS (fun _ h => h) (fun H locs hP hS => ?_)
      refine lv_topi (fun v4 ev4 => ?_)
      obtain rfl : v4 = 0 := ev4.trans (inF_n (by have z0 := ltT hn2; have k0 : (0 : Int32).toInt = 0 := (by decide); have K0 : (0 : Int64).toInt = 0 := (by decide); have K1 : (3 : Int64).toInt = 3 := (by decide); omega))
      refine lv_if_ne (tgt := 17) hx hb dX11_paste_11 (by decide) (fun c5 => False.elim (by revert c5; decide)) (fun c6 => ?_)
      refine lv_bipush (v := (-2)) hx hb dX11_paste_14 (by decide) ?_
      exact retPi hx hb hr hlk hS dX11_paste_16 ((show _ = spk 4 _ (spk 4 a3 (-6) (-2)) (-2) by rw [spk_lo hn2]; decide))
    · refine mkP (Qc := QPi (spk 4 1 (spk 4 a3 (-6) (-2)) (-2))) (by decide) (by simp [lg_sl, Value.category]) ?_
      intro p e s m args below meth c ls hx hb hml hr hlk hown ht hK hP hS hl
      have hl : lv_has ls 7 [(0, .ref h), (1, .int 1), (2, .int a2), (3, .int a3), (4, .int a4), (5, .int a5)] := hl
      refine lv_iload_n hx hb dX11_paste_0 rfl (lv_at hl 1 rfl) ?_
      refine behI (runSP (As := [.int 1]) (rest := []) ⟨hx, hb, hml, hown, ht⟩ (pX11_isSlot l G cs h q 1) okS_RX11_290 ⟨by decide, by decide⟩ hK hP [] rfl hl.1 rfl (Nat.le_of_ble_eq_true rfl) dX11_paste_1 ⟨by decide, by decide⟩) hP hS (fun _ h => h) (fun H locs hP hS => ?_)
      refine lv_topi (fun v1 ev1 => ?_)
      obtain rfl : v1 = 1 := ev1.trans (by decide)
      refine lv_if_eq (tgt := 14) hx hb dX11_paste_4 (by decide) (fun c2 => False.elim (by revert c2; decide)) (fun c3 => ?_)
      refine lv_iload_n hx hb dX11_paste_7 rfl (lv_at hl 3 rfl) ?_
      refine behI (runSP (As := [.int a3]) (rest := []) ⟨hx, hb, hml, hown, ht⟩ (pX11_isSlot l G cs h q a3) okS_RX11_290 ⟨by decide, by decide⟩ hK hP [] rfl hl.1 rfl (Nat.le_of_ble_eq_true rfl) dX11_paste_8 ⟨by decide, by decide⟩) hP hS (fun _ h => h) (fun H locs hP hS => ?_)
      refine lv_topi (fun v4 ev4 => ?_)
      obtain rfl : v4 = 0 := ev4.trans (inF_n (by have z0 := leT hb2; have k0 : (4 : Int32).toInt = 4 := (by decide); have K0 : (0 : Int64).toInt = 0 := (by decide); have K1 : (3 : Int64).toInt = 3 := (by decide); omega))
      refine lv_if_ne (tgt := 17) hx hb dX11_paste_11 (by decide) (fun c5 => False.elim (by revert c5; decide)) (fun c6 => ?_)
      refine lv_bipush (v := (-2)) hx hb dX11_paste_14 (by decide) ?_
      exact retPi hx hb hr hlk hS dX11_paste_16 ((show _ = spk 4 _ (spk 4 a3 (-6) (-2)) (-2) by rw [spk_hi (by decide) hb2]; decide))
    · refine mkP (Qc := QPi (spk 4 1 (spk 4 0 (-6) (-2)) (-2))) (by decide) (by simp [lg_sl, Value.category]) ?_
      intro p e s m args below meth c ls hx hb hml hr hlk hown ht hK hP hS hl
      have hl : lv_has ls 7 [(0, .ref h), (1, .int 1), (2, .int a2), (3, .int 0), (4, .int a4), (5, .int a5)] := hl
      refine lv_iload_n hx hb dX11_paste_0 rfl (lv_at hl 1 rfl) ?_
      refine behI (runSP (As := [.int 1]) (rest := []) ⟨hx, hb, hml, hown, ht⟩ (pX11_isSlot l G cs h q 1) okS_RX11_290 ⟨by decide, by decide⟩ hK hP [] rfl hl.1 rfl (Nat.le_of_ble_eq_true rfl) dX11_paste_1 ⟨by decide, by decide⟩) hP hS (fun _ h => h) (fun H locs hP hS => ?_)
      refine lv_topi (fun v1 ev1 => ?_)
      obtain rfl : v1 = 1 := ev1.trans (by decide)
      refine lv_if_eq (tgt := 14) hx hb dX11_paste_4 (by decide) (fun c2 => False.elim (by revert c2; decide)) (fun c3 => ?_)
      refine lv_iload_n hx hb dX11_paste_7 rfl (lv_at hl 3 rfl) ?_
      refine behI (runSP (As := [.int 0]) (rest := []) ⟨hx, hb, hml, hown, ht⟩ (pX11_isSlot l G cs h q 0) okS_RX11_290 ⟨by decide, by decide⟩ hK hP [] rfl hl.1 rfl (Nat.le_of_ble_eq_true rfl) dX11_paste_8 ⟨by decide, by decide⟩) hP hS (fun _ h => h) (fun H locs hP hS => ?_)
      refine lv_topi (fun v4 ev4 => ?_)
      obtain rfl : v4 = 1 := ev4.trans (by decide)
      refine lv_if_ne (tgt := 17) hx hb dX11_paste_11 (by decide) (fun c6 => ?_) (fun c5 => False.elim (by revert c5; decide))
      refine lv_aload_n hx hb dX11_paste_17 rfl (lv_at hl 0 rfl) ?_
      refine getF hx hb ht hown hK hP iTX11 0 31 rfl rfl (by decide) fl_RX11_61 rfl dX11_paste_18 ?_
      refine lv_iload_n hx hb dX11_paste_21 rfl (lv_at hl 1 rfl) ?_
      refine va_iald hx hb hK.1 hP 1 0 rfl rfl (show ¬ (_ ∨ _) by decide) dX11_paste_22 ?_
      refine lv_topi (fun v7 ev7 => ?_)
      obtain rfl : v7 = (-1) := ev7.trans rfl
      refine lv_iconst (v := (-1)) hx hb dX11_paste_23 (by decide) ?_
      refine lv_icmp_eq (tgt := 37) hx hb dX11_paste_24 (by decide) (fun c9 => ?_) (fun c8 => False.elim (by revert c8; decide))
      refine lv_bipush (v := (-6)) hx hb dX11_paste_37 (by decide) ?_
      exact retPi hx hb hr hlk hS dX11_paste_39 (by decide)
    · refine mkP (Qc := QPi (spk 4 1 (spk 4 1 (-6) (-2)) (-2))) (by decide) (by simp [lg_sl, Value.category]) ?_
      intro p e s m args below meth c ls hx hb hml hr hlk hown ht hK hP hS hl
      have hl : lv_has ls 7 [(0, .ref h), (1, .int 1), (2, .int a2), (3, .int 1), (4, .int a4), (5, .int a5)] := hl
      refine lv_iload_n hx hb dX11_paste_0 rfl (lv_at hl 1 rfl) ?_
      refine behI (runSP (As := [.int 1]) (rest := []) ⟨hx, hb, hml, hown, ht⟩ (pX11_isSlot l G cs h q 1) okS_RX11_290 ⟨by decide, by decide⟩ hK hP [] rfl hl.1 rfl (Nat.le_of_ble_eq_true rfl) dX11_paste_1 ⟨by decide, by decide⟩) hP hS (fun _ h => h) (fun H locs hP hS => ?_)
      refine lv_topi (fun v1 ev1 => ?_)
      obtain rfl : v1 = 1 := ev1.trans (by decide)
      refine lv_if_eq (tgt := 14) hx hb dX11_paste_4 (by decide) (fun c2 => False.elim (by revert c2; decide)) (fun c3 => ?_)
      refine lv_iload_n hx hb dX11_paste_7 rfl (lv_at hl 3 rfl) ?_
      refine behI (runSP (As := [.int 1]) (rest := []) ⟨hx, hb, hml, hown, ht⟩ (pX11_isSlot l G cs h q 1) okS_RX11_290 ⟨by decide, by decide⟩ hK hP [] rfl hl.1 rfl (Nat.le_of_ble_eq_true rfl) dX11_paste_8 ⟨by decide, by decide⟩) hP hS (fun _ h => h) (fun H locs hP hS => ?_)
      refine lv_topi (fun v4 ev4 => ?_)
      obtain rfl : v4 = 1 := ev4.trans (by decide)
      refine lv_if_ne (tgt := 17) hx hb dX11_paste_11 (by decide) (fun c6 => ?_) (fun c5 => False.elim (by revert c5; decide))
      refine lv_aload_n hx hb dX11_paste_17 rfl (lv_at hl 0 rfl) ?_
      refine getF hx hb ht hown hK hP iTX11 0 31 rfl rfl (by decide) fl_RX11_61 rfl dX11_paste_18 ?_
      refine lv_iload_n hx hb dX11_paste_21 rfl (lv_at hl 1 rfl) ?_
      refine va_iald hx hb hK.1 hP 1 0 rfl rfl (show ¬ (_ ∨ _) by decide) dX11_paste_22 ?_
      refine lv_topi (fun v7 ev7 => ?_)
      obtain rfl : v7 = (-1) := ev7.trans rfl
      refine lv_iconst (v := (-1)) hx hb dX11_paste_23 (by decide) ?_
      refine lv_icmp_eq (tgt := 37) hx hb dX11_paste_24 (by decide) (fun c9 => ?_) (fun c8 => False.elim (by revert c8; decide))
      refine lv_bipush (v := (-6)) hx hb dX11_paste_37 (by decide) ?_
      exact retPi hx hb hr hlk hS dX11_paste_39 (by decide)
    · refine mkP (Qc := QPi (spk 4 1 (spk 4 2 (-6) (-2)) (-2))) (by decide) (by simp [lg_sl, Value.category]) ?_
      intro p e s m args below meth c ls hx hb hml hr hlk hown ht hK hP hS hl
      have hl : lv_has ls 7 [(0, .ref h), (1, .int 1), (2, .int a2), (3, .int 2), (4, .int a4), (5, .int a5)] := hl
      refine lv_iload_n hx hb dX11_paste_0 rfl (lv_at hl 1 rfl) ?_
      refine behI (runSP (As := [.int 1]) (rest := []) ⟨hx, hb, hml, hown, ht⟩ (pX11_isSlot l G cs h q 1) okS_RX11_290 ⟨by decide, by decide⟩ hK hP [] rfl hl.1 rfl (Nat.le_of_ble_eq_true rfl) dX11_paste_1 ⟨by decide, by decide⟩) hP hS (fun _ h => h) (fun H locs hP hS => ?_)
      refine lv_topi (fun v1 ev1 => ?_)
      obtain rfl : v1 = 1 := ev1.trans (by decide)
      refine lv_if_eq (tgt := 14) hx hb dX11_paste_4 (by decide) (fun c2 => False.elim (by revert c2; decide)) (fun c3 => ?_)
      refine lv_iload_n hx hb dX11_paste_7 rfl (lv_at hl 3 rfl) ?_
      refine behI (runSP (As := [.int 2]) (rest := []) ⟨hx, hb, hml, hown, ht⟩ (pX11_isSlot l G cs h q 2) okS_RX11_290 ⟨by decide, by decide⟩ hK hP [] rfl hl.1 rfl (Nat.le_of_ble_eq_true rfl) dX11_paste_8 ⟨by decide, by decide⟩) hP hS (fun _ h => h) (fun H locs hP hS => ?_)
      refine lv_topi (fun v4 ev4 => ?_)
      obtain rfl : v4 = 1 := ev4.trans (by decide)
      refine lv_if_ne (tgt := 17) hx hb dX11_paste_11 (by decide) (fun c6 => ?_) (fun c5 => False.elim (by revert c5; decide))
      refine lv_aload_n hx hb dX11_paste_17 rfl (lv_at hl 0 rfl) ?_
      refine getF hx hb ht hown hK hP iTX11 0 31 rfl rfl (by decide) fl_RX11_61 rfl dX11_paste_18 ?_
      refine lv_iload_n hx hb dX11_paste_21 rfl (lv_at hl 1 rfl) ?_
      refine va_iald hx hb hK.1 hP 1 0 rfl rfl (show ¬ (_ ∨ _) by decide) dX11_paste_22 ?_
      refine lv_topi (fun v7 ev7 => ?_)
      obtain rfl : v7 = (-1) := ev7.trans rfl
      refine lv_iconst (v := (-1)) hx hb dX11_paste_23 (by decide) ?_
      refine lv_icmp_eq (tgt := 37) hx hb dX11_paste_24 (by decide) (fun c9 => ?_) (fun c8 => False.elim (by revert c8; decide))
      refine lv_bipush (v := (-6)) hx hb dX11_paste_37 (by decide) ?_
      exact retPi hx hb hr hlk hS dX11_paste_39 (by decide)
    · refine mkP (Qc := QPi (spk 4 1 (spk 4 3 (-6) (-2)) (-2))) (by decide) (by simp [lg_sl, Value.category]) ?_
      intro p e s m args below meth c ls hx hb hml hr hlk hown ht hK hP hS hl
      have hl : lv_has ls 7 [(0, .ref h), (1, .int 1), (2, .int a2), (3, .int 3), (4, .int a4), (5, .int a5)] := hl
      refine lv_iload_n hx hb dX11_paste_0 rfl (lv_at hl 1 rfl) ?_
      refine behI (runSP (As := [.int 1]) (rest := []) ⟨hx, hb, hml, hown, ht⟩ (pX11_isSlot l G cs h q 1) okS_RX11_290 ⟨by decide, by decide⟩ hK hP [] rfl hl.1 rfl (Nat.le_of_ble_eq_true rfl) dX11_paste_1 ⟨by decide, by decide⟩) hP hS (fun _ h => h) (fun H locs hP hS => ?_)
      refine lv_topi (fun v1 ev1 => ?_)
      obtain rfl : v1 = 1 := ev1.trans (by decide)
      refine lv_if_eq (tgt := 14) hx hb dX11_paste_4 (by decide) (fun c2 => False.elim (by revert c2; decide)) (fun c3 => ?_)
      refine lv_iload_n hx hb dX11_paste_7 rfl (lv_at hl 3 rfl) ?_
      refine behI (runSP (As := [.int 3]) (rest := []) ⟨hx, hb, hml, hown, ht⟩ (pX11_isSlot l G cs h q 3) okS_RX11_290 ⟨by decide, by decide⟩ hK hP [] rfl hl.1 rfl (Nat.le_of_ble_eq_true rfl) dX11_paste_8 ⟨by decide, by decide⟩) hP hS (fun _ h => h) (fun H locs hP hS => ?_)
      refine lv_topi (fun v4 ev4 => ?_)
      obtain rfl : v4 = 1 := ev4.trans (by decide)
      refine lv_if_ne (tgt := 17) hx hb dX11_paste_11 (by decide) (fun c6 => ?_) (fun c5 => False.elim (by revert c5; decide))
      refine lv_aload_n hx hb dX11_paste_17 rfl (lv_at hl 0 rfl) ?_
      refine getF hx hb ht hown hK hP iTX11 0 31 rfl rfl (by decide) fl_RX11_61 rfl dX11_paste_18 ?_
      refine lv_iload_n hx hb dX11_paste_21 rfl (lv_at hl 1 rfl) ?_
      refine va_iald hx hb hK.1 hP 1 0 rfl rfl (show ¬ (_ ∨ _) by decide) dX11_paste_22 ?_
      refine lv_topi (fun v7 ev7 => ?_)
      obtain rfl : v7 = (-1) := ev7.trans rfl
      refine lv_iconst (v := (-1)) hx hb dX11_paste_23 (by decide) ?_
      refine lv_icmp_eq (tgt := 37) hx hb dX11_paste_24 (by decide) (fun c9 => ?_) (fun c8 => False.elim (by revert c8; decide))
      refine lv_bipush (v := (-6)) hx hb dX11_paste_37 (by decide) ?_
      exact retPi hx hb hr hlk hS dX11_paste_39 (by decide)
  · rcases cs4 a3 with hn2 | hb2 | rfl | rfl | rfl | rfl
    · refine mkP (Qc := QPi (spk 4 2 (spk 4 a3 (-6) (-2)) (-2))) (by decide) (by simp [lg_sl, Value.category]) ?_
      intro p e s m args below meth c ls hx hb hml hr hlk hown ht hK hP hS hl
      have hl : lv_has ls 7 [(0, .ref h), (1, .int 2), (2, .int a2), (3, .int a3), (4, .int a4), (5, .int a5)] := hl
      refine lv_iload_n hx hb dX11_paste_0 rfl (lv_at hl 1 rfl) ?_
      refine behI (runSP (As := [.int 2]) (rest := []) ⟨hx, hb, hml, hown, ht⟩ (pX11_isSlot l G cs h q 2) okS_RX11_290 ⟨by decide, by decide⟩ hK hP [] rfl hl.1 rfl (Nat.le_of_ble_eq_true rfl) dX11_paste_1 ⟨by decide, by decide⟩) hP hS (fun _ h => h) (fun H locs hP hS => ?_)
      refine lv_topi (fun v1 ev1 => ?_)
      obtain rfl : v1 = 1 := ev1.trans (by decide)
      refine lv_if_eq (tgt := 14) hx hb dX11_paste_4 (by decide) (fun c2 => False.elim (by revert c2; decide)) (fun c3 => ?_)
      refine lv_iload_n hx hb dX11_paste_7 rfl (lv_at hl 3 rfl) ?_
      refine behI (runSP (As := [.int a3]) (rest := []) ⟨hx, hb, hml, hown, ht⟩ (pX11_isSlot l G cs h q a3) okS_RX11_290 ⟨by decide, by decide⟩ hK hP [] rfl hl.1 rfl (Nat.le_of_ble_eq_true rfl) dX11_paste_8 ⟨by decide, by decide⟩) hP hS (fun _ h => h) (fun H locs hP hS => ?_)
      refine lv_topi (fun v4 ev4 => ?_)
      obtain rfl : v4 = 0 := ev4.trans (inF_n (by have z0 := ltT hn2; have k0 : (0 : Int32).toInt = 0 := (by decide); have K0 : (0 : Int64).toInt = 0 := (by decide); have K1 : (3 : Int64).toInt = 3 := (by decide); omega))
      refine lv_if_ne (tgt := 17) hx hb dX11_paste_11 (by decide) (fun c5 => False.elim (by revert c5; decide)) (fun c6 => ?_)
      refine lv_bipush (v := (-2)) hx hb dX11_paste_14 (by decide) ?_
      exact retPi hx hb hr hlk hS dX11_paste_16 ((show _ = spk 4 _ (spk 4 a3 (-6) (-2)) (-2) by rw [spk_lo hn2]; decide))
    · refine mkP (Qc := QPi (spk 4 2 (spk 4 a3 (-6) (-2)) (-2))) (by decide) (by simp [lg_sl, Value.category]) ?_
      intro p e s m args below meth c ls hx hb hml hr hlk hown ht hK hP hS hl
      have hl : lv_has ls 7 [(0, .ref h), (1, .int 2), (2, .int a2), (3, .int a3), (4, .int a4), (5, .int a5)] := hl
      refine lv_iload_n hx hb dX11_paste_0 rfl (lv_at hl 1 rfl) ?_
      refine behI (runSP (As := [.int 2]) (rest := []) ⟨hx, hb, hml, hown, ht⟩ (pX11_isSlot l G cs h q 2) okS_RX11_290 ⟨by decide, by decide⟩ hK hP [] rfl hl.1 rfl (Nat.le_of_ble_eq_true rfl) dX11_paste_1 ⟨by decide, by decide⟩) hP hS (fun _ h => h) (fun H locs hP hS => ?_)
      refine lv_topi (fun v1 ev1 => ?_)
      obtain rfl : v1 = 1 := ev1.trans (by decide)
      refine lv_if_eq (tgt := 14) hx hb dX11_paste_4 (by decide) (fun c2 => False.elim (by revert c2; decide)) (fun c3 => ?_)
      refine lv_iload_n hx hb dX11_paste_7 rfl (lv_at hl 3 rfl) ?_
      refine behI (runSP (As := [.int a3]) (rest := []) ⟨hx, hb, hml, hown, ht⟩ (pX11_isSlot l G cs h q a3) okS_RX11_290 ⟨by decide, by decide⟩ hK hP [] rfl hl.1 rfl (Nat.le_of_ble_eq_true rfl) dX11_paste_8 ⟨by decide, by decide⟩) hP hS (fun _ h => h) (fun H locs hP hS => ?_)
      refine lv_topi (fun v4 ev4 => ?_)
      obtain rfl : v4 = 0 := ev4.trans (inF_n (by have z0 := leT hb2; have k0 : (4 : Int32).toInt = 4 := (by decide); have K0 : (0 : Int64).toInt = 0 := (by decide); have K1 : (3 : Int64).toInt = 3 := (by decide); omega))
      refine lv_if_ne (tgt := 17) hx hb dX11_paste_11 (by decide) (fun c5 => False.elim (by revert c5; decide)) (fun c6 => ?_)
      refine lv_bipush (v := (-2)) hx hb dX11_paste_14 (by decide) ?_
      exact retPi hx hb hr hlk hS dX11_paste_16 ((show _ = spk 4 _ (spk 4 a3 (-6) (-2)) (-2) by rw [spk_hi (by decide) hb2]; decide))
    · refine mkP (Qc := QPi (spk 4 2 (spk 4 0 (-6) (-2)) (-2))) (by decide) (by simp [lg_sl, Value.category]) ?_
      intro p e s m args below meth c ls hx hb hml hr hlk hown ht hK hP hS hl
      have hl : lv_has ls 7 [(0, .ref h), (1, .int 2), (2, .int a2), (3, .int 0), (4, .int a4), (5, .int a5)] := hl
      refine lv_iload_n hx hb dX11_paste_0 rfl (lv_at hl 1 rfl) ?_
      refine behI (runSP (As := [.int 2]) (rest := []) ⟨hx, hb, hml, hown, ht⟩ (pX11_isSlot l G cs h q 2) okS_RX11_290 ⟨by decide, by decide⟩ hK hP [] rfl hl.1 rfl (Nat.le_of_ble_eq_true rfl) dX11_paste_1 ⟨by decide, by decide⟩) hP hS (fun _ h => h) (fun H locs hP hS => ?_)
      refine lv_topi (fun v1 ev1 => ?_)
      obtain rfl : v1 = 1 := ev1.trans (by decide)
      refine lv_if_eq (tgt := 14) hx hb dX11_paste_4 (by decide) (fun c2 => False.elim (by revert c2; decide)) (fun c3 => ?_)
      refine lv_iload_n hx hb dX11_paste_7 rfl (lv_at hl 3 rfl) ?_
      refine behI (runSP (As := [.int 0]) (rest := []) ⟨hx, hb, hml, hown, ht⟩ (pX11_isSlot l G cs h q 0) okS_RX11_290 ⟨by decide, by decide⟩ hK hP [] rfl hl.1 rfl (Nat.le_of_ble_eq_true rfl) dX11_paste_8 ⟨by decide, by decide⟩) hP hS (fun _ h => h) (fun H locs hP hS => ?_)
      refine lv_topi (fun v4 ev4 => ?_)
      obtain rfl : v4 = 1 := ev4.trans (by decide)
      refine lv_if_ne (tgt := 17) hx hb dX11_paste_11 (by decide) (fun c6 => ?_) (fun c5 => False.elim (by revert c5; decide))
      refine lv_aload_n hx hb dX11_paste_17 rfl (lv_at hl 0 rfl) ?_
      refine getF hx hb ht hown hK hP iTX11 0 31 rfl rfl (by decide) fl_RX11_61 rfl dX11_paste_18 ?_
      refine lv_iload_n hx hb dX11_paste_21 rfl (lv_at hl 1 rfl) ?_
      refine va_iald hx hb hK.1 hP 1 0 rfl rfl (show ¬ (_ ∨ _) by decide) dX11_paste_22 ?_
      refine lv_topi (fun v7 ev7 => ?_)
      obtain rfl : v7 = (-1) := ev7.trans rfl
      refine lv_iconst (v := (-1)) hx hb dX11_paste_23 (by decide) ?_
      refine lv_icmp_eq (tgt := 37) hx hb dX11_paste_24 (by decide) (fun c9 => ?_) (fun c8 => False.elim (by revert c8; decide))
      refine lv_bipush (v := (-6)) hx hb dX11_paste_37 (by decide) ?_
      exact retPi hx hb hr hlk hS dX11_paste_39 (by decide)
    · refine mkP (Qc := QPi (spk 4 2 (spk 4 1 (-6) (-2)) (-2))) (by decide) (by simp [lg_sl, Value.category]) ?_
      intro p e s m args below meth c ls hx hb hml hr hlk hown ht hK hP hS hl
      have hl : lv_has ls 7 [(0, .ref h), (1, .int 2), (2, .int a2), (3, .int 1), (4, .int a4), (5, .int a5)] := hl
      refine lv_iload_n hx hb dX11_paste_0 rfl (lv_at hl 1 rfl) ?_
      refine behI (runSP (As := [.int 2]) (rest := []) ⟨hx, hb, hml, hown, ht⟩ (pX11_isSlot l G cs h q 2) okS_RX11_290 ⟨by decide, by decide⟩ hK hP [] rfl hl.1 rfl (Nat.le_of_ble_eq_true rfl) dX11_paste_1 ⟨by decide, by decide⟩) hP hS (fun _ h => h) (fun H locs hP hS => ?_)
      refine lv_topi (fun v1 ev1 => ?_)
      obtain rfl : v1 = 1 := ev1.trans (by decide)
      refine lv_if_eq (tgt := 14) hx hb dX11_paste_4 (by decide) (fun c2 => False.elim (by revert c2; decide)) (fun c3 => ?_)
      refine lv_iload_n hx hb dX11_paste_7 rfl (lv_at hl 3 rfl) ?_
      refine behI (runSP (As := [.int 1]) (rest := []) ⟨hx, hb, hml, hown, ht⟩ (pX11_isSlot l G cs h q 1) okS_RX11_290 ⟨by decide, by decide⟩ hK hP [] rfl hl.1 rfl (Nat.le_of_ble_eq_true rfl) dX11_paste_8 ⟨by decide, by decide⟩) hP hS (fun _ h => h) (fun H locs hP hS => ?_)
      refine lv_topi (fun v4 ev4 => ?_)
      obtain rfl : v4 = 1 := ev4.trans (by decide)
      refine lv_if_ne (tgt := 17) hx hb dX11_paste_11 (by decide) (fun c6 => ?_) (fun c5 => False.elim (by revert c5; decide))
      refine lv_aload_n hx hb dX11_paste_17 rfl (lv_at hl 0 rfl) ?_
      refine getF hx hb ht hown hK hP iTX11 0 31 rfl rfl (by decide) fl_RX11_61 rfl dX11_paste_18 ?_
      refine lv_iload_n hx hb dX11_paste_21 rfl (lv_at hl 1 rfl) ?_
      refine va_iald hx hb hK.1 hP 1 0 rfl rfl (show ¬ (_ ∨ _) by decide) dX11_paste_22 ?_
      refine lv_topi (fun v7 ev7 => ?_)
      obtain rfl : v7 = (-1) := ev7.trans rfl
      refine lv_iconst (v := (-1)) hx hb dX11_paste_23 (by decide) ?_
      refine lv_icmp_eq (tgt := 37) hx hb dX11_paste_24 (by decide) (fun c9 => ?_) (fun c8 => False.elim (by revert c8; decide))
      refine lv_bipush (v := (-6)) hx hb dX11_paste_37 (by decide) ?_
      exact retPi hx hb hr hlk hS dX11_paste_39 (by decide)
    · refine mkP (Qc := QPi (spk 4 2 (spk 4 2 (-6) (-2)) (-2))) (by decide) (by simp [lg_sl, Value.category]) ?_
      intro p e s m args below meth c ls hx hb hml hr hlk hown ht hK hP hS hl
      have hl : lv_has ls 7 [(0, .ref h), (1, .int 2), (2, .int a2), (3, .int 2), (4, .int a4), (5, .int a5)] := hl
      refine lv_iload_n hx hb dX11_paste_0 rfl (lv_at hl 1 rfl) ?_
      refine behI (runSP (As := [.int 2]) (rest := []) ⟨hx, hb, hml, hown, ht⟩ (pX11_isSlot l G cs h q 2) okS_RX11_290 ⟨by decide, by decide⟩ hK hP [] rfl hl.1 rfl (Nat.le_of_ble_eq_true rfl) dX11_paste_1 ⟨by decide, by decide⟩) hP hS (fun _ h => h) (fun H locs hP hS => ?_)
      refine lv_topi (fun v1 ev1 => ?_)
      obtain rfl : v1 = 1 := ev1.trans (by decide)
      refine lv_if_eq (tgt := 14) hx hb dX11_paste_4 (by decide) (fun c2 => False.elim (by revert c2; decide)) (fun c3 => ?_)
      refine lv_iload_n hx hb dX11_paste_7 rfl (lv_at hl 3 rfl) ?_
      refine behI (runSP (As := [.int 2]) (rest := []) ⟨hx, hb, hml, hown, ht⟩ (pX11_isSlot l G cs h q 2) okS_RX11_290 ⟨by decide, by decide⟩ hK hP [] rfl hl.1 rfl (Nat.le_of_ble_eq_true rfl) dX11_paste_8 ⟨by decide, by decide⟩) hP hS (fun _ h => h) (fun H locs hP hS => ?_)
      refine lv_topi (fun v4 ev4 => ?_)
      obtain rfl : v4 = 1 := ev4.trans (by decide)
      refine lv_if_ne (tgt := 17) hx hb dX11_paste_11 (by decide) (fun c6 => ?_) (fun c5 => False.elim (by revert c5; decide))
      refine lv_aload_n hx hb dX11_paste_17 rfl (lv_at hl 0 rfl) ?_
      refine getF hx hb ht hown hK hP iTX11 0 31 rfl rfl (by decide) fl_RX11_61 rfl dX11_paste_18 ?_
      refine lv_iload_n hx hb dX11_paste_21 rfl (lv_at hl 1 rfl) ?_
      refine va_iald hx hb hK.1 hP 1 0 rfl rfl (show ¬ (_ ∨ _) by decide) dX11_paste_22 ?_
      refine lv_topi (fun v7 ev7 => ?_)
      obtain rfl : v7 = (-1) := ev7.trans rfl
      refine lv_iconst (v := (-1)) hx hb dX11_paste_23 (by decide) ?_
      refine lv_icmp_eq (tgt := 37) hx hb dX11_paste_24 (by decide) (fun c9 => ?_) (fun c8 => False.elim (by revert c8; decide))
      refine lv_bipush (v := (-6)) hx hb dX11_paste_37 (by decide) ?_
      exact retPi hx hb hr hlk hS dX11_paste_39 (by decide)
    · refine mkP (Qc := QPi (spk 4 2 (spk 4 3 (-6) (-2)) (-2))) (by decide) (by simp [lg_sl, Value.category]) ?_
      intro p e s m args below meth c ls hx hb hml hr hlk hown ht hK hP hS hl
      have hl : lv_has ls 7 [(0, .ref h), (1, .int 2), (2, .int a2), (3, .int 3), (4, .int a4), (5, .int a5)] := hl
      refine lv_iload_n hx hb dX11_paste_0 rfl (lv_at hl 1 rfl) ?_
      refine behI (runSP (As := [.int 2]) (rest := []) ⟨hx, hb, hml, hown, ht⟩ (pX11_isSlot l G cs h q 2) okS_RX11_290 ⟨by decide, by decide⟩ hK hP [] rfl hl.1 rfl (Nat.le_of_ble_eq_true rfl) dX11_paste_1 ⟨by decide, by decide⟩) hP hS (fun _ h => h) (fun H locs hP hS => ?_)
      refine lv_topi (fun v1 ev1 => ?_)
      obtain rfl : v1 = 1 := ev1.trans (by decide)
      refine lv_if_eq (tgt := 14) hx hb dX11_paste_4 (by decide) (fun c2 => False.elim (by revert c2; decide)) (fun c3 => ?_)
      refine lv_iload_n hx hb dX11_paste_7 rfl (lv_at hl 3 rfl) ?_
      refine behI (runSP (As := [.int 3]) (rest := []) ⟨hx, hb, hml, hown, ht⟩ (pX11_isSlot l G cs h q 3) okS_RX11_290 ⟨by decide, by decide⟩ hK hP [] rfl hl.1 rfl (Nat.le_of_ble_eq_true rfl) dX11_paste_8 ⟨by decide, by decide⟩) hP hS (fun _ h => h) (fun H locs hP hS => ?_)
      refine lv_topi (fun v4 ev4 => ?_)
      obtain rfl : v4 = 1 := ev4.trans (by decide)
      refine lv_if_ne (tgt := 17) hx hb dX11_paste_11 (by decide) (fun c6 => ?_) (fun c5 => False.elim (by revert c5; decide))
      refine lv_aload_n hx hb dX11_paste_17 rfl (lv_at hl 0 rfl) ?_
      refine getF hx hb ht hown hK hP iTX11 0 31 rfl rfl (by decide) fl_RX11_61 rfl dX11_paste_18 ?_
      refine lv_iload_n hx hb dX11_paste_21 rfl (lv_at hl 1 rfl) ?_
      refine va_iald hx hb hK.1 hP 1 0 rfl rfl (show ¬ (_ ∨ _) by decide) dX11_paste_22 ?_
      refine lv_topi (fun v7 ev7 => ?_)
      obtain rfl : v7 = (-1) := ev7.trans rfl
      refine lv_iconst (v := (-1)) hx hb dX11_paste_23 (by decide) ?_
      refine lv_icmp_eq (tgt := 37) hx hb dX11_paste_24 (by decide) (fun c9 => ?_) (fun c8 => False.elim (by revert c8; decide))
      refine lv_bipush (v := (-6)) hx hb dX11_paste_37 (by decide) ?_
      exact retPi hx hb hr hlk hS dX11_paste_39 (by decide)
  · rcases cs4 a3 with hn2 | hb2 | rfl | rfl | rfl | rfl
    · refine mkP (Qc := QPi (spk 4 3 (spk 4 a3 (-6) (-2)) (-2))) (by decide) (by simp [lg_sl, Value.category]) ?_
      intro p e s m args below meth c ls hx hb hml hr hlk hown ht hK hP hS hl
      have hl : lv_has ls 7 [(0, .ref h), (1, .int 3), (2, .int a2), (3, .int a3), (4, .int a4), (5, .int a5)] := hl
      refine lv_iload_n hx hb dX11_paste_0 rfl (lv_at hl 1 rfl) ?_
      refine behI (runSP (As := [.int 3]) (rest := []) ⟨hx, hb, hml, hown, ht⟩ (pX11_isSlot l G cs h q 3) okS_RX11_290 ⟨by decide, by decide⟩ hK hP [] rfl hl.1 rfl (Nat.le_of_ble_eq_true rfl) dX11_paste_1 ⟨by decide, by decide⟩) hP hS (fun _ h => h) (fun H locs hP hS => ?_)
      refine lv_topi (fun v1 ev1 => ?_)
      obtain rfl : v1 = 1 := ev1.trans (by decide)
      refine lv_if_eq (tgt := 14) hx hb dX11_paste_4 (by decide) (fun c2 => False.elim (by revert c2; decide)) (fun c3 => ?_)
      refine lv_iload_n hx hb dX11_paste_7 rfl (lv_at hl 3 rfl) ?_
      refine behI (runSP (As := [.int a3]) (rest := []) ⟨hx, hb, hml, hown, ht⟩ (pX11_isSlot l G cs h q a3) okS_RX11_290 ⟨by decide, by decide⟩ hK hP [] rfl hl.1 rfl (Nat.le_of_ble_eq_true rfl) dX11_paste_8 ⟨by decide, by decide⟩) hP hS (fun _ h => h) (fun H locs hP hS => ?_)
      refine lv_topi (fun v4 ev4 => ?_)
      obtain rfl : v4 = 0 := ev4.trans (inF_n (by have z0 := ltT hn2; have k0 : (0 : Int32).toInt = 0 := (by decide); have K0 : (0 : Int64).toInt = 0 := (by decide); have K1 : (3 : Int64).toInt = 3 := (by decide); omega))
      refine lv_if_ne (tgt := 17) hx hb dX11_paste_11 (by decide) (fun c5 => False.elim (by revert c5; decide)) (fun c6 => ?_)
      refine lv_bipush (v := (-2)) hx hb dX11_paste_14 (by decide) ?_
      exact retPi hx hb hr hlk hS dX11_paste_16 ((show _ = spk 4 _ (spk 4 a3 (-6) (-2)) (-2) by rw [spk_lo hn2]; decide))
    · refine mkP (Qc := QPi (spk 4 3 (spk 4 a3 (-6) (-2)) (-2))) (by decide) (by simp [lg_sl, Value.category]) ?_
      intro p e s m args below meth c ls hx hb hml hr hlk hown ht hK hP hS hl
      have hl : lv_has ls 7 [(0, .ref h), (1, .int 3), (2, .int a2), (3, .int a3), (4, .int a4), (5, .int a5)] := hl
      refine lv_iload_n hx hb dX11_paste_0 rfl (lv_at hl 1 rfl) ?_
      refine behI (runSP (As := [.int 3]) (rest := []) ⟨hx, hb, hml, hown, ht⟩ (pX11_isSlot l G cs h q 3) okS_RX11_290 ⟨by decide, by decide⟩ hK hP [] rfl hl.1 rfl (Nat.le_of_ble_eq_true rfl) dX11_paste_1 ⟨by decide, by decide⟩) hP hS (fun _ h => h) (fun H locs hP hS => ?_)
      refine lv_topi (fun v1 ev1 => ?_)
      obtain rfl : v1 = 1 := ev1.trans (by decide)
      refine lv_if_eq (tgt := 14) hx hb dX11_paste_4 (by decide) (fun c2 => False.elim (by revert c2; decide)) (fun c3 => ?_)
      refine lv_iload_n hx hb dX11_paste_7 rfl (lv_at hl 3 rfl) ?_
      refine behI (runSP (As := [.int a3]) (rest := []) ⟨hx, hb, hml, hown, ht⟩ (pX11_isSlot l G cs h q a3) okS_RX11_290 ⟨by decide, by decide⟩ hK hP [] rfl hl.1 rfl (Nat.le_of_ble_eq_true rfl) dX11_paste_8 ⟨by decide, by decide⟩) hP hS (fun _ h => h) (fun H locs hP hS => ?_)
      refine lv_topi (fun v4 ev4 => ?_)
      obtain rfl : v4 = 0 := ev4.trans (inF_n (by have z0 := leT hb2; have k0 : (4 : Int32).toInt = 4 := (by decide); have K0 : (0 : Int64).toInt = 0 := (by decide); have K1 : (3 : Int64).toInt = 3 := (by decide); omega))
      refine lv_if_ne (tgt := 17) hx hb dX11_paste_11 (by decide) (fun c5 => False.elim (by revert c5; decide)) (fun c6 => ?_)
      refine lv_bipush (v := (-2)) hx hb dX11_paste_14 (by decide) ?_
      exact retPi hx hb hr hlk hS dX11_paste_16 ((show _ = spk 4 _ (spk 4 a3 (-6) (-2)) (-2) by rw [spk_hi (by decide) hb2]; decide))
    · refine mkP (Qc := QPi (spk 4 3 (spk 4 0 (-6) (-2)) (-2))) (by decide) (by simp [lg_sl, Value.category]) ?_
      intro p e s m args below meth c ls hx hb hml hr hlk hown ht hK hP hS hl
      have hl : lv_has ls 7 [(0, .ref h), (1, .int 3), (2, .int a2), (3, .int 0), (4, .int a4), (5, .int a5)] := hl
      refine lv_iload_n hx hb dX11_paste_0 rfl (lv_at hl 1 rfl) ?_
      refine behI (runSP (As := [.int 3]) (rest := []) ⟨hx, hb, hml, hown, ht⟩ (pX11_isSlot l G cs h q 3) okS_RX11_290 ⟨by decide, by decide⟩ hK hP [] rfl hl.1 rfl (Nat.le_of_ble_eq_true rfl) dX11_paste_1 ⟨by decide, by decide⟩) hP hS (fun _ h => h) (fun H locs hP hS => ?_)
      refine lv_topi (fun v1 ev1 => ?_)
      obtain rfl : v1 = 1 := ev1.trans (by decide)
      refine lv_if_eq (tgt := 14) hx hb dX11_paste_4 (by decide) (fun c2 => False.elim (by revert c2; decide)) (fun c3 => ?_)
      refine lv_iload_n hx hb dX11_paste_7 rfl (lv_at hl 3 rfl) ?_
      refine behI (runSP (As := [.int 0]) (rest := []) ⟨hx, hb, hml, hown, ht⟩ (pX11_isSlot l G cs h q 0) okS_RX11_290 ⟨by decide, by decide⟩ hK hP [] rfl hl.1 rfl (Nat.le_of_ble_eq_true rfl) dX11_paste_8 ⟨by decide, by decide⟩) hP hS (fun _ h => h) (fun H locs hP hS => ?_)
      refine lv_topi (fun v4 ev4 => ?_)
      obtain rfl : v4 = 1 := ev4.trans (by decide)
      refine lv_if_ne (tgt := 17) hx hb dX11_paste_11 (by decide) (fun c6 => ?_) (fun c5 => False.elim (by revert c5; decide))
      refine lv_aload_n hx hb dX11_paste_17 rfl (lv_at hl 0 rfl) ?_
      refine getF hx hb ht hown hK hP iTX11 0 31 rfl rfl (by decide) fl_RX11_61 rfl dX11_paste_18 ?_
      refine lv_iload_n hx hb dX11_paste_21 rfl (lv_at hl 1 rfl) ?_
      refine va_iald hx hb hK.1 hP 1 0 rfl rfl (show ¬ (_ ∨ _) by decide) dX11_paste_22 ?_
      refine lv_topi (fun v7 ev7 => ?_)
      obtain rfl : v7 = (-1) := ev7.trans rfl
      refine lv_iconst (v := (-1)) hx hb dX11_paste_23 (by decide) ?_
      refine lv_icmp_eq (tgt := 37) hx hb dX11_paste_24 (by decide) (fun c9 => ?_) (fun c8 => False.elim (by revert c8; decide))
      refine lv_bipush (v := (-6)) hx hb dX11_paste_37 (by decide) ?_
      exact retPi hx hb hr hlk hS dX11_paste_39 (by decide)
    · refine mkP (Qc := QPi (spk 4 3 (spk 4 1 (-6) (-2)) (-2))) (by decide) (by simp [lg_sl, Value.category]) ?_
      intro p e s m args below meth c ls hx hb hml hr hlk hown ht hK hP hS hl
      have hl : lv_has ls 7 [(0, .ref h), (1, .int 3), (2, .int a2), (3, .int 1), (4, .int a4), (5, .int a5)] := hl
      refine lv_iload_n hx hb dX11_paste_0 rfl (lv_at hl 1 rfl) ?_
      refine behI (runSP (As := [.int 3]) (rest := []) ⟨hx, hb, hml, hown, ht⟩ (pX11_isSlot l G cs h q 3) okS_RX11_290 ⟨by decide, by decide⟩ hK hP [] rfl hl.1 rfl (Nat.le_of_ble_eq_true rfl) dX11_paste_1 ⟨by decide, by decide⟩) hP hS (fun _ h => h) (fun H locs hP hS => ?_)
      refine lv_topi (fun v1 ev1 => ?_)
      obtain rfl : v1 = 1 := ev1.trans (by decide)
      refine lv_if_eq (tgt := 14) hx hb dX11_paste_4 (by decide) (fun c2 => False.elim (by revert c2; decide)) (fun c3 => ?_)
      refine lv_iload_n hx hb dX11_paste_7 rfl (lv_at hl 3 rfl) ?_
      refine behI (runSP (As := [.int 1]) (rest := []) ⟨hx, hb, hml, hown, ht⟩ (pX11_isSlot l G cs h q 1) okS_RX11_290 ⟨by decide, by decide⟩ hK hP [] rfl hl.1 rfl (Nat.le_of_ble_eq_true rfl) dX11_paste_8 ⟨by decide, by decide⟩) hP hS (fun _ h => h) (fun H locs hP hS => ?_)
      refine lv_topi (fun v4 ev4 => ?_)
      obtain rfl : v4 = 1 := ev4.trans (by decide)
      refine lv_if_ne (tgt := 17) hx hb dX11_paste_11 (by decide) (fun c6 => ?_) (fun c5 => False.elim (by revert c5; decide))
      refine lv_aload_n hx hb dX11_paste_17 rfl (lv_at hl 0 rfl) ?_
      refine getF hx hb ht hown hK hP iTX11 0 31 rfl rfl (by decide) fl_RX11_61 rfl dX11_paste_18 ?_
      refine lv_iload_n hx hb dX11_paste_21 rfl (lv_at hl 1 rfl) ?_
      refine va_iald hx hb hK.1 hP 1 0 rfl rfl (show ¬ (_ ∨ _) by decide) dX11_paste_22 ?_
      refine lv_topi (fun v7 ev7 => ?_)
      obtain rfl : v7 = (-1) := ev7.trans rfl
      refine lv_iconst (v := (-1)) hx hb dX11_paste_23 (by decide) ?_
      refine lv_icmp_eq (tgt := 37) hx hb dX11_paste_24 (by decide) (fun c9 => ?_) (fun c8 => False.elim (by revert c8; decide))
      refine lv_bipush (v := (-6)) hx hb dX11_paste_37 (by decide) ?_
      exact retPi hx hb hr hlk hS dX11_paste_39 (by decide)
    · refine mkP (Qc := QPi (spk 4 3 (spk 4 2 (-6) (-2)) (-2))) (by decide) (by simp [lg_sl, Value.category]) ?_
      intro p e s m args below meth c ls hx hb hml hr hlk hown ht hK hP hS hl
      have hl : lv_has ls 7 [(0, .ref h), (1, .int 3), (2, .int a2), (3, .int 2), (4, .int a4), (5, .int a5)] := hl
      refine lv_iload_n hx hb dX11_paste_0 rfl (lv_at hl 1 rfl) ?_
      refine behI (runSP (As := [.int 3]) (rest := []) ⟨hx, hb, hml, hown, ht⟩ (pX11_isSlot l G cs h q 3) okS_RX11_290 ⟨by decide, by decide⟩ hK hP [] rfl hl.1 rfl (Nat.le_of_ble_eq_true rfl) dX11_paste_1 ⟨by decide, by decide⟩) hP hS (fun _ h => h) (fun H locs hP hS => ?_)
      refine lv_topi (fun v1 ev1 => ?_)
      obtain rfl : v1 = 1 := ev1.trans (by decide)
      refine lv_if_eq (tgt := 14) hx hb dX11_paste_4 (by decide) (fun c2 => False.elim (by revert c2; decide)) (fun c3 => ?_)
      refine lv_iload_n hx hb dX11_paste_7 rfl (lv_at hl 3 rfl) ?_
      refine behI (runSP (As := [.int 2]) (rest := []) ⟨hx, hb, hml, hown, ht⟩ (pX11_isSlot l G cs h q 2) okS_RX11_290 ⟨by decide, by decide⟩ hK hP [] rfl hl.1 rfl (Nat.le_of_ble_eq_true rfl) dX11_paste_8 ⟨by decide, by decide⟩) hP hS (fun _ h => h) (fun H locs hP hS => ?_)
      refine lv_topi (fun v4 ev4 => ?_)
      obtain rfl : v4 = 1 := ev4.trans (by decide)
      refine lv_if_ne (tgt := 17) hx hb dX11_paste_11 (by decide) (fun c6 => ?_) (fun c5 => False.elim (by revert c5; decide))
      refine lv_aload_n hx hb dX11_paste_17 rfl (lv_at hl 0 rfl) ?_
      refine getF hx hb ht hown hK hP iTX11 0 31 rfl rfl (by decide) fl_RX11_61 rfl dX11_paste_18 ?_
      refine lv_iload_n hx hb dX11_paste_21 rfl (lv_at hl 1 rfl) ?_
      refine va_iald hx hb hK.1 hP 1 0 rfl rfl (show ¬ (_ ∨ _) by decide) dX11_paste_22 ?_
      refine lv_topi (fun v7 ev7 => ?_)
      obtain rfl : v7 = (-1) := ev7.trans rfl
      refine lv_iconst (v := (-1)) hx hb dX11_paste_23 (by decide) ?_
      refine lv_icmp_eq (tgt := 37) hx hb dX11_paste_24 (by decide) (fun c9 => ?_) (fun c8 => False.elim (by revert c8; decide))
      refine lv_bipush (v := (-6)) hx hb dX11_paste_37 (by decide) ?_
      exact retPi hx hb hr hlk hS dX11_paste_39 (by decide)
    · refine mkP (Qc := QPi (spk 4 3 (spk 4 3 (-6) (-2)) (-2))) (by decide) (by simp [lg_sl, Value.category]) ?_
      intro p e s m args below meth c ls hx hb hml hr hlk hown ht hK hP hS hl
      have hl : lv_has ls 7 [(0, .ref h), (1, .int 3), (2, .int a2), (3, .int 3), (4, .int a4), (5, .int a5)] := hl
      refine lv_iload_n hx hb dX11_paste_0 rfl (lv_at hl 1 rfl) ?_
      refine behI (runSP (As := [.int 3]) (rest := []) ⟨hx, hb, hml, hown, ht⟩ (pX11_isSlot l G cs h q 3) okS_RX11_290 ⟨by decide, by decide⟩ hK hP [] rfl hl.1 rfl (Nat.le_of_ble_eq_true rfl) dX11_paste_1 ⟨by decide, by decide⟩) hP hS (fun _ h => h) (fun H locs hP hS => ?_)
      refine lv_topi (fun v1 ev1 => ?_)
      obtain rfl : v1 = 1 := ev1.trans (by decide)
      refine lv_if_eq (tgt := 14) hx hb dX11_paste_4 (by decide) (fun c2 => False.elim (by revert c2; decide)) (fun c3 => ?_)
      refine lv_iload_n hx hb dX11_paste_7 rfl (lv_at hl 3 rfl) ?_
      refine behI (runSP (As := [.int 3]) (rest := []) ⟨hx, hb, hml, hown, ht⟩ (pX11_isSlot l G cs h q 3) okS_RX11_290 ⟨by decide, by decide⟩ hK hP [] rfl hl.1 rfl (Nat.le_of_ble_eq_true rfl) dX11_paste_8 ⟨by decide, by decide⟩) hP hS (fun _ h => h) (fun H locs hP hS => ?_)
      refine lv_topi (fun v4 ev4 => ?_)
      obtain rfl : v4 = 1 := ev4.trans (by decide)
      refine lv_if_ne (tgt := 17) hx hb dX11_paste_11 (by decide) (fun c6 => ?_) (fun c5 => False.elim (by revert c5; decide))
      refine lv_aload_n hx hb dX11_paste_17 rfl (lv_at hl 0 rfl) ?_
      refine getF hx hb ht hown hK hP iTX11 0 31 rfl rfl (by decide) fl_RX11_61 rfl dX11_paste_18 ?_
      refine lv_iload_n hx hb dX11_paste_21 rfl (lv_at hl 1 rfl) ?_
      refine va_iald hx hb hK.1 hP 1 0 rfl rfl (show ¬ (_ ∨ _) by decide) dX11_paste_22 ?_
      refine lv_topi (fun v7 ev7 => ?_)
      obtain rfl : v7 = (-1) := ev7.trans rfl
      refine lv_iconst (v := (-1)) hx hb dX11_paste_23 (by decide) ?_
      refine lv_icmp_eq (tgt := 37) hx hb dX11_paste_24 (by decide) (fun c9 => ?_) (fun c8 => False.elim (by revert c8; decide))
      refine lv_bipush (v := (-6)) hx hb dX11_paste_37 (by decide) ?_
      exact retPi hx hb hr hlk hS dX11_paste_39 (by decide)

set_option maxRecDepth 100000 in
set_option maxHeartbeats 4000000 in
theorem pX11_fault (l : Launch) (G : va_G) (cs : Nat → ClassId) (h : Nat) (q : Nat → Nat) (a1 : Int32) : PureI l yX11_fault cX11_fault 2 (some .int) 0 G (TY cs) [.ref h, .int a1] [(mc0 cs h q)] (spf a1) := by
  rcases csf a1 with rfl | rfl | ⟨hf0, hf1⟩
  · refine mkP (Qc := QPi (spf 0)) (by decide) (by simp [lg_sl, Value.category]) ?_
    intro p e s m args below meth c ls hx hb hml hr hlk hown ht hK hP hS hl
    have hl : lv_has ls 2 [(0, .ref h), (1, .int 0)] := hl
    refine lv_iload_n hx hb dX11_fault_0 rfl (lv_at hl 1 rfl) ?_
    refine lv_if_ne (tgt := 11) hx hb dX11_fault_1 (by decide) (fun c1 => False.elim (by revert c1; decide)) (fun c2 => ?_)
    refine lv_aload_n hx hb dX11_fault_4 rfl (lv_at hl 0 rfl) ?_
    refine getF hx hb ht hown hK hP iTX11 0 12 rfl rfl (by decide) fl_RX11_130 rfl dX11_fault_5 ?_
    refine lv_goto (tgt := 24) hx hb dX11_fault_8 (by decide) ?_
    exact retPi hx hb hr hlk hS dX11_fault_24 (by decide)
  · refine mkP (Qc := QPi (spf 1)) (by decide) (by simp [lg_sl, Value.category]) ?_
    intro p e s m args below meth c ls hx hb hml hr hlk hown ht hK hP hS hl
    have hl : lv_has ls 2 [(0, .ref h), (1, .int 1)] := hl
    refine lv_iload_n hx hb dX11_fault_0 rfl (lv_at hl 1 rfl) ?_
    refine lv_if_ne (tgt := 11) hx hb dX11_fault_1 (by decide) (fun c2 => ?_) (fun c1 => False.elim (by revert c1; decide))
    refine lv_iload_n hx hb dX11_fault_11 rfl (lv_at hl 1 rfl) ?_
    refine lv_iconst (v := 1) hx hb dX11_fault_12 (by decide) ?_
    refine lv_icmp_ne (tgt := 23) hx hb dX11_fault_13 (by decide) (fun c3 => False.elim (by revert c3; decide)) (fun c4 => ?_)
    refine lv_aload_n hx hb dX11_fault_16 rfl (lv_at hl 0 rfl) ?_
    refine getF hx hb ht hown hK hP iTX11 0 13 rfl rfl (by decide) fl_RX11_27 rfl dX11_fault_17 ?_
    refine lv_goto (tgt := 24) hx hb dX11_fault_20 (by decide) ?_
    exact retPi hx hb hr hlk hS dX11_fault_24 (by decide)
  · refine mkP (Qc := QPi (spf a1)) (by decide) (by simp [lg_sl, Value.category]) ?_
    intro p e s m args below meth c ls hx hb hml hr hlk hown ht hK hP hS hl
    have hl : lv_has ls 2 [(0, .ref h), (1, .int a1)] := hl
    refine lv_iload_n hx hb dX11_fault_0 rfl (lv_at hl 1 rfl) ?_
    refine lv_if_ne (tgt := 11) hx hb dX11_fault_1 (by decide) (fun c2 => ?_) (fun c1 => False.elim (by have z0 := neT hf0; have z1 := neT hf1; have z2 := eqT c1; have k0 : (0 : Int32).toInt = 0 := (by decide); have k1 : (1 : Int32).toInt = 1 := (by decide); omega))
    refine lv_iload_n hx hb dX11_fault_11 rfl (lv_at hl 1 rfl) ?_
    refine lv_iconst (v := 1) hx hb dX11_fault_12 (by decide) ?_
    refine lv_icmp_ne (tgt := 23) hx hb dX11_fault_13 (by decide) (fun c4 => ?_) (fun c3 => False.elim (by have z0 := neT hf0; have z1 := neT hf1; have z2 := eqT c3; have k0 : (0 : Int32).toInt = 0 := (by decide); have k1 : (1 : Int32).toInt = 1 := (by decide); omega))
    refine lv_iconst (v := (-1)) hx hb dX11_fault_23 (by decide) ?_
    exact retPi hx hb hr hlk hS dX11_fault_24 ((if_neg hf0).symm)

