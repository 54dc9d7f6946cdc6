set_option maxRecDepth 100000 in
set_option maxHeartbeats 8000000 in
theorem dX11_row (l : Launch) (G : va_G) (cs : Nat → ClassId) (h : Nat) (q : Nat → Nat) (a1 a2 a3 : Int32) : ImpI l yX11_row cX11_row 5 (some .int) 2 0 0 G (TY cs) [.ref h, .int a1, .int a2, .int a3] [(mc0 cs h q), (mc31 cs h q), (mc32 cs h q), (mc33 cs h q)] (fun (r : Int32) (_ : Unit) => r = (spk 4 a1 (spr a2 a3) (-2))) (fun _ : Unit => []) := by
  rcases cs4 a1 with hn0 | hb0 | rfl | rfl | rfl | rfl
  · refine mkD (Qc := (QDi G (fun (r : Int32) (_ : Unit) => r = (spk 4 a1 (spr a2 a3) (-2))) (fun _ : Unit => []))) (by decide) (by simp [lg_sl, Value.category]) ?_
    intro p e s m args below meth c ls A hx hb hml hr hlk hown hmn ht hK hP hD hS hA hl
    have hl : lv_has ls 5 [(0, .ref h), (1, .int a1), (2, .int a2), (3, .int a3)] := hl
    refine lv_iload_n hx hb dX11_row_0 rfl (lv_at hl 1 rfl) ?_
    refine behI (runSP (As := [.int a1]) (rest := []) ⟨hx, hb, hml, hown, ht⟩ (pX11_isSlot l G cs h q a1) okS_RX11_290 ⟨by decide, by decide⟩ hK hP [] rfl hl.1 rfl (Nat.le_of_ble_eq_true rfl) dX11_row_1 ⟨by decide, by decide⟩) hP hS hA (fun H locs hP hS => ?_)
    refine lv_topi (fun v1 ev1 => ?_)
    obtain rfl : v1 = 0 := ev1.trans (inF_n (by have z0 := ltT hn0; have k0 : (0 : Int32).toInt = 0 := (by decide); have K0 : (0 : Int64).toInt = 0 := (by decide); have K1 : (3 : Int64).toInt = 3 := (by decide); omega))
    refine lv_if_eq (tgt := 25) hx hb dX11_row_4 (by decide) (fun c3 => ?_) (fun c2 => False.elim (by revert c2; decide))
    refine lv_bipush (v := (-2)) hx hb dX11_row_25 (by decide) ?_
    exact retDi () hx hb hr hlk (hP.sub [] rfl) (hD.sub [] (by decide) rfl) hS dX11_row_27 ((spk_lo hn0).symm) (Nat.le_of_ble_eq_true rfl) (Nat.le_of_ble_eq_true rfl)
  · refine mkD (Qc := (QDi G (fun (r : Int32) (_ : Unit) => r = (spk 4 a1 (spr a2 a3) (-2))) (fun _ : Unit => []))) (by decide) (by simp [lg_sl, Value.category]) ?_
    intro p e s m args below meth c ls A hx hb hml hr hlk hown hmn ht hK hP hD hS hA hl
    have hl : lv_has ls 5 [(0, .ref h), (1, .int a1), (2, .int a2), (3, .int a3)] := hl
    refine lv_iload_n hx hb dX11_row_0 rfl (lv_at hl 1 rfl) ?_
    refine behI (runSP (As := [.int a1]) (rest := []) ⟨hx, hb, hml, hown, ht⟩ (pX11_isSlot l G cs h q a1) okS_RX11_290 ⟨by decide, by decide⟩ hK hP [] rfl hl.1 rfl (Nat.le_of_ble_eq_true rfl) dX11_row_1 ⟨by decide, by decide⟩) hP hS hA (fun H locs hP hS => ?_)
    refine lv_topi (fun v1 ev1 => ?_)
    obtain rfl : v1 = 0 := ev1.trans (inF_n (by have z0 := leT hb0; have k0 : (4 : Int32).toInt = 4 := (by decide); have K0 : (0 : Int64).toInt = 0 := (by decide); have K1 : (3 : Int64).toInt = 3 := (by decide); omega))
    refine lv_if_eq (tgt := 25) hx hb dX11_row_4 (by decide) (fun c3 => ?_) (fun c2 => False.elim (by revert c2; decide))
    refine lv_bipush (v := (-2)) hx hb dX11_row_25 (by decide) ?_
    exact retDi () hx hb hr hlk (hP.sub [] rfl) (hD.sub [] (by decide) rfl) hS dX11_row_27 ((spk_hi (by decide) hb0).symm) (Nat.le_of_ble_eq_true rfl) (Nat.le_of_ble_eq_true rfl)
  · rcases csr a2 a3 with hw | hw | ⟨hw0, hw3, hm⟩ | ⟨hw0, hw3, hm⟩ | ⟨hw0, hw3, hm0, hm60⟩
    · refine mkD (Qc := (QDi G (fun (r : Int32) (_ : Unit) => r = (spk 4 0 (spr a2 a3) (-2))) (fun _ : Unit => []))) (by decide) (by simp [lg_sl, Value.category]) ?_
      intro p e s m args below meth c ls A hx hb hml hr hlk hown hmn ht hK hP hD hS hA hl
      have hl : lv_has ls 5 [(0, .ref h), (1, .int 0), (2, .int a2), (3, .int a3)] := hl
      refine lv_iload_n hx hb dX11_row_0 rfl (lv_at hl 1 rfl) ?_
      refine behI (runSP (As := [.int 0]) (rest := []) ⟨hx, hb, hml, hown, ht⟩ (pX11_isSlot l G cs h q 0) okS_RX11_290 ⟨by decide, by decide⟩ hK hP [] rfl hl.1 rfl (Nat.le_of_ble_eq_true rfl) dX11_row_1 ⟨by decide, by decide⟩) hP hS hA (fun H locs hP hS => ?_)
      refine lv_topi (fun v1 ev1 => ?_)
      obtain rfl : v1 = 1 := ev1.trans (by decide)
      refine lv_if_eq (tgt := 25) hx hb dX11_row_4 (by decide) (fun c2 => False.elim (by revert c2; decide)) (fun c3 => ?_)
      refine lv_iload_n hx hb dX11_row_7 rfl (lv_at hl 2 rfl) ?_
      refine lv_i2l hx hb dX11_row_8 rfl ?_
      refine lv_lconst (v := 0) hx hb dX11_row_9 (by decide) ?_
      refine lv_ldc2 hx hb hown (ht _ kl_RX11_225) dX11_row_10 ?_
      refine behI (runSP (As := [.long a2.toInt64, .long 0, .long 3]) (rest := []) ⟨hx, hb, hml, hown, ht⟩ (pX11_in l G cs h q a2.toInt64 0 3) okS_RX11_79 ⟨by decide, by decide⟩ hK hP [] rfl hl.1 rfl (Nat.le_of_ble_eq_true rfl) dX11_row_13 ⟨by decide, by decide⟩) hP hS hA (fun H locs hP hS => ?_)
      refine lv_topi (fun v4 ev4 => ?_)
      obtain rfl : v4 = 0 := ev4.trans (inF_n (by have z0 := ltT hw; have k0 : (0 : Int32).toInt = 0 := (by decide); have K0 : (0 : Int64).toInt = 0 := (by decide); have K1 : (3 : Int64).toInt = 3 := (by decide); omega))
      refine lv_if_eq (tgt := 25) hx hb dX11_row_16 (by decide) (fun c6 => ?_) (fun c5 => False.elim (by revert c5; decide))
      refine lv_bipush (v := (-2)) hx hb dX11_row_25 (by decide) ?_
      exact retDi () hx hb hr hlk (hP.sub [] rfl) (hD.sub [] (by decide) rfl) hS dX11_row_27 ((show _ = spk 4 _ (spr a2 a3) (-2) by rw [spr_w0 hw]; decide)) (Nat.le_of_ble_eq_true rfl) (Nat.le_of_ble_eq_true rfl)
    · refine mkD (Qc := (QDi G (fun (r : Int32) (_ : Unit) => r = (spk 4 0 (spr a2 a3) (-2))) (fun _ : Unit => []))) (by decide) (by simp [lg_sl, Value.category]) ?_
      intro p e s m args below meth c ls A hx hb hml hr hlk hown hmn ht hK hP hD hS hA hl
      have hl : lv_has ls 5 [(0, .ref h), (1, .int 0), (2, .int a2), (3, .int a3)] := hl
      refine lv_iload_n hx hb dX11_row_0 rfl (lv_at hl 1 rfl) ?_
      refine behI (runSP (As := [.int 0]) (rest := []) ⟨hx, hb, hml, hown, ht⟩ (pX11_isSlot l G cs h q 0) okS_RX11_290 ⟨by decide, by decide⟩ hK hP [] rfl hl.1 rfl (Nat.le_of_ble_eq_true rfl) dX11_row_1 ⟨by decide, by decide⟩) hP hS hA (fun H locs hP hS => ?_)
      refine lv_topi (fun v1 ev1 => ?_)
      obtain rfl : v1 = 1 := ev1.trans (by decide)
      refine lv_if_eq (tgt := 25) hx hb dX11_row_4 (by decide) (fun c2 => False.elim (by revert c2; decide)) (fun c3 => ?_)
      refine lv_iload_n hx hb dX11_row_7 rfl (lv_at hl 2 rfl) ?_
      refine lv_i2l hx hb dX11_row_8 rfl ?_
      refine lv_lconst (v := 0) hx hb dX11_row_9 (by decide) ?_
      refine lv_ldc2 hx hb hown (ht _ kl_RX11_225) dX11_row_10 ?_
      refine behI (runSP (As := [.long a2.toInt64, .long 0, .long 3]) (rest := []) ⟨hx, hb, hml, hown, ht⟩ (pX11_in l G cs h q a2.toInt64 0 3) okS_RX11_79 ⟨by decide, by decide⟩ hK hP [] rfl hl.1 rfl (Nat.le_of_ble_eq_true rfl) dX11_row_13 ⟨by decide, by decide⟩) hP hS hA (fun H locs hP hS => ?_)
      refine lv_topi (fun v4 ev4 => ?_)
      obtain rfl : v4 = 0 := ev4.trans (inF_n (by have z0 := ltT hw; have k0 : (3 : Int32).toInt = 3 := (by decide); have K0 : (0 : Int64).toInt = 0 := (by decide); have K1 : (3 : Int64).toInt = 3 := (by decide); omega))
      refine lv_if_eq (tgt := 25) hx hb dX11_row_16 (by decide) (fun c6 => ?_) (fun c5 => False.elim (by revert c5; decide))
      refine lv_bipush (v := (-2)) hx hb dX11_row_25 (by decide) ?_
      exact retDi () hx hb hr hlk (hP.sub [] rfl) (hD.sub [] (by decide) rfl) hS dX11_row_27 ((show _ = spk 4 _ (spr a2 a3) (-2) by rw [spr_w3 hw]; decide)) (Nat.le_of_ble_eq_true rfl) (Nat.le_of_ble_eq_true rfl)
    · refine mkD (Qc := (QDi G (fun (r : Int32) (_ : Unit) => r = (spk 4 0 (spr a2 a3) (-2))) (fun _ : Unit => []))) (by decide) (by simp [lg_sl, Value.category]) ?_
      intro p e s m args below meth c ls A hx hb hml hr hlk hown hmn ht hK hP hD hS hA hl
      have hl : lv_has ls 5 [(0, .ref h), (1, .int 0), (2, .int a2), (3, .int a3)] := hl
      refine lv_iload_n hx hb dX11_row_0 rfl (lv_at hl 1 rfl) ?_
      refine behI (runSP (As := [.int 0]) (rest := []) ⟨hx, hb, hml, hown, ht⟩ (pX11_isSlot l G cs h q 0) okS_RX11_290 ⟨by decide, by decide⟩ hK hP [] rfl hl.1 rfl (Nat.le_of_ble_eq_true rfl) dX11_row_1 ⟨by decide, by decide⟩) hP hS hA (fun H locs hP hS => ?_)
      refine lv_topi (fun v1 ev1 => ?_)
      obtain rfl : v1 = 1 := ev1.trans (by decide)
      refine lv_if_eq (tgt := 25) hx hb dX11_row_4 (by decide) (fun c2 => False.elim (by revert c2; decide)) (fun c3 => ?_)
      refine lv_iload_n hx hb dX11_row_7 rfl (lv_at hl 2 rfl) ?_
      refine lv_i2l hx hb dX11_row_8 rfl ?_
      refine lv_lconst (v := 0) hx hb dX11_row_9 (by decide) ?_
      refine lv_ldc2 hx hb hown (ht _ kl_RX11_225) dX11_row_10 ?_
      refine behI (runSP (As := [.long a2.toInt64, .long 0, .long 3]) (rest := []) ⟨hx, hb, hml, hown, ht⟩ (pX11_in l G cs h q a2.toInt64 0 3) okS_RX11_79 ⟨by decide, by decide⟩ hK hP [] rfl hl.1 rfl (Nat.le_of_ble_eq_true rfl) dX11_row_13 ⟨by decide, by decide⟩) hP hS hA (fun H locs hP hS => ?_)
      refine lv_topi (fun v4 ev4 => ?_)
      obtain rfl : v4 = 1 := ev4.trans (inF_y (by have z0 := nltT hw0; have z1 := nltT hw3; have k0 : (0 : Int32).toInt = 0 := (by decide); have k1 : (3 : Int32).toInt = 3 := (by decide); have K0 : (0 : Int64).toInt = 0 := (by decide); have K1 : (3 : Int64).toInt = 3 := (by decide); omega))
      refine lv_if_eq (tgt := 25) hx hb dX11_row_16 (by decide) (fun c5 => False.elim (by revert c5; decide)) (fun c6 => ?_)
      refine lv_iload_n hx hb dX11_row_19 rfl (lv_at hl 3 rfl) ?_
      refine lv_bipush (v := 60) hx hb dX11_row_20 (by decide) ?_
      refine lv_icmp_le (tgt := 28) hx hb dX11_row_22 (by decide) (fun c7 => False.elim (by have z0 := ltT hm; have z1 := leT c7; have k0 : (60 : Int32).toInt = 60 := (by decide); omega)) (fun c8 => ?_)
      refine lv_bipush (v := (-2)) hx hb dX11_row_25 (by decide) ?_
      exact retDi () hx hb hr hlk (hP.sub [] rfl) (hD.sub [] (by decide) rfl) hS dX11_row_27 ((show _ = spk 4 _ (spr a2 a3) (-2) by rw [spr_m60 hw0 hw3 hm]; decide)) (Nat.le_of_ble_eq_true rfl) (Nat.le_of_ble_eq_true rfl)
    · refine mkD (Qc := (QDi G (fun (r : Int32) (_ : Unit) => r = (spk 4 0 (spr a2 a3) (-2))) (fun _ : Unit => []))) (by decide) (by simp [lg_sl, Value.category]) ?_
      intro p e s m args below meth c ls A hx hb hml hr hlk hown hmn ht hK hP hD hS hA hl
      have hl : lv_has ls 5 [(0, .ref h), (1, .int 0), (2, .int a2), (3, .int a3)] := hl
      refine lv_iload_n hx hb dX11_row_0 rfl (lv_at hl 1 rfl) ?_
      refine behI (runSP (As := [.int 0]) (rest := []) ⟨hx, hb, hml, hown, ht⟩ (pX11_isSlot l G cs h q 0) okS_RX11_290 ⟨by decide, by decide⟩ hK hP [] rfl hl.1 rfl (Nat.le_of_ble_eq_true rfl) dX11_row_1 ⟨by decide, by decide⟩) hP hS hA (fun H locs hP hS => ?_)
      refine lv_topi (fun v1 ev1 => ?_)
      obtain rfl : v1 = 1 := ev1.trans (by decide)
      refine lv_if_eq (tgt := 25) hx hb dX11_row_4 (by decide) (fun c2 => False.elim (by revert c2; decide)) (fun c3 => ?_)
      refine lv_iload_n hx hb dX11_row_7 rfl (lv_at hl 2 rfl) ?_
      refine lv_i2l hx hb dX11_row_8 rfl ?_
      refine lv_lconst (v := 0) hx hb dX11_row_9 (by decide) ?_
      refine lv_ldc2 hx hb hown (ht _ kl_RX11_225) dX11_row_10 ?_
      refine behI (runSP (As := [.long a2.toInt64, .long 0, .long 3]) (rest := []) ⟨hx, hb, hml, hown, ht⟩ (pX11_in l G cs h q a2.toInt64 0 3) okS_RX11_79 ⟨by decide, by decide⟩ hK hP [] rfl hl.1 rfl (Nat.le_of_ble_eq_true rfl) dX11_row_13 ⟨by decide, by decide⟩) hP hS hA (fun H locs hP hS => ?_)
      refine lv_topi (fun v4 ev4 => ?_)
      obtain rfl : v4 = 1 := ev4.trans (inF_y (by have z0 := nltT hw0; have z1 := nltT hw3; have k0 : (0 : Int32).toInt = 0 := (by decide); have k1 : (3 : Int32).toInt = 3 := (by decide); have K0 : (0 : Int64).toInt = 0 := (by decide); have K1 : (3 : Int64).toInt = 3 := (by decide); omega))
      refine lv_if_eq (tgt := 25) hx hb dX11_row_16 (by decide) (fun c5 => False.elim (by revert c5; decide)) (fun c6 => ?_)
      refine lv_iload_n hx hb dX11_row_19 rfl (lv_at hl 3 rfl) ?_
      refine lv_bipush (v := 60) hx hb dX11_row_20 (by decide) ?_
      refine lv_icmp_le (tgt := 28) hx hb dX11_row_22 (by decide) (fun c8 => ?_) (fun c7 => False.elim (by have z0 := ltT hm; have z1 := nleT c7; have k0 : (0 : Int32).toInt = 0 := (by decide); have k1 : (60 : Int32).toInt = 60 := (by decide); omega))
      refine lv_iload_n hx hb dX11_row_28 rfl (lv_at hl 3 rfl) ?_
      refine lv_if_ge (tgt := 35) hx hb dX11_row_29 (by decide) (fun c9 => False.elim (by have z0 := nltT hw0; have z1 := ltT hm; have z2 := leT c9; have k0 : (0 : Int32).toInt = 0 := (by decide); omega)) (fun c10 => ?_)
      refine lv_bipush (v := (-3)) hx hb dX11_row_32 (by decide) ?_
      exact retDi () hx hb hr hlk (hP.sub [] rfl) (hD.sub [] (by decide) rfl) hS dX11_row_34 ((show _ = spk 4 _ (spr a2 a3) (-2) by rw [spr_m0 hw0 hw3 hm]; decide)) (Nat.le_of_ble_eq_true rfl) (Nat.le_of_ble_eq_true rfl)
    · refine mkD (Qc := (QDi G (fun (r : Int32) (_ : Unit) => r = (spk 4 0 (spr a2 a3) (-2))) (fun _ : Unit => []))) (by decide) (by simp [lg_sl, Value.category]) ?_
      intro p e s m args below meth c ls A hx hb hml hr hlk hown hmn ht hK hP hD hS hA hl
      have hl : lv_has ls 5 [(0, .ref h), (1, .int 0), (2, .int a2), (3, .int a3)] := hl
      refine lv_iload_n hx hb dX11_row_0 rfl (lv_at hl 1 rfl) ?_
      refine behI (runSP (As := [.int 0]) (rest := []) ⟨hx, hb, hml, hown, ht⟩ (pX11_isSlot l G cs h q 0) okS_RX11_290 ⟨by decide, by decide⟩ hK hP [] rfl hl.1 rfl (Nat.le_of_ble_eq_true rfl) dX11_row_1 ⟨by decide, by decide⟩) hP hS hA (fun H locs hP hS => ?_)
      refine lv_topi (fun v1 ev1 => ?_)
      obtain rfl : v1 = 1 := ev1.trans (by decide)
      refine lv_if_eq (tgt := 25) hx hb dX11_row_4 (by decide) (fun c2 => False.elim (by revert c2; decide)) (fun c3 => ?_)
      refine lv_iload_n hx hb dX11_row_7 rfl (lv_at hl 2 rfl) ?_
      refine lv_i2l hx hb dX11_row_8 rfl ?_
      refine lv_lconst (v := 0) hx hb dX11_row_9 (by decide) ?_
      refine lv_ldc2 hx hb hown (ht _ kl_RX11_225) dX11_row_10 ?_
      refine behI (runSP (As := [.long a2.toInt64, .long 0, .long 3]) (rest := []) ⟨hx, hb, hml, hown, ht⟩ (pX11_in l G cs h q a2.toInt64 0 3) okS_RX11_79 ⟨by decide, by decide⟩ hK hP [] rfl hl.1 rfl (Nat.le_of_ble_eq_true rfl) dX11_row_13 ⟨by decide, by decide⟩) hP hS hA (fun H locs hP hS => ?_)
      refine lv_topi (fun v4 ev4 => ?_)
      obtain rfl : v4 = 1 := ev4.trans (inF_y (by have z0 := nltT hw0; have z1 := nltT hw3; have k0 : (0 : Int32).toInt = 0 := (by decide); have k1 : (3 : Int32).toInt = 3 := (by decide); have K0 : (0 : Int64).toInt = 0 := (by decide); have K1 : (3 : Int64).toInt = 3 := (by decide); omega))
      refine lv_if_eq (tgt := 25) hx hb dX11_row_16 (by decide) (fun c5 => False.elim (by revert c5; decide)) (fun c6 => ?_)
      refine lv_iload_n hx hb dX11_row_19 rfl (lv_at hl 3 rfl) ?_
      refine lv_bipush (v := 60) hx hb dX11_row_20 (by decide) ?_
      refine lv_icmp_le (tgt := 28) hx hb dX11_row_22 (by decide) (fun c8 => ?_) (fun c7 => False.elim (by have z0 := nltT hm0; have z1 := nltT hm60; have z2 := nleT c7; have k0 : (0 : Int32).toInt = 0 := (by decide); have k1 : (60 : Int32).toInt = 60 := (by decide); omega))
      refine lv_iload_n hx hb dX11_row_28 rfl (lv_at hl 3 rfl) ?_
      refine lv_if_ge (tgt := 35) hx hb dX11_row_29 (by decide) (fun c10 => ?_) (fun c9 => False.elim (by have z0 := nltT hw0; have z1 := nltT hm0; have z2 := nltT hm60; have z3 := nleT c9; have k0 : (0 : Int32).toInt = 0 := (by decide); have k1 : (60 : Int32).toInt = 60 := (by decide); omega))
      refine lv_aload_n hx hb dX11_row_35 rfl (lv_at hl 0 rfl) ?_
      refine getF hx hb ht hown hK hP iTX11 0 31 rfl rfl (by decide) fl_RX11_61 rfl dX11_row_36 ?_
      refine lv_iload_n hx hb dX11_row_39 rfl (lv_at hl 1 rfl) ?_
      refine lv_iload_n hx hb dX11_row_40 rfl (lv_at hl 3 rfl) ?_
      refine va_iast hx hb hK.1 hP hD hS 1 0 rfl rfl (show ¬ (_ ∨ _) by decide) dX11_row_41 (fun H locs hP hD hS => ?_)
      obtain ⟨f11, hP, hD⟩ : ∃ f11 : Nat → Int32, va_P G vwCl [(mc0 cs h q), (q 31, .inl (cs 0, 4, .inl f11)), (mc32 cs h q), (mc33 cs h q)] H ∧ va_D A [(mc0 cs h q), (q 31, .inl (cs 0, 4, .inl f11)), (mc32 cs h q), (mc33 cs h q)] := ⟨_, hP, hD⟩
      refine lv_aload_n hx hb dX11_row_42 rfl (lv_at hl 0 rfl) ?_
      refine getF hx hb ht hown hK hP iTX11 0 32 rfl rfl (by decide) fl_RX11_64 rfl dX11_row_43 ?_
      refine lv_iload_n hx hb dX11_row_46 rfl (lv_at hl 1 rfl) ?_
      refine lv_iload_n hx hb dX11_row_47 rfl (lv_at hl 2 rfl) ?_
      refine va_iast hx hb hK.1 hP hD hS 2 0 rfl rfl (show ¬ (_ ∨ _) by decide) dX11_row_48 (fun H locs hP hD hS => ?_)
      obtain ⟨f12, hP, hD⟩ : ∃ f12 : Nat → Int32, va_P G vwCl [(mc0 cs h q), (q 31, .inl (cs 0, 4, .inl f11)), (q 32, .inl (cs 0, 4, .inl f12)), (mc33 cs h q)] H ∧ va_D A [(mc0 cs h q), (q 31, .inl (cs 0, 4, .inl f11)), (q 32, .inl (cs 0, 4, .inl f12)), (mc33 cs h q)] := ⟨_, hP, hD⟩
      refine lv_iconst (v := 0) hx hb dX11_row_49 (by decide) ?_
      refine lv_istore (lv' := [(4, .int 0), (0, .ref h), (1, .int 0), (2, .int a2), (3, .int a3)]) hx hb dX11_row_50 hl (by decide) rfl (fun ls hl => ?_)
      have loop13 : ∀ (k i : Nat) (g1 : Nat → Int64) (H : Heap) (locs : List Loc) (ls : Array Slot), i + k = 60 → va_P G vwCl [(mc0 cs h q), (q 31, .inl (cs 0, 4, .inl f11)), (q 32, .inl (cs 0, 4, .inl f12)), (q 33, .inl (cs 2, 240, .inr (.inl g1)))] H → va_D A [(mc0 cs h q), (q 31, .inl (cs 0, 4, .inl f11)), (q 32, .inl (cs 0, 4, .inl f12)), (q 33, .inl (cs 2, 240, .inr (.inl g1)))] → va_S A s.heap H locs → lv_has ls 5 [(4, .int (nI i)), (0, .ref h), (1, .int 0), (2, .int a2), (3, .int a3)] → W p l e (rmk 2 0 0) s m args below meth c H locs 0 0 (MQ below ((QDi G (fun (r : Int32) (_ : Unit) => r = (spk 4 0 (spr a2 a3) (-2))) (fun _ : Unit => [])) A) args s 0 0 A) (F0 m 52 ls []) := by
        intro k
        induction k with
        | zero =>
          intro i g1 H locs ls hi hP hD hS hl
          refine lv_iload hx hb dX11_row_52 (lv_at hl 0 rfl) ?_
          refine lv_bipush (v := 60) hx hb dX11_row_54 (by decide) ?_
          refine lv_icmp_ge (tgt := 78) hx hb dX11_row_56 (by decide) (fun _ => ?_) (fun c9 => False.elim (c9 (by obtain rfl : i = 60 := (by omega); decide)))
          refine lv_iconst (v := 0) hx hb dX11_row_78 (by decide) ?_
          exact retDi () hx hb hr hlk (hP.sub [] rfl) (hD.sub [] (by decide) rfl) hS dX11_row_79 ((show _ = spk 4 _ (spr a2 a3) (-2) by rw [spr_ok hw0 hw3 hm0 hm60]; decide)) (Nat.le_of_ble_eq_true rfl) (Nat.le_of_ble_eq_true rfl)
        | succ k ih =>
          intro i g1 H locs ls hi hP hD hS hl
          refine lv_iload hx hb dX11_row_52 (lv_at hl 0 rfl) ?_
          refine lv_bipush (v := 60) hx hb dX11_row_54 (by decide) ?_
          refine lv_icmp_ge (tgt := 78) hx hb dX11_row_56 (by decide) (fun c9 => absurd c9 (nI_ge (b := 60) (by omega) (by decide))) (fun _ => ?_)
          refine lv_aload_n hx hb dX11_row_59 rfl (lv_at hl 1 rfl) ?_
          refine getF hx hb ht hown hK hP iTX11 0 33 rfl rfl (by decide) fl_RX11_67 rfl dX11_row_60 ?_
          refine lv_bipush (v := 60) hx hb dX11_row_63 (by decide) ?_
          refine lv_iload_n hx hb dX11_row_65 rfl (lv_at hl 2 rfl) ?_
          refine lv_imul hx hb dX11_row_66 ?_
          refine lv_topi (fun v14 ev14 => ?_)
          obtain rfl : v14 = 0 := ev14.trans (by decide)
          refine lv_iload hx hb dX11_row_67 (lv_at hl 0 rfl) ?_
          refine lv_iadd hx hb dX11_row_69 ?_
          refine lv_topi (fun v15 ev15 => ?_)
          obtain rfl : v15 = (nI i) := ev15.trans ((nI_add 0 i).trans (congrArg nI (Nat.zero_add i)))
          refine lv_lconst (v := 0) hx hb dX11_row_70 (by decide) ?_
          refine va_last hx hb hK.1 hP hD hS 3 2 rfl rfl (vp_in_nI (by omega) (by decide)) dX11_row_71 (fun H locs hP hD hS => ?_)
          obtain ⟨f16, hP, hD⟩ : ∃ f16 : Nat → Int64, va_P G vwCl [(mc0 cs h q), (q 31, .inl (cs 0, 4, .inl f11)), (q 32, .inl (cs 0, 4, .inl f12)), (q 33, .inl (cs 2, 240, .inr (.inl f16)))] H ∧ va_D A [(mc0 cs h q), (q 31, .inl (cs 0, 4, .inl f11)), (q 32, .inl (cs 0, 4, .inl f12)), (q 33, .inl (cs 2, 240, .inr (.inl f16)))] := ⟨_, hP, hD⟩
          refine lv_iinc (v := (nI (i + 1))) (lv' := [(4, .int (nI (i + 1))), (0, .ref h), (1, .int 0), (2, .int a2), (3, .int a3)]) hx hb dX11_row_72 hl (k := 0) rfl (nI_1 _) (by decide) rfl (fun ls hl => ?_)
          refine lv_goto (tgt := 52) hx hb dX11_row_75 (by decide) ?_
          exact ih (i + 1) f16 H locs ls (by omega) hP hD hS (lv_sub hl [0, 1, 2, 3, 4] rfl)
      exact loop13 60 0 (fun _ => 0) H locs ls (by omega) hP hD hS (lv_sub hl [0, 1, 2, 3, 4] rfl)
  · rcases csr a2 a3 with hw | hw | ⟨hw0, hw3, hm⟩ | ⟨hw0, hw3, hm⟩ | ⟨hw0, hw3, hm0, hm60⟩
    · refine mkD (Qc := (QDi G (fun (r : Int32) (_ : Unit) => r = (spk 4 1 (spr a2 a3) (-2))) (fun _ : Unit => []))) (by decide) (by simp [lg_sl, Value.category]) ?_
      intro p e s m args below meth c ls A hx hb hml hr hlk hown hmn ht hK hP hD hS hA hl
      have hl : lv_has ls 5 [(0, .ref h), (1, .int 1), (2, .int a2), (3, .int a3)] := hl
      refine lv_iload_n hx hb dX11_row_0 rfl (lv_at hl 1 rfl) ?_
      refine behI (runSP (As := [.int 1]) (rest := []) ⟨hx, hb, hml, hown, ht⟩ (pX11_isSlot l G cs h q 1) okS_RX11_290 ⟨by decide, by decide⟩ hK hP [] rfl hl.1 rfl (Nat.le_of_ble_eq_true rfl) dX11_row_1 ⟨by decide, by decide⟩) hP hS hA (fun H locs hP hS => ?_)
      refine lv_topi (fun v1 ev1 => ?_)
      obtain rfl : v1 = 1 := ev1.trans (by decide)
      refine lv_if_eq (tgt := 25) hx hb dX11_row_4 (by decide) (fun c2 => False.elim (by revert c2; decide)) (fun c3 => ?_)
      refine lv_iload_n hx hb dX11_row_7 rfl (lv_at hl 2 rfl) ?_
      refine lv_i2l hx hb dX11_row_8 rfl ?_
      refine lv_lconst (v := 0) hx hb dX11_row_9 (by decide) ?_
      refine lv_ldc2 hx hb hown (ht _ kl_RX11_225) dX11_row_10 ?_
      refine behI (runSP (As := [.long a2.toInt64, .long 0, .long 3]) (rest := []) ⟨hx, hb, hml, hown, ht⟩ (pX11_in l G cs h q a2.toInt64 0 3) okS_RX11_79 ⟨by decide, by decide⟩ hK hP [] rfl hl.1 rfl (Nat.le_of_ble_eq_true rfl) dX11_row_13 ⟨by decide, by decide⟩) hP hS hA (fun H locs hP hS => ?_)
      refine lv_topi (fun v4 ev4 => ?_)
      obtain rfl : v4 = 0 := ev4.trans (inF_n (by have z0 := ltT hw; have k0 : (0 : Int32).toInt = 0 := (by decide); have K0 : (0 : Int64).toInt = 0 := (by decide); have K1 : (3 : Int64).toInt = 3 := (by decide); omega))
      refine lv_if_eq (tgt := 25) hx hb dX11_row_16 (by decide) (fun c6 => ?_) (fun c5 => False.elim (by revert c5; decide))
      refine lv_bipush (v := (-2)) hx hb dX11_row_25 (by decide) ?_
      exact retDi () hx hb hr hlk (hP.sub [] rfl) (hD.sub [] (by decide) rfl) hS dX11_row_27 ((show _ = spk 4 _ (spr a2 a3) (-2) by rw [spr_w0 hw]; decide)) (Nat.le_of_ble_eq_true rfl) (Nat.le_of_ble_eq_true rfl)
    · refine mkD (Qc := (QDi G (fun (r : Int32) (_ : Unit) => r = (spk 4 1 (spr a2 a3) (-2))) (fun _ : Unit => []))) (by decide) (by simp [lg_sl, Value.category]) ?_
      intro p e s m args below meth c ls A hx hb hml hr hlk hown hmn ht hK hP hD hS hA hl
      have hl : lv_has ls 5 [(0, .ref h), (1, .int 1), (2, .int a2), (3, .int a3)] := hl
      refine lv_iload_n hx hb dX11_row_0 rfl (lv_at hl 1 rfl) ?_
      refine behI (runSP (As := [.int 1]) (rest := []) ⟨hx, hb, hml, hown, ht⟩ (pX11_isSlot l G cs h q 1) okS_RX11_290 ⟨by decide, by decide⟩ hK hP [] rfl hl.1 rfl (Nat.le_of_ble_eq_true rfl) dX11_row_1 ⟨by decide, by decide⟩) hP hS hA (fun H locs hP hS => ?_)
      refine lv_topi (fun v1 ev1 => ?_)
      obtain rfl : v1 = 1 := ev1.trans (by decide)
      refine lv_if_eq (tgt := 25) hx hb dX11_row_4 (by decide) (fun c2 => False.elim (by revert c2; decide)) (fun c3 => ?_)
      refine lv_iload_n hx hb dX11_row_7 rfl (lv_at hl 2 rfl) ?_
      refine lv_i2l hx hb dX11_row_8 rfl ?_
      refine lv_lconst (v := 0) hx hb dX11_row_9 (by decide) ?_
      refine lv_ldc2 hx hb hown (ht _ kl_RX11_225) dX11_row_10 ?_
      refine behI (runSP (As := [.long a2.toInt64, .long 0, .long 3]) (rest := []) ⟨hx, hb, hml, hown, ht⟩ (pX11_in l G cs h q a2.toInt64 0 3) okS_RX11_79 ⟨by decide, by decide⟩ hK hP [] rfl hl.1 rfl (Nat.le_of_ble_eq_true rfl) dX11_row_13 ⟨by decide, by decide⟩) hP hS hA (fun H locs hP hS => ?_)
      refine lv_topi (fun v4 ev4 => ?_)
      obtain rfl : v4 = 0 := ev4.trans (inF_n (by have z0 := ltT hw; have k0 : (3 : Int32).toInt = 3 := (by decide); have K0 : (0 : Int64).toInt = 0 := (by decide); have K1 : (3 : Int64).toInt = 3 := (by decide); omega))
      refine lv_if_eq (tgt := 25) hx hb dX11_row_16 (by decide) (fun c6 => ?_) (fun c5 => False.elim (by revert c5; decide))
      refine lv_bipush (v := (-2)) hx hb dX11_row_25 (by decide) ?_
      exact retDi () hx hb hr hlk (hP.sub [] rfl) (hD.sub [] (by decide) rfl) hS dX11_row_27 ((show _ = spk 4 _ (spr a2 a3) (-2) by rw [spr_w3 hw]; decide)) (Nat.le_of_ble_eq_true rfl) (Nat.le_of_ble_eq_true rfl)
    · refine mkD (Qc := (QDi G (fun (r : Int32) (_ : Unit) => r = (spk 4 1 (spr a2 a3) (-2))) (fun _ : Unit => []))) (by decide) (by simp [lg_sl, Value.category]) ?_
      intro p e s m args below meth c ls A hx hb hml hr hlk hown hmn ht hK hP hD hS hA hl
      have hl : lv_has ls 5 [(0, .ref h), (1, .int 1), (2, .int a2), (3, .int a3)] := hl
      refine lv_iload_n hx hb dX11_row_0 rfl (lv_at hl 1 rfl) ?_
      refine behI (runSP (As := [.int 1]) (rest := []) ⟨hx, hb, hml, hown, ht⟩ (pX11_isSlot l G cs h q 1) okS_RX11_290 ⟨by decide, by decide⟩ hK hP [] rfl hl.1 rfl (Nat.le_of_ble_eq_true rfl) dX11_row_1 ⟨by decide, by decide⟩) hP hS hA (fun H locs hP hS => ?_)
      refine lv_topi (fun v1 ev1 => ?_)
      obtain rfl : v1 = 1 := ev1.trans (by decide)
      refine lv_if_eq (tgt := 25) hx hb dX11_row_4 (by decide) (fun c2 => False.elim (by revert c2; decide)) (fun c3 => ?_)
      refine lv_iload_n hx hb dX11_row_7 rfl (lv_at hl 2 rfl) ?_
      refine lv_i2l hx hb dX11_row_8 rfl ?_
      refine lv_lconst (v := 0) hx hb dX11_row_9 (by decide) ?_
      refine lv_ldc2 hx hb hown (ht _ kl_RX11_225) dX11_row_10 ?_
      refine behI (runSP (As := [.long a2.toInt64, .long 0, .long 3]) (rest := []) ⟨hx, hb, hml, hown, ht⟩ (pX11_in l G cs h q a2.toInt64 0 3) okS_RX11_79 ⟨by decide, by decide⟩ hK hP [] rfl hl.1 rfl (Nat.le_of_ble_eq_true rfl) dX11_row_13 ⟨by decide, by decide⟩) hP hS hA (fun H locs hP hS => ?_)
      refine lv_topi (fun v4 ev4 => ?_)
      obtain rfl : v4 = 1 := ev4.trans (inF_y (by have z0 := nltT hw0; have z1 := nltT hw3; have k0 : (0 : Int32).toInt = 0 := (by decide); have k1 : (3 : Int32).toInt = 3 := (by decide); have K0 : (0 : Int64).toInt = 0 := (by decide); have K1 : (3 : Int64).toInt = 3 := (by decide); omega))
      refine lv_if_eq (tgt := 25) hx hb dX11_row_16 (by decide) (fun c5 => False.elim (by revert c5; decide)) (fun c6 => ?_)
      refine lv_iload_n hx hb dX11_row_19 rfl (lv_at hl 3 rfl) ?_
      refine lv_bipush (v := 60) hx hb dX11_row_20 (by decide) ?_
      refine lv_icmp_le (tgt := 28) hx hb dX11_row_22 (by decide) (fun c7 => False.elim (by have z0 := ltT hm; have z1 := leT c7; have k0 : (60 : Int32).toInt = 60 := (by decide); omega)) (fun c8 => ?_)
      refine lv_bipush (v := (-2)) hx hb dX11_row_25 (by decide) ?_
      exact retDi () hx hb hr hlk (hP.sub [] rfl) (hD.sub [] (by decide) rfl) hS dX11_row_27 ((show _ = spk 4 _ (spr a2 a3) (-2) by rw [spr_m60 hw0 hw3 hm]; decide)) (Nat.le_of_ble_eq_true rfl) (Nat.le_of_ble_eq_true rfl)
    · refine mkD (Qc := (QDi G (fun (r : Int32) (_ : Unit) => r = (spk 4 1 (spr a2 a3) (-2))) (fun _ : Unit => []))) (by decide) (by simp [lg_sl, Value.category]) ?_
      intro p e s m args below meth c ls A hx hb hml hr hlk hown hmn ht hK hP hD hS hA hl
      have hl : lv_has ls 5 [(0, .ref h), (1, .int 1), (2, .int a2), (3, .int a3)] := hl
      refine lv_iload_n hx hb dX11_row_0 rfl (lv_at hl 1 rfl) ?_
      refine behI (runSP (As := [.int 1]) (rest := []) ⟨hx, hb, hml, hown, ht⟩ (pX11_isSlot l G cs h q 1) okS_RX11_290 ⟨by decide, by decide⟩ hK hP [] rfl hl.1 rfl (Nat.le_of_ble_eq_true rfl) dX11_row_1 ⟨by decide, by decide⟩) hP hS hA (fun H locs hP hS => ?_)
      refine lv_topi (fun v1 ev1 => ?_)
      obtain rfl : v1 = 1 := ev1.trans (by decide)
      refine lv_if_eq (tgt := 25) hx hb dX11_row_4 (by decide) (fun c2 => False.elim (by revert c2; decide)) (fun c3 => ?_)
      refine lv_iload_n hx hb dX11_row_7 rfl (lv_at hl 2 rfl) ?_
      refine lv_i2l hx hb dX11_row_8 rfl ?_
      refine lv_lconst (v := 0) hx hb dX11_row_9 (by decide) ?_
      refine lv_ldc2 hx hb hown (ht _ kl_RX11_225) dX11_row_10 ?_
      refine behI (runSP (As := [.long a2.toInt64, .long 0, .long 3]) (rest := []) ⟨hx, hb, hml, hown, ht⟩ (pX11_in l G cs h q a2.toInt64 0 3) okS_RX11_79 ⟨by decide, by decide⟩ hK hP [] rfl hl.1 rfl (Nat.le_of_ble_eq_true rfl) dX11_row_13 ⟨by decide, by decide⟩) hP hS hA (fun H locs hP hS => ?_)
      refine lv_topi (fun v4 ev4 => ?_)
      obtain rfl : v4 = 1 := ev4.trans (inF_y (by have z0 := nltT hw0; have z1 := nltT hw3; have k0 : (0 : Int32).toInt = 0 := (by decide); have k1 : (3 : Int32).toInt = 3 := (by decide); have K0 : (0 : Int64).toInt = 0 := (by decide); have K1 : (3 : Int64).toInt = 3 := (by decide); omega))
      refine lv_if_eq (tgt := 25) hx hb dX11_row_16 (by decide) (fun c5 => False.elim (by revert c5; decide)) (fun c6 => ?_)
      refine lv_iload_n hx hb dX11_row_19 rfl (lv_at hl 3 rfl) ?_
      refine lv_bipush (v := 60) hx hb dX11_row_20 (by decide) ?_
      refine lv_icmp_le (tgt := 28) hx hb dX11_row_22 (by decide) (fun c8 => ?_) (fun c7 => False.elim (by have z0 := ltT hm; have z1 := nleT c7; have k0 : (0 : Int32).toInt = 0 := (by decide); have k1 : (60 : Int32).toInt = 60 := (by decide); omega))
      refine lv_iload_n hx hb dX11_row_28 rfl (lv_at hl 3 rfl) ?_
      refine lv_if_ge (tgt := 35) hx hb dX11_row_29 (by decide) (fun c9 => False.elim (by have z0 := nltT hw0; have z1 := ltT hm; have z2 := leT c9; have k0 : (0 : Int32).toInt = 0 := (by decide); omega)) (fun c10 => ?_)
      refine lv_bipush (v := (-3)) hx hb dX11_row_32 (by decide) ?_
      exact retDi () hx hb hr hlk (hP.sub [] rfl) (hD.sub [] (by decide) rfl) hS dX11_row_34 ((show _ = spk 4 _ (spr a2 a3) (-2) by rw [spr_m0 hw0 hw3 hm]; decide)) (Nat.le_of_ble_eq_true rfl) (Nat.le_of_ble_eq_true rfl)
    · refine mkD (Qc := (QDi G (fun (r : Int32) (_ : Unit) => r = (spk 4 1 (spr a2 a3) (-2))) (fun _ : Unit => []))) (by decide) (by simp [lg_sl, Value.category]) ?_
      intro p e s m args below meth c ls A hx hb hml hr hlk hown hmn ht hK hP hD hS hA hl
      have hl : lv_has ls 5 [(0, .ref h), (1, .int 1), (2, .int a2), (3, .int a3)] := hl
      refine lv_iload_n hx hb dX11_row_0 rfl (lv_at hl 1 rfl) ?_
      refine behI (runSP (As := [.int 1]) (rest := []) ⟨hx, hb, hml, hown, ht⟩ (pX11_isSlot l G cs h q 1) okS_RX11_290 ⟨by decide, by decide⟩ hK hP [] rfl hl.1 rfl (Nat.le_of_ble_eq_true rfl) dX11_row_1 ⟨by decide, by decide⟩) hP hS hA (fun H locs hP hS => ?_)
      refine lv_topi (fun v1 ev1 => ?_)
      obtain rfl : v1 = 1 := ev1.trans (by decide)
      refine lv_if_eq (tgt := 25) hx hb dX11_row_4 (by decide) (fun c2 => False.elim (by revert c2; decide)) (fun c3 => ?_)
      refine lv_iload_n hx hb dX11_row_7 rfl (lv_at hl 2 rfl) ?_
      refine lv_i2l hx hb dX11_row_8 rfl ?_
      refine lv_lconst (v := 0) hx hb dX11_row_9 (by decide) ?_
      refine lv_ldc2 hx hb hown (ht _ kl_RX11_225) dX11_row_10 ?_
      refine behI (runSP (As := [.long a2.toInt64, .long 0, .long 3]) (rest := []) ⟨hx, hb, hml, hown, ht⟩ (pX11_in l G cs h q a2.toInt64 0 3) okS_RX11_79 ⟨by decide, by decide⟩ hK hP [] rfl hl.1 rfl (Nat.le_of_ble_eq_true rfl) dX11_row_13 ⟨by decide, by decide⟩) hP hS hA (fun H locs hP hS => ?_)
      refine lv_topi (fun v4 ev4 => ?_)
      obtain rfl : v4 = 1 := ev4.trans (inF_y (by have z0 := nltT hw0; have z1 := nltT hw3; have k0 : (0 : Int32).toInt = 0 := (by decide); have k1 : (3 : Int32).toInt = 3 := (by decide); have K0 : (0 : Int64).toInt = 0 := (by decide); have K1 : (3 : Int64).toInt = 3 := (by decide); omega))
      refine lv_if_eq (tgt := 25) hx hb dX11_row_16 (by decide) (fun c5 => False.elim (by revert c5; decide)) (fun c6 => ?_)
      refine lv_iload_n hx hb dX11_row_19 rfl (lv_at hl 3 rfl) ?_
      refine lv_bipush (v := 60) hx hb dX11_row_20 (by decide) ?_
      refine lv_icmp_le (tgt := 28) hx hb dX11_row_22 (by decide) (fun c8 => ?_) (fun c7 => False.elim (by have z0 := nltT hm0; have z1 := nltT hm60; have z2 := nleT c7; have k0 : (0 : Int32).toInt = 0 := (by decide); have k1 : (60 : Int32).toInt = 60 := (by decide); omega))
      refine lv_iload_n hx hb dX11_row_28 rfl (lv_at hl 3 rfl) ?_
      refine lv_if_ge (tgt := 35) hx hb dX11_row_29 (by decide) (fun c10 => ?_) (fun c9 => False.elim (by have z0 := nltT hw0; have z1 := nltT hm0; have z2 := nltT hm60; have z3 := nleT c9; have k0 : (0 : Int32).toInt = 0 := (by decide); have k1 : (60 : Int32).toInt = 60 := (by decide); omega))
      refine lv_aload_n hx hb dX11_row_35 rfl (lv_at hl 0 rfl) ?_
      refine getF hx hb ht hown hK hP iTX11 0 31 rfl rfl (by decide) fl_RX11_61 rfl dX11_row_36 ?_
      refine lv_iload_n hx hb dX11_row_39 rfl (lv_at hl 1 rfl) ?_
      refine lv_iload_n hx hb dX11_row_40 rfl (lv_at hl 3 rfl) ?_
      refine va_iast hx hb hK.1 hP hD hS 1 0 rfl rfl (show ¬ (_ ∨ _) by decide) dX11_row_41 (fun H locs hP hD hS => ?_)
      obtain ⟨f11, hP, hD⟩ : ∃ f11 : Nat → Int32, va_P G vwCl [(mc0 cs h q), (q 31, .inl (cs 0, 4, .inl f11)), (mc32 cs h q), (mc33 cs h q)] H ∧ va_D A [(mc0 cs h q), (q 31, .inl (cs 0, 4, .inl f11)), (mc32 cs h q), (mc33 cs h q)] := ⟨_, hP, hD⟩
      refine lv_aload_n hx hb dX11_row_42 rfl (lv_at hl 0 rfl) ?_
      refine getF hx hb ht hown hK hP iTX11 0 32 rfl rfl (by decide) fl_RX11_64 rfl dX11_row_43 ?_
      refine lv_iload_n hx hb dX11_row_46 rfl (lv_at hl 1 rfl) ?_
      refine lv_iload_n hx hb dX11_row_47 rfl (lv_at hl 2 rfl) ?_
      refine va_iast hx hb hK.1 hP hD hS 2 0 rfl rfl (show ¬ (_ ∨ _) by decide) dX11_row_48 (fun H locs hP hD hS => ?_)
      obtain ⟨f12, hP, hD⟩ : ∃ f12 : Nat → Int32, va_P G vwCl [(mc0 cs h q), (q 31, .inl (cs 0, 4, .inl f11)), (q 32, .inl (cs 0, 4, .inl f12)), (mc33 cs h q)] H ∧ va_D A [(mc0 cs h q), (q 31, .inl (cs 0, 4, .inl f11)), (q 32, .inl (cs 0, 4, .inl f12)), (mc33 cs h q)] := ⟨_, hP, hD⟩
      refine lv_iconst (v := 0) hx hb dX11_row_49 (by decide) ?_
      refine lv_istore (lv' := [(4, .int 0), (0, .ref h), (1, .int 1), (2, .int a2), (3, .int a3)]) hx hb dX11_row_50 hl (by decide) rfl (fun ls hl => ?_)
      have loop13 : ∀ (k i : Nat) (g1 : Nat → Int64) (H : Heap) (locs : List Loc) (ls : Array Slot), i + k = 60 → va_P G vwCl [(mc0 cs h q), (q 31, .inl (cs 0, 4, .inl f11)), (q 32, .inl (cs 0, 4, .inl f12)), (q 33, .inl (cs 2, 240, .inr (.inl g1)))] H → va_D A [(mc0 cs h q), (q 31, .inl (cs 0, 4, .inl f11)), (q 32, .inl (cs 0, 4, .inl f12)), (q 33, .inl (cs 2, 240, .inr (.inl g1)))] → va_S A s.heap H locs → lv_has ls 5 [(4, .int (nI i)), (0, .ref h), (1, .int 1), (2, .int a2), (3, .int a3)] → W p l e (rmk 2 0 0) s m args below meth c H locs 0 0 (MQ below ((QDi G (fun (r : Int32) (_ : Unit) => r = (spk 4 1 (spr a2 a3) (-2))) (fun _ : Unit => [])) A) args s 0 0 A) (F0 m 52 ls []) := by
        intro k
        induction k with
        | zero =>
          intro i g1 H locs ls hi hP hD hS hl
          refine lv_iload hx hb dX11_row_52 (lv_at hl 0 rfl) ?_
          refine lv_bipush (v := 60) hx hb dX11_row_54 (by decide) ?_
          refine lv_icmp_ge (tgt := 78) hx hb dX11_row_56 (by decide) (fun _ => ?_) (fun c9 => False.elim (c9 (by obtain rfl : i = 60 := (by omega); decide)))
          refine lv_iconst (v := 0) hx hb dX11_row_78 (by decide) ?_
          exact retDi () hx hb hr hlk (hP.sub [] rfl) (hD.sub [] (by decide) rfl) hS dX11_row_79 ((show _ = spk 4 _ (spr a2 a3) (-2) by rw [spr_ok hw0 hw3 hm0 hm60]; decide)) (Nat.le_of_ble_eq_true rfl) (Nat.le_of_ble_eq_true rfl)
        | succ k ih =>
          intro i g1 H locs ls hi hP hD hS hl
          refine lv_iload hx hb dX11_row_52 (lv_at hl 0 rfl) ?_
          refine lv_bipush (v := 60) hx hb dX11_row_54 (by decide) ?_
          refine lv_icmp_ge (tgt := 78) hx hb dX11_row_56 (by decide) (fun c9 => absurd c9 (nI_ge (b := 60) (by omega) (by decide))) (fun _ => ?_)
          refine lv_aload_n hx hb dX11_row_59 rfl (lv_at hl 1 rfl) ?_
          refine getF hx hb ht hown hK hP iTX11 0 33 rfl rfl (by decide) fl_RX11_67 rfl dX11_row_60 ?_
          refine lv_bipush (v := 60) hx hb dX11_row_63 (by decide) ?_
          refine lv_iload_n hx hb dX11_row_65 rfl (lv_at hl 2 rfl) ?_
          refine lv_imul hx hb dX11_row_66 ?_
          refine lv_topi (fun v14 ev14 => ?_)
          obtain rfl : v14 = 60 := ev14.trans (by decide)
          refine lv_iload hx hb dX11_row_67 (lv_at hl 0 rfl) ?_
          refine lv_iadd hx hb dX11_row_69 ?_
          refine lv_topi (fun v15 ev15 => ?_)
          obtain rfl : v15 = (nI (60 + i)) := ev15.trans (nI_add 60 i)
          refine lv_lconst (v := 0) hx hb dX11_row_70 (by decide) ?_
          refine va_last hx hb hK.1 hP hD hS 3 2 rfl rfl (vp_in_nI (by omega) (by decide)) dX11_row_71 (fun H locs hP hD hS => ?_)
          obtain ⟨f16, hP, hD⟩ : ∃ f16 : Nat → Int64, va_P G vwCl [(mc0 cs h q), (q 31, .inl (cs 0, 4, .inl f11)), (q 32, .inl (cs 0, 4, .inl f12)), (q 33, .inl (cs 2, 240, .inr (.inl f16)))] H ∧ va_D A [(mc0 cs h q), (q 31, .inl (cs 0, 4, .inl f11)), (q 32, .inl (cs 0, 4, .inl f12)), (q 33, .inl (cs 2, 240, .inr (.inl f16)))] := ⟨_, hP, hD⟩
          refine lv_iinc (v := (nI (i + 1))) (lv' := [(4, .int (nI (i + 1))), (0, .ref h), (1, .int 1), (2, .int a2), (3, .int a3)]) hx hb dX11_row_72 hl (k := 0) rfl (nI_1 _) (by decide) rfl (fun ls hl => ?_)
          refine lv_goto (tgt := 52) hx hb dX11_row_75 (by decide) ?_
          exact ih (i + 1) f16 H locs ls (by omega) hP hD hS (lv_sub hl [0, 1, 2, 3, 4] rfl)
      exact loop13 60 0 (fun _ => 0) H locs ls (by omega) hP hD hS (lv_sub hl [0, 1, 2, 3, 4] rfl)
  · rcases csr a2 a3 with hw | hw | ⟨hw0, hw3, hm⟩ | ⟨hw0, hw3, hm⟩ | ⟨hw0, hw3, hm0, hm60⟩
    · refine mkD (Qc := (QDi G (fun (r : Int32) (_ : Unit) => r = (spk 4 2 (spr a2 a3) (-2))) (fun _ : Unit => []))) (by decide) (by simp [lg_sl, Value.category]) ?_
      intro p e s m args below meth c ls A hx hb hml hr hlk hown hmn ht hK hP hD hS hA hl
      have hl : lv_has ls 5 [(0, .ref h), (1, .int 2), (2, .int a2), (3, .int a3)] := hl
      refine lv_iload_n hx hb dX11_row_0 rfl (lv_at hl 1 rfl) ?_
      refine behI (runSP (As := [.int 2]) (rest := []) ⟨hx, hb, hml, hown, ht⟩ (pX11_isSlot l G cs h q 2) okS_RX11_290 ⟨by decide, by decide⟩ hK hP [] rfl hl.1 rfl (Nat.le_of_ble_eq_true rfl) dX11_row_1 ⟨by decide, by decide⟩) hP hS hA (fun H locs hP hS => ?_)
      refine lv_topi (fun v1 ev1 => ?_)
      obtain rfl : v1 = 1 := ev1.trans (by decide)
      refine lv_if_eq (tgt := 25) hx hb dX11_row_4 (by decide) (fun c2 => False.elim (by revert c2; decide)) (fun c3 => ?_)
      refine lv_iload_n hx hb dX11_row_7 rfl (lv_at hl 2 rfl) ?_
      refine lv_i2l hx hb dX11_row_8 rfl ?_
      refine lv_lconst (v := 0) hx hb dX11_row_9 (by decide) ?_
      refine lv_ldc2 hx hb hown (ht _ kl_RX11_225) dX11_row_10 ?_
      refine behI (runSP (As := [.long a2.toInt64, .long 0, .long 3]) (rest := []) ⟨hx, hb, hml, hown, ht⟩ (pX11_in l G cs h q a2.toInt64 0 3) okS_RX11_79 ⟨by decide, by decide⟩ hK hP [] rfl hl.1 rfl (Nat.le_of_ble_eq_true rfl) dX11_row_13 ⟨by decide, by decide⟩) hP hS hA (fun H locs hP hS => ?_)
      refine lv_topi (fun v4 ev4 => ?_)
      obtain rfl : v4 = 0 := ev4.trans (inF_n (by have z0 := ltT hw; have k0 : (0 : Int32).toInt = 0 := (by decide); have K0 : (0 : Int64).toInt = 0 := (by decide); have K1 : (3 : Int64).toInt = 3 := (by decide); omega))
      refine lv_if_eq (tgt := 25) hx hb dX11_row_16 (by decide) (fun c6 => ?_) (fun c5 => False.elim (by revert c5; decide))
      refine lv_bipush (v := (-2)) hx hb dX11_row_25 (by decide) ?_
      exact retDi () hx hb hr hlk (hP.sub [] rfl) (hD.sub [] (by decide) rfl) hS dX11_row_27 ((show _ = spk 4 _ (spr a2 a3) (-2) by rw [spr_w0 hw]; decide)) (Nat.le_of_ble_eq_true rfl) (Nat.le_of_ble_eq_true rfl)
    · refine mkD (Qc := (QDi G (fun (r : Int32) (_ : Unit) => r = (spk 4 2 (spr a2 a3) (-2))) (fun _ : Unit => []))) (by decide) (by simp [lg_sl, Value.category]) ?_
      intro p e s m args below meth c ls A hx hb hml hr hlk hown hmn ht hK hP hD hS hA hl
      have hl : lv_has ls 5 [(0, .ref h), (1, .int 2), (2, .int a2), (3, .int a3)] := hl
      refine lv_iload_n hx hb dX11_row_0 rfl (lv_at hl 1 rfl) ?_
      refine behI (runSP (As := [.int 2]) (rest := []) ⟨hx, hb, hml, hown, ht⟩ (pX11_isSlot l G cs h q 2) okS_RX11_290 ⟨by decide, by decide⟩ hK hP [] rfl hl.1 rfl (Nat.le_of_ble_eq_true rfl) dX11_row_1 ⟨by decide, by decide⟩) hP hS hA (fun H locs hP hS => ?_)
      refine lv_topi (fun v1 ev1 => ?_)
      obtain rfl : v1 = 1 := ev1.trans (by decide)
      refine lv_if_eq (tgt := 25) hx hb dX11_row_4 (by decide) (fun c2 => False.elim (by revert c2; decide)) (fun c3 => ?_)
      refine lv_iload_n hx hb dX11_row_7 rfl (lv_at hl 2 rfl) ?_
      refine lv_i2l hx hb dX11_row_8 rfl ?_
      refine lv_lconst (v := 0) hx hb dX11_row_9 (by decide) ?_
      refine lv_ldc2 hx hb hown (ht _ kl_RX11_225) dX11_row_10 ?_
      refine behI (runSP (As := [.long a2.toInt64, .long 0, .long 3]) (rest := []) ⟨hx, hb, hml, hown, ht⟩ (pX11_in l G cs h q a2.toInt64 0 3) okS_RX11_79 ⟨by decide, by decide⟩ hK hP [] rfl hl.1 rfl (Nat.le_of_ble_eq_true rfl) dX11_row_13 ⟨by decide, by decide⟩) hP hS hA (fun H locs hP hS => ?_)
      refine lv_topi (fun v4 ev4 => ?_)
      obtain rfl : v4 = 0 := ev4.trans (inF_n (by have z0 := ltT hw; have k0 : (3 : Int32).toInt = 3 := (by decide); have K0 : (0 : Int64).toInt = 0 := (by decide); have K1 : (3 : Int64).toInt = 3 := (by decide); omega))
      refine lv_if_eq (tgt := 25) hx hb dX11_row_16 (by decide) (fun c6 => ?_) (fun c5 => False.elim (by revert c5; decide))
      refine lv_bipush (v := (-2)) hx hb dX11_row_25 (by decide) ?_
      exact retDi () hx hb hr hlk (hP.sub [] rfl) (hD.sub [] (by decide) rfl) hS dX11_row_27 ((show _ = spk 4 _ (spr a2 a3) (-2) by rw [spr_w3 hw]; decide)) (Nat.le_of_ble_eq_true rfl) (Nat.le_of_ble_eq_true rfl)
    · refine mkD (Qc := (QDi G (fun (r : Int32) (_ : Unit) => r = (spk 4 2 (spr a2 a3) (-2))) (fun _ : Unit => []))) (by decide) (by simp [lg_sl, Value.category]) ?_
      intro p e s m args below meth c ls A hx hb hml hr hlk hown hmn ht hK hP hD hS hA hl
      have hl : lv_has ls 5 [(0, .ref h), (1, .int 2), (2, .int a2), (3, .int a3)] := hl
      refine lv_iload_n hx hb dX11_row_0 rfl (lv_at hl 1 rfl) ?_
      refine behI (runSP (As := [.int 2]) (rest := []) ⟨hx, hb, hml, hown, ht⟩ (pX11_isSlot l G cs h q 2) okS_RX11_290 ⟨by decide, by decide⟩ hK hP [] rfl hl.1 rfl (Nat.le_of_ble_eq_true rfl) dX11_row_1 ⟨by decide, by decide⟩) hP hS hA (fun H locs hP hS => ?_)
      refine lv_topi (fun v1 ev1 => ?_)
      obtain rfl : v1 = 1 := ev1.trans (by decide)
      refine lv_if_eq (tgt := 25) hx hb dX11_row_4 (by decide) (fun c2 => False.elim (by revert c2; decide)) (fun c3 => ?_)
      refine lv_iload_n hx hb dX11_row_7 rfl (lv_at hl 2 rfl) ?_
      refine lv_i2l hx hb dX11_row_8 rfl ?_
      refine lv_lconst (v := 0) hx hb dX11_row_9 (by decide) ?_
      refine lv_ldc2 hx hb hown (ht _ kl_RX11_225) dX11_row_10 ?_
      refine behI (runSP (As := [.long a2.toInt64, .long 0, .long 3]) (rest := []) ⟨hx, hb, hml, hown, ht⟩ (pX11_in l G cs h q a2.toInt64 0 3) okS_RX11_79 ⟨by decide, by decide⟩ hK hP [] rfl hl.1 rfl (Nat.le_of_ble_eq_true rfl) dX11_row_13 ⟨by decide, by decide⟩) hP hS hA (fun H locs hP hS => ?_)
      refine lv_topi (fun v4 ev4 => ?_)
      obtain rfl : v4 = 1 := ev4.trans (inF_y (by have z0 := nltT hw0; have z1 := nltT hw3; have k0 : (0 : Int32).toInt = 0 := (by decide); have k1 : (3 : Int32).toInt = 3 := (by decide); have K0 : (0 : Int64).toInt = 0 := (by decide); have K1 : (3 : Int64).toInt = 3 := (by decide); omega))
      refine lv_if_eq (tgt := 25) hx hb dX11_row_16 (by decide) (fun c5 => False.elim (by revert c5; decide)) (fun c6 => ?_)
      refine lv_iload_n hx hb dX11_row_19 rfl (lv_at hl 3 rfl) ?_
      refine lv_bipush (v := 60) hx hb dX11_row_20 (by decide) ?_
      refine lv_icmp_le (tgt := 28) hx hb dX11_row_22 (by decide) (fun c7 => False.elim (by have z0 := ltT hm; have z1 := leT c7; have k0 : (60 : Int32).toInt = 60 := (by decide); omega)) (fun c8 => ?_)
      refine lv_bipush (v := (-2)) hx hb dX11_row_25 (by decide) ?_
      exact retDi () hx hb hr hlk (hP.sub [] rfl) (hD.sub [] (by decide) rfl) hS dX11_row_27 ((show _ = spk 4 _ (spr a2 a3) (-2) by rw [spr_m60 hw0 hw3 hm]; decide)) (Nat.le_of_ble_eq_true rfl) (Nat.le_of_ble_eq_true rfl)
    · refine mkD (Qc := (QDi G (fun (r : Int32) (_ : Unit) => r = (spk 4 2 (spr a2 a3) (-2))) (fun _ : Unit => []))) (by decide) (by simp [lg_sl, Value.category]) ?_
      intro p e s m args below meth c ls A hx hb hml hr hlk hown hmn ht hK hP hD hS hA hl
      have hl : lv_has ls 5 [(0, .ref h), (1, .int 2), (2, .int a2), (3, .int a3)] := hl
      refine lv_iload_n hx hb dX11_row_0 rfl (lv_at hl 1 rfl) ?_
      refine behI (runSP (As := [.int 2]) (rest := []) ⟨hx, hb, hml, hown, ht⟩ (pX11_isSlot l G cs h q 2) okS_RX11_290 ⟨by decide, by decide⟩ hK hP [] rfl hl.1 rfl (Nat.le_of_ble_eq_true rfl) dX11_row_1 ⟨by decide, by decide⟩) hP hS hA (fun H locs hP hS => ?_)
      refine lv_topi (fun v1 ev1 => ?_)
      obtain rfl : v1 = 1 := ev1.trans (by decide)
      refine lv_if_eq (tgt := 25) hx hb dX11_row_4 (by decide) (fun c2 => False.elim (by revert c2; decide)) (fun c3 => ?_)
      refine lv_iload_n hx hb dX11_row_7 rfl (lv_at hl 2 rfl) ?_
      refine lv_i2l hx hb dX11_row_8 rfl ?_
      refine lv_lconst (v := 0) hx hb dX11_row_9 (by decide) ?_
      refine lv_ldc2 hx hb hown (ht _ kl_RX11_225) dX11_row_10 ?_
      refine behI (runSP (As := [.long a2.toInt64, .long 0, .long 3]) (rest := []) ⟨hx, hb, hml, hown, ht⟩ (pX11_in l G cs h q a2.toInt64 0 3) okS_RX11_79 ⟨by decide, by decide⟩ hK hP [] rfl hl.1 rfl (Nat.le_of_ble_eq_true rfl) dX11_row_13 ⟨by decide, by decide⟩) hP hS hA (fun H locs hP hS => ?_)
      refine lv_topi (fun v4 ev4 => ?_)
      obtain rfl : v4 = 1 := ev4.trans (inF_y (by have z0 := nltT hw0; have z1 := nltT hw3; have k0 : (0 : Int32).toInt = 0 := (by decide); have k1 : (3 : Int32).toInt = 3 := (by decide); have K0 : (0 : Int64).toInt = 0 := (by decide); have K1 : (3 : Int64).toInt = 3 := (by decide); omega))
      refine lv_if_eq (tgt := 25) hx hb dX11_row_16 (by decide) (fun c5 => False.elim (by revert c5; decide)) (fun c6 => ?_)
      refine lv_iload_n hx hb dX11_row_19 rfl (lv_at hl 3 rfl) ?_
      refine lv_bipush (v := 60) hx hb dX11_row_20 (by decide) ?_
      refine lv_icmp_le (tgt := 28) hx hb dX11_row_22 (by decide) (fun c8 => ?_) (fun c7 => False.elim (by have z0 := ltT hm; have z1 := nleT c7; have k0 : (0 : Int32).toInt = 0 := (by decide); have k1 : (60 : Int32).toInt = 60 := (by decide); omega))
      refine lv_iload_n hx hb dX11_row_28 rfl (lv_at hl 3 rfl) ?_
      refine lv_if_ge (tgt := 35) hx hb dX11_row_29 (by decide) (fun c9 => False.elim (by have z0 := nltT hw0; have z1 := ltT hm; have z2 := leT c9; have k0 : (0 : Int32).toInt = 0 := (by decide); omega)) (fun c10 => ?_)
      refine lv_bipush (v := (-3)) hx hb dX11_row_32 (by decide) ?_
      exact retDi () hx hb hr hlk (hP.sub [] rfl) (hD.sub [] (by decide) rfl) hS dX11_row_34 ((show _ = spk 4 _ (spr a2 a3) (-2) by rw [spr_m0 hw0 hw3 hm]; decide)) (Nat.le_of_ble_eq_true rfl) (Nat.le_of_ble_eq_true rfl)
    · refine mkD (Qc := (QDi G (fun (r : Int32) (_ : Unit) => r = (spk 4 2 (spr a2 a3) (-2))) (fun _ : Unit => []))) (by decide) (by simp [lg_sl, Value.category]) ?_
      intro p e s m args below meth c ls A hx hb hml hr hlk hown hmn ht hK hP hD hS hA hl
      have hl : lv_has ls 5 [(0, .ref h), (1, .int 2), (2, .int a2), (3, .int a3)] := hl
      refine lv_iload_n hx hb dX11_row_0 rfl (lv_at hl 1 rfl) ?_
      refine behI (runSP (As := [.int 2]) (rest := []) ⟨hx, hb, hml, hown, ht⟩ (pX11_isSlot l G cs h q 2) okS_RX11_290 ⟨by decide, by decide⟩ hK hP [] rfl hl.1 rfl (Nat.le_of_ble_eq_true rfl) dX11_row_1 ⟨by decide, by decide⟩) hP hS hA (fun H locs hP hS => ?_)
      refine lv_topi (fun v1 ev1 => ?_)
      obtain rfl : v1 = 1 := ev1.trans (by decide)
      refine lv_if_eq (tgt := 25) hx hb dX11_row_4 (by decide) (fun c2 => False.elim (by revert c2; decide)) (fun c3 => ?_)
      refine lv_iload_n hx hb dX11_row_7 rfl (lv_at hl 2 rfl) ?_
      refine lv_i2l hx hb dX11_row_8 rfl ?_
      refine lv_lconst (v := 0) hx hb dX11_row_9 (by decide) ?_
      refine lv_ldc2 hx hb hown (ht _ kl_RX11_225) dX11_row_10 ?_
      refine behI (runSP (As := [.long a2.toInt64, .long 0, .long 3]) (rest := []) ⟨hx, hb, hml, hown, ht⟩ (pX11_in l G cs h q a2.toInt64 0 3) okS_RX11_79 ⟨by decide, by decide⟩ hK hP [] rfl hl.1 rfl (Nat.le_of_ble_eq_true rfl) dX11_row_13 ⟨by decide, by decide⟩) hP hS hA (fun H locs hP hS => ?_)
      refine lv_topi (fun v4 ev4 => ?_)
      obtain rfl : v4 = 1 := ev4.trans (inF_y (by have z0 := nltT hw0; have z1 := nltT hw3; have k0 : (0 : Int32).toInt = 0 := (by decide); have k1 : (3 : Int32).toInt = 3 := (by decide); have K0 : (0 : Int64).toInt = 0 := (by decide); have K1 : (3 : Int64).toInt = 3 := (by decide); omega))
      refine lv_if_eq (tgt := 25) hx hb dX11_row_16 (by decide) (fun c5 => False.elim (by revert c5; decide)) (fun c6 => ?_)
      refine lv_iload_n hx hb dX11_row_19 rfl (lv_at hl 3 rfl) ?_
      refine lv_bipush (v := 60) hx hb dX11_row_20 (by decide) ?_
      refine lv_icmp_le (tgt := 28) hx hb dX11_row_22 (by decide) (fun c8 => ?_) (fun c7 => False.elim (by have z0 := nltT hm0; have z1 := nltT hm60; have z2 := nleT c7; have k0 : (0 : Int32).toInt = 0 := (by decide); have k1 : (60 : Int32).toInt = 60 := (by decide); omega))
      refine lv_iload_n hx hb dX11_row_28 rfl (lv_at hl 3 rfl) ?_
      refine lv_if_ge (tgt := 35) hx hb dX11_row_29 (by decide) (fun c10 => ?_) (fun c9 => False.elim (by have z0 := nltT hw0; have z1 := nltT hm0; have z2 := nltT hm60; have z3 := nleT c9; have k0 : (0 : Int32).toInt = 0 := (by decide); have k1 : (60 : Int32).toInt = 60 := (by decide); omega))
      refine lv_aload_n hx hb dX11_row_35 rfl (lv_at hl 0 rfl) ?_
      refine getF hx hb ht hown hK hP iTX11 0 31 rfl rfl (by decide) fl_RX11_61 rfl dX11_row_36 ?_
      refine lv_iload_n hx hb dX11_row_39 rfl (lv_at hl 1 rfl) ?_
      refine lv_iload_n hx hb dX11_row_40 rfl (lv_at hl 3 rfl) ?_
      refine va_iast hx hb hK.1 hP hD hS 1 0 rfl rfl (show ¬ (_ ∨ _) by decide) dX11_row_41 (fun H locs hP hD hS => ?_)
      obtain ⟨f11, hP, hD⟩ : ∃ f11 : Nat → Int32, va_P G vwCl [(mc0 cs h q), (q 31, .inl (cs 0, 4, .inl f11)), (mc32 cs h q), (mc33 cs h q)] H ∧ va_D A [(mc0 cs h q), (q 31, .inl (cs 0, 4, .inl f11)), (mc32 cs h q), (mc33 cs h q)] := ⟨_, hP, hD⟩
      refine lv_aload_n hx hb dX11_row_42 rfl (lv_at hl 0 rfl) ?_
      refine getF hx hb ht hown hK hP iTX11 0 32 rfl rfl (by decide) fl_RX11_64 rfl dX11_row_43 ?_
      refine lv_iload_n hx hb dX11_row_46 rfl (lv_at hl 1 rfl) ?_
      refine lv_iload_n hx hb dX11_row_47 rfl (lv_at hl 2 rfl) ?_
      refine va_iast hx hb hK.1 hP hD hS 2 0 rfl rfl (show ¬ (_ ∨ _) by decide) dX11_row_48 (fun H locs hP hD hS => ?_)
      obtain ⟨f12, hP, hD⟩ : ∃ f12 : Nat → Int32, va_P G vwCl [(mc0 cs h q), (q 31, .inl (cs 0, 4, .inl f11)), (q 32, .inl (cs 0, 4, .inl f12)), (mc33 cs h q)] H ∧ va_D A [(mc0 cs h q), (q 31, .inl (cs 0, 4, .inl f11)), (q 32, .inl (cs 0, 4, .inl f12)), (mc33 cs h q)] := ⟨_, hP, hD⟩
      refine lv_iconst (v := 0) hx hb dX11_row_49 (by decide) ?_
      refine lv_istore (lv' := [(4, .int 0), (0, .ref h), (1, .int 2), (2, .int a2), (3, .int a3)]) hx hb dX11_row_50 hl (by decide) rfl (fun ls hl => ?_)
      have loop13 : ∀ (k i : Nat) (g1 : Nat → Int64) (H : Heap) (locs : List Loc) (ls : Array Slot), i + k = 60 → va_P G vwCl [(mc0 cs h q), (q 31, .inl (cs 0, 4, .inl f11)), (q 32, .inl (cs 0, 4, .inl f12)), (q 33, .inl (cs 2, 240, .inr (.inl g1)))] H → va_D A [(mc0 cs h q), (q 31, .inl (cs 0, 4, .inl f11)), (q 32, .inl (cs 0, 4, .inl f12)), (q 33, .inl (cs 2, 240, .inr (.inl g1)))] → va_S A s.heap H locs → lv_has ls 5 [(4, .int (nI i)), (0, .ref h), (1, .int 2), (2, .int a2), (3, .int a3)] → W p l e (rmk 2 0 0) s m args below meth c H locs 0 0 (MQ below ((QDi G (fun (r : Int32) (_ : Unit) => r = (spk 4 2 (spr a2 a3) (-2))) (fun _ : Unit => [])) A) args s 0 0 A) (F0 m 52 ls []) := by
        intro k
        induction k with
        | zero =>
          intro i g1 H locs ls hi hP hD hS hl
          refine lv_iload hx hb dX11_row_52 (lv_at hl 0 rfl) ?_
          refine lv_bipush (v := 60) hx hb dX11_row_54 (by decide) ?_
          refine lv_icmp_ge (tgt := 78) hx hb dX11_row_56 (by decide) (fun _ => ?_) (fun c9 => False.elim (c9 (by obtain rfl : i = 60 := (by omega); decide)))
          refine lv_iconst (v := 0) hx hb dX11_row_78 (by decide) ?_
          exact retDi () hx hb hr hlk (hP.sub [] rfl) (hD.sub [] (by decide) rfl) hS dX11_row_79 ((show _ = spk 4 _ (spr a2 a3) (-2) by rw [spr_ok hw0 hw3 hm0 hm60]; decide)) (Nat.le_of_ble_eq_true rfl) (Nat.le_of_ble_eq_true rfl)
        | succ k ih =>
          intro i g1 H locs ls hi hP hD hS hl
          refine lv_iload hx hb dX11_row_52 (lv_at hl 0 rfl) ?_
          refine lv_bipush (v := 60) hx hb dX11_row_54 (by decide) ?_
          refine lv_icmp_ge (tgt := 78) hx hb dX11_row_56 (by decide) (fun c9 => absurd c9 (nI_ge (b := 60) (by omega) (by decide))) (fun _ => ?_)
          refine lv_aload_n hx hb dX11_row_59 rfl (lv_at hl 1 rfl) ?_
          refine getF hx hb ht hown hK hP iTX11 0 33 rfl rfl (by decide) fl_RX11_67 rfl dX11_row_60 ?_
          refine lv_bipush (v := 60) hx hb dX11_row_63 (by decide) ?_
          refine lv_iload_n hx hb dX11_row_65 rfl (lv_at hl 2 rfl) ?_
          refine lv_imul hx hb dX11_row_66 ?_
          refine lv_topi (fun v14 ev14 => ?_)
          obtain rfl : v14 = 120 := ev14.trans (by decide)
          refine lv_iload hx hb dX11_row_67 (lv_at hl 0 rfl) ?_
          refine lv_iadd hx hb dX11_row_69 ?_
          refine lv_topi (fun v15 ev15 => ?_)
          obtain rfl : v15 = (nI (120 + i)) := ev15.trans (nI_add 120 i)
          refine lv_lconst (v := 0) hx hb dX11_row_70 (by decide) ?_
          refine va_last hx hb hK.1 hP hD hS 3 2 rfl rfl (vp_in_nI (by omega) (by decide)) dX11_row_71 (fun H locs hP hD hS => ?_)
          obtain ⟨f16, hP, hD⟩ : ∃ f16 : Nat → Int64, va_P G vwCl [(mc0 cs h q), (q 31, .inl (cs 0, 4, .inl f11)), (q 32, .inl (cs 0, 4, .inl f12)), (q 33, .inl (cs 2, 240, .inr (.inl f16)))] H ∧ va_D A [(mc0 cs h q), (q 31, .inl (cs 0, 4, .inl f11)), (q 32, .inl (cs 0, 4, .inl f12)), (q 33, .inl (cs 2, 240, .inr (.inl f16)))] := ⟨_, hP, hD⟩
          refine lv_iinc (v := (nI (i + 1))) (lv' := [(4, .int (nI (i + 1))), (0, .ref h), (1, .int 2), (2, .int a2), (3, .int a3)]) hx hb dX11_row_72 hl (k := 0) rfl (nI_1 _) (by decide) rfl (fun ls hl => ?_)
          refine lv_goto (tgt := 52) hx hb dX11_row_75 (by decide) ?_
          exact ih (i + 1) f16 H locs ls (by omega) hP hD hS (lv_sub hl [0, 1, 2, 3, 4] rfl)
      exact loop13 60 0 (fun _ => 0) H locs ls (by omega) hP hD hS (lv_sub hl [0, 1, 2, 3, 4] rfl)
  · rcases csr a2 a3 with hw | hw | ⟨hw0, hw3, hm⟩ | ⟨hw0, hw3, hm⟩ | ⟨hw0, hw3, hm0, hm60⟩
    · refine mkD (Qc := (QDi G (fun (r : Int32) (_ : Unit) => r = (spk 4 3 (spr a2 a3) (-2))) (fun _ : Unit => []))) (by decide) (by simp [lg_sl, Value.category]) ?_
      intro p e s m args below meth c ls A hx hb hml hr hlk hown hmn ht hK hP hD hS hA hl
      have hl : lv_has ls 5 [(0, .ref h), (1, .int 3), (2, .int a2), (3, .int a3)] := hl
      refine lv_iload_n hx hb dX11_row_0 rfl (lv_at hl 1 rfl) ?_
      refine behI (runSP (As := [.int 3]) (rest := []) ⟨hx, hb, hml, hown, ht⟩ (pX11_isSlot l G cs h q 3) okS_RX11_290 ⟨by decide, by decide⟩ hK hP [] rfl hl.1 rfl (Nat.le_of_ble_eq_true rfl) dX11_row_1 ⟨by decide, by decide⟩) hP hS hA (fun H locs hP hS => ?_)
      refine lv_topi (fun v1 ev1 => ?_)
      obtain rfl : v1 = 1 := ev1.trans (by decide)
      refine lv_if_eq (tgt := 25) hx hb dX11_row_4 (by decide) (fun c2 => False.elim (by revert c2; decide)) (fun c3 => ?_)
      refine lv_iload_n hx hb dX11_row_7 rfl (lv_at hl 2 rfl) ?_
      refine lv_i2l hx hb dX11_row_8 rfl ?_
      refine lv_lconst (v := 0) hx hb dX11_row_9 (by decide) ?_
      refine lv_ldc2 hx hb hown (ht _ kl_RX11_225) dX11_row_10 ?_
      refine behI (runSP (As := [.long a2.toInt64, .long 0, .long 3]) (rest := []) ⟨hx, hb, hml, hown, ht⟩ (pX11_in l G cs h q a2.toInt64 0 3) okS_RX11_79 ⟨by decide, by decide⟩ hK hP [] rfl hl.1 rfl (Nat.le_of_ble_eq_true rfl) dX11_row_13 ⟨by decide, by decide⟩) hP hS hA (fun H locs hP hS => ?_)
      refine lv_topi (fun v4 ev4 => ?_)
      obtain rfl : v4 = 0 := ev4.trans (inF_n (by have z0 := ltT hw; have k0 : (0 : Int32).toInt = 0 := (by decide); have K0 : (0 : Int64).toInt = 0 := (by decide); have K1 : (3 : Int64).toInt = 3 := (by decide); omega))
      refine lv_if_eq (tgt := 25) hx hb dX11_row_16 (by decide) (fun c6 => ?_) (fun c5 => False.elim (by revert c5; decide))
      refine lv_bipush (v := (-2)) hx hb dX11_row_25 (by decide) ?_
      exact retDi () hx hb hr hlk (hP.sub [] rfl) (hD.sub [] (by decide) rfl) hS dX11_row_27 ((show _ = spk 4 _ (spr a2 a3) (-2) by rw [spr_w0 hw]; decide)) (Nat.le_of_ble_eq_true rfl) (Nat.le_of_ble_eq_true rfl)
    · refine mkD (Qc := (QDi G (fun (r : Int32) (_ : Unit) => r = (spk 4 3 (spr a2 a3) (-2))) (fun _ : Unit => []))) (by decide) (by simp [lg_sl, Value.category]) ?_
      intro p e s m args below meth c ls A hx hb hml hr hlk hown hmn ht hK hP hD hS hA hl
      have hl : lv_has ls 5 [(0, .ref h), (1, .int 3), (2, .int a2), (3, .int a3)] := hl
      refine lv_iload_n hx hb dX11_row_0 rfl (lv_at hl 1 rfl) ?_
      refine behI (runSP (As := [.int 3]) (rest := []) ⟨hx, hb, hml, hown, ht⟩ (pX11_isSlot l G cs h q 3) okS_RX11_290 ⟨by decide, by decide⟩ hK hP [] rfl hl.1 rfl (Nat.le_of_ble_eq_true rfl) dX11_row_1 ⟨by decide, by decide⟩) hP hS hA (fun H locs hP hS => ?_)
      refine lv_topi (fun v1 ev1 => ?_)
      obtain rfl : v1 = 1 := ev1.trans (by decide)
      refine lv_if_eq (tgt := 25) hx hb dX11_row_4 (by decide) (fun c2 => False.elim (by revert c2; decide)) (fun c3 => ?_)
      refine lv_iload_n hx hb dX11_row_7 rfl (lv_at hl 2 rfl) ?_
      refine lv_i2l hx hb dX11_row_8 rfl ?_
      refine lv_lconst (v := 0) hx hb dX11_row_9 (by decide) ?_
      refine lv_ldc2 hx hb hown (ht _ kl_RX11_225) dX11_row_10 ?_
      refine behI (runSP (As := [.long a2.toInt64, .long 0, .long 3]) (rest := []) ⟨hx, hb, hml, hown, ht⟩ (pX11_in l G cs h q a2.toInt64 0 3) okS_RX11_79 ⟨by decide, by decide⟩ hK hP [] rfl hl.1 rfl (Nat.le_of_ble_eq_true rfl) dX11_row_13 ⟨by decide, by decide⟩) hP hS hA (fun H locs hP hS => ?_)
      refine lv_topi (fun v4 ev4 => ?_)
      obtain rfl : v4 = 0 := ev4.trans (inF_n (by have z0 := ltT hw; have k0 : (3 : Int32).toInt = 3 := (by decide); have K0 : (0 : Int64).toInt = 0 := (by decide); have K1 : (3 : Int64).toInt = 3 := (by decide); omega))
      refine lv_if_eq (tgt := 25) hx hb dX11_row_16 (by decide) (fun c6 => ?_) (fun c5 => False.elim (by revert c5; decide))
      refine lv_bipush (v := (-2)) hx hb dX11_row_25 (by decide) ?_
      exact retDi () hx hb hr hlk (hP.sub [] rfl) (hD.sub [] (by decide) rfl) hS dX11_row_27 ((show _ = spk 4 _ (spr a2 a3) (-2) by rw [spr_w3 hw]; decide)) (Nat.le_of_ble_eq_true rfl) (Nat.le_of_ble_eq_true rfl)
    · refine mkD (Qc := (QDi G (fun (r : Int32) (_ : Unit) => r = (spk 4 3 (spr a2 a3) (-2))) (fun _ : Unit => []))) (by decide) (by simp [lg_sl, Value.category]) ?_
      intro p e s m args below meth c ls A hx hb hml hr hlk hown hmn ht hK hP hD hS hA hl
      have hl : lv_has ls 5 [(0, .ref h), (1, .int 3), (2, .int a2), (3, .int a3)] := hl
      refine lv_iload_n hx hb dX11_row_0 rfl (lv_at hl 1 rfl) ?_
      refine behI (runSP (As := [.int 3]) (rest := []) ⟨hx, hb, hml, hown, ht⟩ (pX11_isSlot l G cs h q 3) okS_RX11_290 ⟨by decide, by decide⟩ hK hP [] rfl hl.1 rfl (Nat.le_of_ble_eq_true rfl) dX11_row_1 ⟨by decide, by decide⟩) hP hS hA (fun H locs hP hS => ?_)
      refine lv_topi (fun v1 ev1 => ?_)
      obtain rfl : v1 = 1 := ev1.trans (by decide)
      refine lv_if_eq (tgt := 25) hx hb dX11_row_4 (by decide) (fun c2 => False.elim (by revert c2; decide)) (fun c3 => ?_)
      refine lv_iload_n hx hb dX11_row_7 rfl (lv_at hl 2 rfl) ?_
      refine lv_i2l hx hb dX11_row_8 rfl ?_
      refine lv_lconst (v := 0) hx hb dX11_row_9 (by decide) ?_
      refine lv_ldc2 hx hb hown (ht _ kl_RX11_225) dX11_row_10 ?_
      refine behI (runSP (As := [.long a2.toInt64, .long 0, .long 3]) (rest := []) ⟨hx, hb, hml, hown, ht⟩ (pX11_in l G cs h q a2.toInt64 0 3) okS_RX11_79 ⟨by decide, by decide⟩ hK hP [] rfl hl.1 rfl (Nat.le_of_ble_eq_true rfl) dX11_row_13 ⟨by decide, by decide⟩) hP hS hA (fun H locs hP hS => ?_)
      refine lv_topi (fun v4 ev4 => ?_)
      obtain rfl : v4 = 1 := ev4.trans (inF_y (by have z0 := nltT hw0; have z1 := nltT hw3; have k0 : (0 : Int32).toInt = 0 := (by decide); have k1 : (3 : Int32).toInt = 3 := (by decide); have K0 : (0 : Int64).toInt = 0 := (by decide); have K1 : (3 : Int64).toInt = 3 := (by decide); omega))
      refine lv_if_eq (tgt := 25) hx hb dX11_row_16 (by decide) (fun c5 => False.elim (by revert c5; decide)) (fun c6 => ?_)
      refine lv_iload_n hx hb dX11_row_19 rfl (lv_at hl 3 rfl) ?_
      refine lv_bipush (v := 60) hx hb dX11_row_20 (by decide) ?_
      refine lv_icmp_le (tgt := 28) hx hb dX11_row_22 (by decide) (fun c7 => False.elim (by have z0 := ltT hm; have z1 := leT c7; have k0 : (60 : Int32).toInt = 60 := (by decide); omega)) (fun c8 => ?_)
      refine lv_bipush (v := (-2)) hx hb dX11_row_25 (by decide) ?_
      exact retDi () hx hb hr hlk (hP.sub [] rfl) (hD.sub [] (by decide) rfl) hS dX11_row_27 ((show _ = spk 4 _ (spr a2 a3) (-2) by rw [spr_m60 hw0 hw3 hm]; decide)) (Nat.le_of_ble_eq_true rfl) (Nat.le_of_ble_eq_true rfl)
    · refine mkD (Qc := (QDi G (fun (r : Int32) (_ : Unit) => r = (spk 4 3 (spr a2 a3) (-2))) (fun _ : Unit => []))) (by decide) (by simp [lg_sl, Value.category]) ?_
      intro p e s m args below meth c ls A hx hb hml hr hlk hown hmn ht hK hP hD hS hA hl
      have hl : lv_has ls 5 [(0, .ref h), (1, .int 3), (2, .int a2), (3, .int a3)] := hl
      refine lv_iload_n hx hb dX11_row_0 rfl (lv_at hl 1 rfl) ?_
      refine behI (runSP (As := [.int 3]) (rest := []) ⟨hx, hb, hml, hown, ht⟩ (pX11_isSlot l G cs h q 3) okS_RX11_290 ⟨by decide, by decide⟩ hK hP [] rfl hl.1 rfl (Nat.le_of_ble_eq_true rfl) dX11_row_1 ⟨by decide, by decide⟩) hP hS hA (fun H locs hP hS => ?_)
      refine lv_topi (fun v1 ev1 => ?_)
      obtain rfl : v1 = 1 := ev1.trans (by decide)
      refine lv_if_eq (tgt := 25) hx hb dX11_row_4 (by decide) (fun c2 => False.elim (by revert c2; decide)) (fun c3 => ?_)
      refine lv_iload_n hx hb dX11_row_7 rfl (lv_at hl 2 rfl) ?_
      refine lv_i2l hx hb dX11_row_8 rfl ?_
      refine lv_lconst (v := 0) hx hb dX11_row_9 (by decide) ?_
      refine lv_ldc2 hx hb hown (ht _ kl_RX11_225) dX11_row_10 ?_
      refine behI (runSP (As := [.long a2.toInt64, .long 0, .long 3]) (rest := []) ⟨hx, hb, hml, hown, ht⟩ (pX11_in l G cs h q a2.toInt64 0 3) okS_RX11_79 ⟨by decide, by decide⟩ hK hP [] rfl hl.1 rfl (Nat.le_of_ble_eq_true rfl) dX11_row_13 ⟨by decide, by decide⟩) hP hS hA (fun H locs hP hS => ?_)
      refine lv_topi (fun v4 ev4 => ?_)
      obtain rfl : v4 = 1 := ev4.trans (inF_y (by have z0 := nltT hw0; have z1 := nltT hw3; have k0 : (0 : Int32).toInt = 0 := (by decide); have k1 : (3 : Int32).toInt = 3 := (by decide); have K0 : (0 : Int64).toInt = 0 := (by decide); have K1 : (3 : Int64).toInt = 3 := (by decide); omega))
      refine lv_if_eq (tgt := 25) hx hb dX11_row_16 (by decide) (fun c5 => False.elim (by revert c5; decide)) (fun c6 => ?_)
      refine lv_iload_n hx hb dX11_row_19 rfl (lv_at hl 3 rfl) ?_
      refine lv_bipush (v := 60) hx hb dX11_row_20 (by decide) ?_
      refine lv_icmp_le (tgt := 28) hx hb dX11_row_22 (by decide) (fun c8 => ?_) (fun c7 => False.elim (by have z0 := ltT hm; have z1 := nleT c7; have k0 : (0 : Int32).toInt = 0 := (by decide); have k1 : (60 : Int32).toInt = 60 := (by decide); omega))
      refine lv_iload_n hx hb dX11_row_28 rfl (lv_at hl 3 rfl) ?_
      refine lv_if_ge (tgt := 35) hx hb dX11_row_29 (by decide) (fun c9 => False.elim (by have z0 := nltT hw0; have z1 := ltT hm; have z2 := leT c9; have k0 : (0 : Int32).toInt = 0 := (by decide); omega)) (fun c10 => ?_)
      refine lv_bipush (v := (-3)) hx hb dX11_row_32 (by decide) ?_
      exact retDi () hx hb hr hlk (hP.sub [] rfl) (hD.sub [] (by decide) rfl) hS dX11_row_34 ((show _ = spk 4 _ (spr a2 a3) (-2) by rw [spr_m0 hw0 hw3 hm]; decide)) (Nat.le_of_ble_eq_true rfl) (Nat.le_of_ble_eq_true rfl)
    · refine mkD (Qc := (QDi G (fun (r : Int32) (_ : Unit) => r = (spk 4 3 (spr a2 a3) (-2))) (fun _ : Unit => []))) (by decide) (by simp [lg_sl, Value.category]) ?_
      intro p e s m args below meth c ls A hx hb hml hr hlk hown hmn ht hK hP hD hS hA hl
      have hl : lv_has ls 5 [(0, .ref h), (1, .int 3), (2, .int a2), (3, .int a3)] := hl
      refine lv_iload_n hx hb dX11_row_0 rfl (lv_at hl 1 rfl) ?_
      refine behI (runSP (As := [.int 3]) (rest := []) ⟨hx, hb, hml, hown, ht⟩ (pX11_isSlot l G cs h q 3) okS_RX11_290 ⟨by decide, by decide⟩ hK hP [] rfl hl.1 rfl (Nat.le_of_ble_eq_true rfl) dX11_row_1 ⟨by decide, by decide⟩) hP hS hA (fun H locs hP hS => ?_)
      refine lv_topi (fun v1 ev1 => ?_)
      obtain rfl : v1 = 1 := ev1.trans (by decide)
      refine lv_if_eq (tgt := 25) hx hb dX11_row_4 (by decide) (fun c2 => False.elim (by revert c2; decide)) (fun c3 => ?_)
      refine lv_iload_n hx hb dX11_row_7 rfl (lv_at hl 2 rfl) ?_
      refine lv_i2l hx hb dX11_row_8 rfl ?_
      refine lv_lconst (v := 0) hx hb dX11_row_9 (by decide) ?_
      refine lv_ldc2 hx hb hown (ht _ kl_RX11_225) dX11_row_10 ?_
      refine behI (runSP (As := [.long a2.toInt64, .long 0, .long 3]) (rest := []) ⟨hx, hb, hml, hown, ht⟩ (pX11_in l G cs h q a2.toInt64 0 3) okS_RX11_79 ⟨by decide, by decide⟩ hK hP [] rfl hl.1 rfl (Nat.le_of_ble_eq_true rfl) dX11_row_13 ⟨by decide, by decide⟩) hP hS hA (fun H locs hP hS => ?_)
      refine lv_topi (fun v4 ev4 => ?_)
      obtain rfl : v4 = 1 := ev4.trans (inF_y (by have z0 := nltT hw0; have z1 := nltT hw3; have k0 : (0 : Int32).toInt = 0 := (by decide); have k1 : (3 : Int32).toInt = 3 := (by decide); have K0 : (0 : Int64).toInt = 0 := (by decide); have K1 : (3 : Int64).toInt = 3 := (by decide); omega))
      refine lv_if_eq (tgt := 25) hx hb dX11_row_16 (by decide) (fun c5 => False.elim (by revert c5; decide)) (fun c6 => ?_)
      refine lv_iload_n hx hb dX11_row_19 rfl (lv_at hl 3 rfl) ?_
      refine lv_bipush (v := 60) hx hb dX11_row_20 (by decide) ?_
      refine lv_icmp_le (tgt := 28) hx hb dX11_row_22 (by decide) (fun c8 => ?_) (fun c7 => False.elim (by have z0 := nltT hm0; have z1 := nltT hm60; have z2 := nleT c7; have k0 : (0 : Int32).toInt = 0 := (by decide); have k1 : (60 : Int32).toInt = 60 := (by decide); omega))
      refine lv_iload_n hx hb dX11_row_28 rfl (lv_at hl 3 rfl) ?_
      refine lv_if_ge (tgt := 35) hx hb dX11_row_29 (by decide) (fun c10 => ?_) (fun c9 => False.elim (by have z0 := nltT hw0; have z1 := nltT hm0; have z2 := nltT hm60; have z3 := nleT c9; have k0 : (0 : Int32).toInt = 0 := (by decide); have k1 : (60 : Int32).toInt = 60 := (by decide); omega))
      refine lv_aload_n hx hb dX11_row_35 rfl (lv_at hl 0 rfl) ?_
      refine getF hx hb ht hown hK hP iTX11 0 31 rfl rfl (by decide) fl_RX11_61 rfl dX11_row_36 ?_
      refine lv_iload_n hx hb dX11_row_39 rfl (lv_at hl 1 rfl) ?_
      refine lv_iload_n hx hb dX11_row_40 rfl (lv_at hl 3 rfl) ?_
      refine va_iast hx hb hK.1 hP hD hS 1 0 rfl rfl (show ¬ (_ ∨ _) by decide) dX11_row_41 (fun H locs hP hD hS => ?_)
      obtain ⟨f11, hP, hD⟩ : ∃ f11 : Nat → Int32, va_P G vwCl [(mc0 cs h q), (q 31, .inl (cs 0, 4, .inl f11)), (mc32 cs h q), (mc33 cs h q)] H ∧ va_D A [(mc0 cs h q), (q 31, .inl (cs 0, 4, .inl f11)), (mc32 cs h q), (mc33 cs h q)] := ⟨_, hP, hD⟩
      refine lv_aload_n hx hb dX11_row_42 rfl (lv_at hl 0 rfl) ?_
      refine getF hx hb ht hown hK hP iTX11 0 32 rfl rfl (by decide) fl_RX11_64 rfl dX11_row_43 ?_
      refine lv_iload_n hx hb dX11_row_46 rfl (lv_at hl 1 rfl) ?_
      refine lv_iload_n hx hb dX11_row_47 rfl (lv_at hl 2 rfl) ?_
      refine va_iast hx hb hK.1 hP hD hS 2 0 rfl rfl (show ¬ (_ ∨ _) by decide) dX11_row_48 (fun H locs hP hD hS => ?_)
      obtain ⟨f12, hP, hD⟩ : ∃ f12 : Nat → Int32, va_P G vwCl [(mc0 cs h q), (q 31, .inl (cs 0, 4, .inl f11)), (q 32, .inl (cs 0, 4, .inl f12)), (mc33 cs h q)] H ∧ va_D A [(mc0 cs h q), (q 31, .inl (cs 0, 4, .inl f11)), (q 32, .inl (cs 0, 4, .inl f12)), (mc33 cs h q)] := ⟨_, hP, hD⟩
      refine lv_iconst (v := 0) hx hb dX11_row_49 (by decide) ?_
      refine lv_istore (lv' := [(4, .int 0), (0, .ref h), (1, .int 3), (2, .int a2), (3, .int a3)]) hx hb dX11_row_50 hl (by decide) rfl (fun ls hl => ?_)
      have loop13 : ∀ (k i : Nat) (g1 : Nat → Int64) (H : Heap) (locs : List Loc) (ls : Array Slot), i + k = 60 → va_P G vwCl [(mc0 cs h q), (q 31, .inl (cs 0, 4, .inl f11)), (q 32, .inl (cs 0, 4, .inl f12)), (q 33, .inl (cs 2, 240, .inr (.inl g1)))] H → va_D A [(mc0 cs h q), (q 31, .inl (cs 0, 4, .inl f11)), (q 32, .inl (cs 0, 4, .inl f12)), (q 33, .inl (cs 2, 240, .inr (.inl g1)))] → va_S A s.heap H locs → lv_has ls 5 [(4, .int (nI i)), (0, .ref h), (1, .int 3), (2, .int a2), (3, .int a3)] → W p l e (rmk 2 0 0) s m args below meth c H locs 0 0 (MQ below ((QDi G (fun (r : Int32) (_ : Unit) => r = (spk 4 3 (spr a2 a3) (-2))) (fun _ : Unit => [])) A) args s 0 0 A) (F0 m 52 ls []) := by
        intro k
        induction k with
        | zero =>
          intro i g1 H locs ls hi hP hD hS hl
          refine lv_iload hx hb dX11_row_52 (lv_at hl 0 rfl) ?_
          refine lv_bipush (v := 60) hx hb dX11_row_54 (by decide) ?_
          refine lv_icmp_ge (tgt := 78) hx hb dX11_row_56 (by decide) (fun _ => ?_) (fun c9 => False.elim (c9 (by obtain rfl : i = 60 := (by omega); decide)))
          refine lv_iconst (v := 0) hx hb dX11_row_78 (by decide) ?_
          exact retDi () hx hb hr hlk (hP.sub [] rfl) (hD.sub [] (by decide) rfl) hS dX11_row_79 ((show _ = spk 4 _ (spr a2 a3) (-2) by rw [spr_ok hw0 hw3 hm0 hm60]; decide)) (Nat.le_of_ble_eq_true rfl) (Nat.le_of_ble_eq_true rfl)
        | succ k ih =>
          intro i g1 H locs ls hi hP hD hS hl
          refine lv_iload hx hb dX11_row_52 (lv_at hl 0 rfl) ?_
          refine lv_bipush (v := 60) hx hb dX11_row_54 (by decide) ?_
          refine lv_icmp_ge (tgt := 78) hx hb dX11_row_56 (by decide) (fun c9 => absurd c9 (nI_ge (b := 60) (by omega) (by decide))) (fun _ => ?_)
          refine lv_aload_n hx hb dX11_row_59 rfl (lv_at hl 1 rfl) ?_
          refine getF hx hb ht hown hK hP iTX11 0 33 rfl rfl (by decide) fl_RX11_67 rfl dX11_row_60 ?_
          refine lv_bipush (v := 60) hx hb dX11_row_63 (by decide) ?_
          refine lv_iload_n hx hb dX11_row_65 rfl (lv_at hl 2 rfl) ?_
          refine lv_imul hx hb dX11_row_66 ?_
          refine lv_topi (fun v14 ev14 => ?_)
          obtain rfl : v14 = 180 := ev14.trans (by decide)
          refine lv_iload hx hb dX11_row_67 (lv_at hl 0 rfl) ?_
          refine lv_iadd hx hb dX11_row_69 ?_
          refine lv_topi (fun v15 ev15 => ?_)
          obtain rfl : v15 = (nI (180 + i)) := ev15.trans (nI_add 180 i)
          refine lv_lconst (v := 0) hx hb dX11_row_70 (by decide) ?_
          refine va_last hx hb hK.1 hP hD hS 3 2 rfl rfl (vp_in_nI (by omega) (by decide)) dX11_row_71 (fun H locs hP hD hS => ?_)
          obtain ⟨f16, hP, hD⟩ : ∃ f16 : Nat → Int64, va_P G vwCl [(mc0 cs h q), (q 31, .inl (cs 0, 4, .inl f11)), (q 32, .inl (cs 0, 4, .inl f12)), (q 33, .inl (cs 2, 240, .inr (.inl f16)))] H ∧ va_D A [(mc0 cs h q), (q 31, .inl (cs 0, 4, .inl f11)), (q 32, .inl (cs 0, 4, .inl f12)), (q 33, .inl (cs 2, 240, .inr (.inl f16)))] := ⟨_, hP, hD⟩
          refine lv_iinc (v := (nI (i + 1))) (lv' := [(4, .int (nI (i + 1))), (0, .ref h), (1, .int 3), (2, .int a2), (3, .int a3)]) hx hb dX11_row_72 hl (k := 0) rfl (nI_1 _) (by decide) rfl (fun ls hl => ?_)
          refine lv_goto (tgt := 52) hx hb dX11_row_75 (by decide) ?_
          exact ih (i + 1) f16 H locs ls (by omega) hP hD hS (lv_sub hl [0, 1, 2, 3, 4] rfl)
      exact loop13 60 0 (fun _ => 0) H locs ls (by omega) hP hD hS (lv_sub hl [0, 1, 2, 3, 4] rfl)
