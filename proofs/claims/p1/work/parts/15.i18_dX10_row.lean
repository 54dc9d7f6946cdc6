set_option maxRecDepth 100000 in
set_option maxHeartbeats 8000000 in
theorem dX10_row (l : Launch) (G : va_G) (cs : Nat → ClassId) (h : Nat) (q : Nat → Nat) (a1 a2 a3 : Int32) : ImpI l yX10_row cX10_row 4 (some .int) 2 0 0 G (TY cs) [.ref h, .int a1, .int a2, .int a3] [(xc0 cs h q), (xc53 cs h q), (xc54 cs h q), (xc55 cs h q), (xc56 cs h q), (xc57 cs h q), (xc58 cs h q), (xc59 cs h q), (xc60 cs h q), (xc61 cs h q)] (fun (r : Int32) (_ : Unit) => r = (spk 4 a1 (spr a2 a3) (-2))) (fun _ : Unit => []) := by
  rcases cs4 a1 with hn0 | hb0 | rfl | rfl | rfl | rfl
  · refine mkD (Qc := (QDi G (fun (r : Int32) (_ : Unit) => r = (spk 4 a1 (spr a2 a3) (-2))) (fun _ : Unit => []))) (by decide) (by simp [lg_sl, Value.category]) ?_
    intro p e s m args below meth c ls A hx hb hml hr hlk hown hmn ht hK hP hD hS hA hl
    have hl : lv_has ls 4 [(0, .ref h), (1, .int a1), (2, .int a2), (3, .int a3)] := hl
    refine lv_aload_n hx hb dX10_row_0 rfl (lv_at hl 0 rfl) ?_
    refine lv_iload_n hx hb dX10_row_1 rfl (lv_at hl 1 rfl) ?_
    refine behI (runVP (As := [.int a1]) (rest := []) ⟨hx, hb, hml, hown, ht⟩ (pX10_isSlot l G cs h q a1) okV_RX10_348 ⟨by decide, by decide⟩ hK hP [] rfl 0 rfl rfl hl.1 rfl (Nat.le_of_ble_eq_true rfl) dX10_row_2 ⟨by decide, by decide⟩) hP hS hA (fun H locs hP hS => ?_)
    refine lv_topi (fun v1 ev1 => ?_)
    obtain rfl : v1 = 0 := ev1.trans (spk_lo hn0)
    refine lv_if_eq (tgt := 23) hx hb dX10_row_5 (by decide) (fun c3 => ?_) (fun c2 => False.elim (by revert c2; decide))
    refine lv_bipush (v := (-2)) hx hb dX10_row_23 (by decide) ?_
    exact retDi () hx hb hr hlk (hP.sub [] rfl) (hD.sub [] (by decide) rfl) hS dX10_row_25 ((spk_lo hn0).symm) (Nat.le_of_ble_eq_true rfl) (Nat.le_of_ble_eq_true rfl)
  · refine mkD (Qc := (QDi G (fun (r : Int32) (_ : Unit) => r = (spk 4 a1 (spr a2 a3) (-2))) (fun _ : Unit => []))) (by decide) (by simp [lg_sl, Value.category]) ?_
    intro p e s m args below meth c ls A hx hb hml hr hlk hown hmn ht hK hP hD hS hA hl
    have hl : lv_has ls 4 [(0, .ref h), (1, .int a1), (2, .int a2), (3, .int a3)] := hl
    refine lv_aload_n hx hb dX10_row_0 rfl (lv_at hl 0 rfl) ?_
    refine lv_iload_n hx hb dX10_row_1 rfl (lv_at hl 1 rfl) ?_
    refine behI (runVP (As := [.int a1]) (rest := []) ⟨hx, hb, hml, hown, ht⟩ (pX10_isSlot l G cs h q a1) okV_RX10_348 ⟨by decide, by decide⟩ hK hP [] rfl 0 rfl rfl hl.1 rfl (Nat.le_of_ble_eq_true rfl) dX10_row_2 ⟨by decide, by decide⟩) hP hS hA (fun H locs hP hS => ?_)
    refine lv_topi (fun v1 ev1 => ?_)
    obtain rfl : v1 = 0 := ev1.trans (spk_hi (by decide) hb0)
    refine lv_if_eq (tgt := 23) hx hb dX10_row_5 (by decide) (fun c3 => ?_) (fun c2 => False.elim (by revert c2; decide))
    refine lv_bipush (v := (-2)) hx hb dX10_row_23 (by decide) ?_
    exact retDi () hx hb hr hlk (hP.sub [] rfl) (hD.sub [] (by decide) rfl) hS dX10_row_25 ((spk_hi (by decide) hb0).symm) (Nat.le_of_ble_eq_true rfl) (Nat.le_of_ble_eq_true rfl)
  · rcases csr a2 a3 with hw | hw | ⟨hw0, hw3, hm⟩ | ⟨hw0, hw3, hm⟩ | ⟨hw0, hw3, hm0, hm60⟩
    · refine mkD (Qc := (QDi G (fun (r : Int32) (_ : Unit) => r = (spk 4 0 (spr a2 a3) (-2))) (fun _ : Unit => []))) (by decide) (by simp [lg_sl, Value.category]) ?_
      intro p e s m args below meth c ls A hx hb hml hr hlk hown hmn ht hK hP hD hS hA hl
      have hl : lv_has ls 4 [(0, .ref h), (1, .int 0), (2, .int a2), (3, .int a3)] := hl
      refine lv_aload_n hx hb dX10_row_0 rfl (lv_at hl 0 rfl) ?_
      refine lv_iload_n hx hb dX10_row_1 rfl (lv_at hl 1 rfl) ?_
      refine behI (runVP (As := [.int 0]) (rest := []) ⟨hx, hb, hml, hown, ht⟩ (pX10_isSlot l G cs h q 0) okV_RX10_348 ⟨by decide, by decide⟩ hK hP [] rfl 0 rfl rfl hl.1 rfl (Nat.le_of_ble_eq_true rfl) dX10_row_2 ⟨by decide, by decide⟩) hP hS hA (fun H locs hP hS => ?_)
      refine lv_topi (fun v1 ev1 => ?_)
      obtain rfl : v1 = 1 := ev1.trans (by decide)
      refine lv_if_eq (tgt := 23) hx hb dX10_row_5 (by decide) (fun c2 => False.elim (by revert c2; decide)) (fun c3 => ?_)
      refine lv_iload_n hx hb dX10_row_8 rfl (lv_at hl 2 rfl) ?_
      refine lv_if_lt (tgt := 23) hx hb dX10_row_9 (by decide) (fun c5 => ?_) (fun c4 => False.elim (by have z0 := ltT hw; have z1 := nltT c4; have k0 : (0 : Int32).toInt = 0 := (by decide); omega))
      refine lv_bipush (v := (-2)) hx hb dX10_row_23 (by decide) ?_
      exact retDi () hx hb hr hlk (hP.sub [] rfl) (hD.sub [] (by decide) rfl) hS dX10_row_25 ((show _ = spk 4 _ (spr a2 a3) (-2) by rw [spr_w0 hw]; decide)) (Nat.le_of_ble_eq_true rfl) (Nat.le_of_ble_eq_true rfl)
    · refine mkD (Qc := (QDi G (fun (r : Int32) (_ : Unit) => r = (spk 4 0 (spr a2 a3) (-2))) (fun _ : Unit => []))) (by decide) (by simp [lg_sl, Value.category]) ?_
      intro p e s m args below meth c ls A hx hb hml hr hlk hown hmn ht hK hP hD hS hA hl
      have hl : lv_has ls 4 [(0, .ref h), (1, .int 0), (2, .int a2), (3, .int a3)] := hl
      refine lv_aload_n hx hb dX10_row_0 rfl (lv_at hl 0 rfl) ?_
      refine lv_iload_n hx hb dX10_row_1 rfl (lv_at hl 1 rfl) ?_
      refine behI (runVP (As := [.int 0]) (rest := []) ⟨hx, hb, hml, hown, ht⟩ (pX10_isSlot l G cs h q 0) okV_RX10_348 ⟨by decide, by decide⟩ hK hP [] rfl 0 rfl rfl hl.1 rfl (Nat.le_of_ble_eq_true rfl) dX10_row_2 ⟨by decide, by decide⟩) hP hS hA (fun H locs hP hS => ?_)
      refine lv_topi (fun v1 ev1 => ?_)
      obtain rfl : v1 = 1 := ev1.trans (by decide)
      refine lv_if_eq (tgt := 23) hx hb dX10_row_5 (by decide) (fun c2 => False.elim (by revert c2; decide)) (fun c3 => ?_)
      refine lv_iload_n hx hb dX10_row_8 rfl (lv_at hl 2 rfl) ?_
      refine lv_if_lt (tgt := 23) hx hb dX10_row_9 (by decide) (fun c4 => False.elim (by have z0 := ltT hw; have z1 := ltT c4; have k0 : (0 : Int32).toInt = 0 := (by decide); have k1 : (3 : Int32).toInt = 3 := (by decide); omega)) (fun c5 => ?_)
      refine lv_iload_n hx hb dX10_row_12 rfl (lv_at hl 2 rfl) ?_
      refine lv_iconst (v := 3) hx hb dX10_row_13 (by decide) ?_
      refine lv_icmp_gt (tgt := 23) hx hb dX10_row_14 (by decide) (fun c7 => ?_) (fun c6 => False.elim (by have z0 := ltT hw; have z1 := nltT c6; have k0 : (3 : Int32).toInt = 3 := (by decide); omega))
      refine lv_bipush (v := (-2)) hx hb dX10_row_23 (by decide) ?_
      exact retDi () hx hb hr hlk (hP.sub [] rfl) (hD.sub [] (by decide) rfl) hS dX10_row_25 ((show _ = spk 4 _ (spr a2 a3) (-2) by rw [spr_w3 hw]; decide)) (Nat.le_of_ble_eq_true rfl) (Nat.le_of_ble_eq_true rfl)
    · refine mkD (Qc := (QDi G (fun (r : Int32) (_ : Unit) => r = (spk 4 0 (spr a2 a3) (-2))) (fun _ : Unit => []))) (by decide) (by simp [lg_sl, Value.category]) ?_
      intro p e s m args below meth c ls A hx hb hml hr hlk hown hmn ht hK hP hD hS hA hl
      have hl : lv_has ls 4 [(0, .ref h), (1, .int 0), (2, .int a2), (3, .int a3)] := hl
      refine lv_aload_n hx hb dX10_row_0 rfl (lv_at hl 0 rfl) ?_
      refine lv_iload_n hx hb dX10_row_1 rfl (lv_at hl 1 rfl) ?_
      refine behI (runVP (As := [.int 0]) (rest := []) ⟨hx, hb, hml, hown, ht⟩ (pX10_isSlot l G cs h q 0) okV_RX10_348 ⟨by decide, by decide⟩ hK hP [] rfl 0 rfl rfl hl.1 rfl (Nat.le_of_ble_eq_true rfl) dX10_row_2 ⟨by decide, by decide⟩) hP hS hA (fun H locs hP hS => ?_)
      refine lv_topi (fun v1 ev1 => ?_)
      obtain rfl : v1 = 1 := ev1.trans (by decide)
      refine lv_if_eq (tgt := 23) hx hb dX10_row_5 (by decide) (fun c2 => False.elim (by revert c2; decide)) (fun c3 => ?_)
      refine lv_iload_n hx hb dX10_row_8 rfl (lv_at hl 2 rfl) ?_
      refine lv_if_lt (tgt := 23) hx hb dX10_row_9 (by decide) (fun c4 => False.elim (by have z0 := nltT hw0; have z1 := nltT hw3; have z2 := ltT c4; have k0 : (0 : Int32).toInt = 0 := (by decide); have k1 : (3 : Int32).toInt = 3 := (by decide); omega)) (fun c5 => ?_)
      refine lv_iload_n hx hb dX10_row_12 rfl (lv_at hl 2 rfl) ?_
      refine lv_iconst (v := 3) hx hb dX10_row_13 (by decide) ?_
      refine lv_icmp_gt (tgt := 23) hx hb dX10_row_14 (by decide) (fun c6 => False.elim (by have z0 := nltT hw0; have z1 := nltT hw3; have z2 := ltT c6; have k0 : (0 : Int32).toInt = 0 := (by decide); have k1 : (3 : Int32).toInt = 3 := (by decide); omega)) (fun c7 => ?_)
      refine lv_iload_n hx hb dX10_row_17 rfl (lv_at hl 3 rfl) ?_
      refine lv_bipush (v := 60) hx hb dX10_row_18 (by decide) ?_
      refine lv_icmp_le (tgt := 26) hx hb dX10_row_20 (by decide) (fun c8 => False.elim (by have z0 := ltT hm; have z1 := leT c8; have k0 : (60 : Int32).toInt = 60 := (by decide); omega)) (fun c9 => ?_)
      refine lv_bipush (v := (-2)) hx hb dX10_row_23 (by decide) ?_
      exact retDi () hx hb hr hlk (hP.sub [] rfl) (hD.sub [] (by decide) rfl) hS dX10_row_25 ((show _ = spk 4 _ (spr a2 a3) (-2) by rw [spr_m60 hw0 hw3 hm]; decide)) (Nat.le_of_ble_eq_true rfl) (Nat.le_of_ble_eq_true rfl)
    · refine mkD (Qc := (QDi G (fun (r : Int32) (_ : Unit) => r = (spk 4 0 (spr a2 a3) (-2))) (fun _ : Unit => []))) (by decide) (by simp [lg_sl, Value.category]) ?_
      intro p e s m args below meth c ls A hx hb hml hr hlk hown hmn ht hK hP hD hS hA hl
      have hl : lv_has ls 4 [(0, .ref h), (1, .int 0), (2, .int a2), (3, .int a3)] := hl
      refine lv_aload_n hx hb dX10_row_0 rfl (lv_at hl 0 rfl) ?_
      refine lv_iload_n hx hb dX10_row_1 rfl (lv_at hl 1 rfl) ?_
      refine behI (runVP (As := [.int 0]) (rest := []) ⟨hx, hb, hml, hown, ht⟩ (pX10_isSlot l G cs h q 0) okV_RX10_348 ⟨by decide, by decide⟩ hK hP [] rfl 0 rfl rfl hl.1 rfl (Nat.le_of_ble_eq_true rfl) dX10_row_2 ⟨by decide, by decide⟩) hP hS hA (fun H locs hP hS => ?_)
      refine lv_topi (fun v1 ev1 => ?_)
      obtain rfl : v1 = 1 := ev1.trans (by decide)
      refine lv_if_eq (tgt := 23) hx hb dX10_row_5 (by decide) (fun c2 => False.elim (by revert c2; decide)) (fun c3 => ?_)
      refine lv_iload_n hx hb dX10_row_8 rfl (lv_at hl 2 rfl) ?_
      refine lv_if_lt (tgt := 23) hx hb dX10_row_9 (by decide) (fun c4 => False.elim (by have z0 := nltT hw0; have z1 := nltT hw3; have z2 := ltT hm; have z3 := ltT c4; have k0 : (0 : Int32).toInt = 0 := (by decide); have k1 : (3 : Int32).toInt = 3 := (by decide); omega)) (fun c5 => ?_)
      refine lv_iload_n hx hb dX10_row_12 rfl (lv_at hl 2 rfl) ?_
      refine lv_iconst (v := 3) hx hb dX10_row_13 (by decide) ?_
      refine lv_icmp_gt (tgt := 23) hx hb dX10_row_14 (by decide) (fun c6 => False.elim (by have z0 := nltT hw0; have z1 := nltT hw3; have z2 := ltT c6; have k0 : (0 : Int32).toInt = 0 := (by decide); have k1 : (3 : Int32).toInt = 3 := (by decide); omega)) (fun c7 => ?_)
      refine lv_iload_n hx hb dX10_row_17 rfl (lv_at hl 3 rfl) ?_
      refine lv_bipush (v := 60) hx hb dX10_row_18 (by decide) ?_
      refine lv_icmp_le (tgt := 26) hx hb dX10_row_20 (by decide) (fun c9 => ?_) (fun c8 => False.elim (by have z0 := ltT hm; have z1 := nleT c8; have k0 : (0 : Int32).toInt = 0 := (by decide); have k1 : (60 : Int32).toInt = 60 := (by decide); omega))
      refine lv_iload_n hx hb dX10_row_26 rfl (lv_at hl 3 rfl) ?_
      refine lv_if_ge (tgt := 33) hx hb dX10_row_27 (by decide) (fun c10 => False.elim (by have z0 := nltT hw0; have z1 := ltT hm; have z2 := leT c10; have k0 : (0 : Int32).toInt = 0 := (by decide); omega)) (fun c11 => ?_)
      refine lv_bipush (v := (-3)) hx hb dX10_row_30 (by decide) ?_
      exact retDi () hx hb hr hlk (hP.sub [] rfl) (hD.sub [] (by decide) rfl) hS dX10_row_32 ((show _ = spk 4 _ (spr a2 a3) (-2) by rw [spr_m0 hw0 hw3 hm]; decide)) (Nat.le_of_ble_eq_true rfl) (Nat.le_of_ble_eq_true rfl)
    · refine mkD (Qc := (QDi G (fun (r : Int32) (_ : Unit) => r = (spk 4 0 (spr a2 a3) (-2))) (fun _ : Unit => []))) (by decide) (by simp [lg_sl, Value.category]) ?_
      intro p e s m args below meth c ls A hx hb hml hr hlk hown hmn ht hK hP hD hS hA hl
      have hl : lv_has ls 4 [(0, .ref h), (1, .int 0), (2, .int a2), (3, .int a3)] := hl
      refine lv_aload_n hx hb dX10_row_0 rfl (lv_at hl 0 rfl) ?_
      refine lv_iload_n hx hb dX10_row_1 rfl (lv_at hl 1 rfl) ?_
      refine behI (runVP (As := [.int 0]) (rest := []) ⟨hx, hb, hml, hown, ht⟩ (pX10_isSlot l G cs h q 0) okV_RX10_348 ⟨by decide, by decide⟩ hK hP [] rfl 0 rfl rfl hl.1 rfl (Nat.le_of_ble_eq_true rfl) dX10_row_2 ⟨by decide, by decide⟩) hP hS hA (fun H locs hP hS => ?_)
      refine lv_topi (fun v1 ev1 => ?_)
      obtain rfl : v1 = 1 := ev1.trans (by decide)
      refine lv_if_eq (tgt := 23) hx hb dX10_row_5 (by decide) (fun c2 => False.elim (by revert c2; decide)) (fun c3 => ?_)
      refine lv_iload_n hx hb dX10_row_8 rfl (lv_at hl 2 rfl) ?_
      refine lv_if_lt (tgt := 23) hx hb dX10_row_9 (by decide) (fun c4 => False.elim (by have z0 := nltT hw0; have z1 := nltT hw3; have z2 := nltT hm0; have z3 := ltT c4; have k0 : (0 : Int32).toInt = 0 := (by decide); have k1 : (3 : Int32).toInt = 3 := (by decide); omega)) (fun c5 => ?_)
      refine lv_iload_n hx hb dX10_row_12 rfl (lv_at hl 2 rfl) ?_
      refine lv_iconst (v := 3) hx hb dX10_row_13 (by decide) ?_
      refine lv_icmp_gt (tgt := 23) hx hb dX10_row_14 (by decide) (fun c6 => False.elim (by have z0 := nltT hw0; have z1 := nltT hw3; have z2 := ltT c6; have k0 : (0 : Int32).toInt = 0 := (by decide); have k1 : (3 : Int32).toInt = 3 := (by decide); omega)) (fun c7 => ?_)
      refine lv_iload_n hx hb dX10_row_17 rfl (lv_at hl 3 rfl) ?_
      refine lv_bipush (v := 60) hx hb dX10_row_18 (by decide) ?_
      refine lv_icmp_le (tgt := 26) hx hb dX10_row_20 (by decide) (fun c9 => ?_) (fun c8 => False.elim (by have z0 := nltT hm0; have z1 := nltT hm60; have z2 := nleT c8; have k0 : (0 : Int32).toInt = 0 := (by decide); have k1 : (60 : Int32).toInt = 60 := (by decide); omega))
      refine lv_iload_n hx hb dX10_row_26 rfl (lv_at hl 3 rfl) ?_
      refine lv_if_ge (tgt := 33) hx hb dX10_row_27 (by decide) (fun c11 => ?_) (fun c10 => False.elim (by have z0 := nltT hw0; have z1 := nltT hm0; have z2 := nltT hm60; have z3 := nleT c10; have k0 : (0 : Int32).toInt = 0 := (by decide); have k1 : (60 : Int32).toInt = 60 := (by decide); omega))
      refine lv_aload_n hx hb dX10_row_33 rfl (lv_at hl 0 rfl) ?_
      refine getF hx hb ht hown hK hP iTX10 0 5 rfl rfl (by decide) fl_RX10_41 rfl dX10_row_34 ?_
      refine lv_iload_n hx hb dX10_row_37 rfl (lv_at hl 1 rfl) ?_
      refine va_aldq hx hb hK.1 hP 1 5 rfl rfl (show ¬ (_ ∨ _) by decide) dX10_row_38 ?_
      refine W.eq (g2 := F0 m 39 ls [.ref (q 54)]) rfl ?_
      refine lv_iload_n hx hb dX10_row_39 rfl (lv_at hl 2 rfl) ?_
      refine lv_iload_n hx hb dX10_row_40 rfl (lv_at hl 3 rfl) ?_
      refine behDv (wr := [(xc0 cs h q), (xc53 cs h q), (xc56 cs h q), (xc57 cs h q), (xc58 cs h q), (xc59 cs h q), (xc60 cs h q), (xc61 cs h q)]) (runVD (As := [.int a2, .int a3]) (rest := []) ⟨hx, hb, hml, hown, ht⟩ (dX7_make l G cs (q 54) (q 55) a2 a3) okV_RX10_351 ⟨by decide, by decide⟩ hK hP hD [2, 3] rfl (by decide) rfl 2 rfl rfl hl.1 rfl (Nat.le_of_ble_eq_true rfl) dX10_row_41 ⟨Nat.le_of_ble_eq_true rfl, Nat.le_of_ble_eq_true rfl⟩) hP hD hS hA [2, 3] [0, 1, 4, 5, 6, 7, 8, 9] rfl rfl (by decide) (by decide) (fun u H locs hP hD hS => ?_)
      have hP : va_P G vwCl [(xc0 cs h q), (xc53 cs h q), (xc56 cs h q), (xc57 cs h q), (xc58 cs h q), (xc59 cs h q), (xc60 cs h q), (xc61 cs h q)] H := hP
      have hD : va_D A [(xc0 cs h q), (xc53 cs h q), (xc56 cs h q), (xc57 cs h q), (xc58 cs h q), (xc59 cs h q), (xc60 cs h q), (xc61 cs h q)] := hD
      refine lv_iconst (v := 0) hx hb dX10_row_44 (by decide) ?_
      exact retDi () hx hb hr hlk (hP.sub [] rfl) (hD.sub [] (by decide) rfl) hS dX10_row_45 ((show _ = spk 4 _ (spr a2 a3) (-2) by rw [spr_ok hw0 hw3 hm0 hm60]; decide)) (Nat.le_of_ble_eq_true rfl) (Nat.le_of_ble_eq_true rfl)
  · rcases csr a2 a3 with hw | hw | ⟨hw0, hw3, hm⟩ | ⟨hw0, hw3, hm⟩ | ⟨hw0, hw3, hm0, hm60⟩
    · refine mkD (Qc := (QDi G (fun (r : Int32) (_ : Unit) => r = (spk 4 1 (spr a2 a3) (-2))) (fun _ : Unit => []))) (by decide) (by simp [lg_sl, Value.category]) ?_
      intro p e s m args below meth c ls A hx hb hml hr hlk hown hmn ht hK hP hD hS hA hl
      have hl : lv_has ls 4 [(0, .ref h), (1, .int 1), (2, .int a2), (3, .int a3)] := hl
      refine lv_aload_n hx hb dX10_row_0 rfl (lv_at hl 0 rfl) ?_
      refine lv_iload_n hx hb dX10_row_1 rfl (lv_at hl 1 rfl) ?_
      refine behI (runVP (As := [.int 1]) (rest := []) ⟨hx, hb, hml, hown, ht⟩ (pX10_isSlot l G cs h q 1) okV_RX10_348 ⟨by decide, by decide⟩ hK hP [] rfl 0 rfl rfl hl.1 rfl (Nat.le_of_ble_eq_true rfl) dX10_row_2 ⟨by decide, by decide⟩) hP hS hA (fun H locs hP hS => ?_)
      refine lv_topi (fun v1 ev1 => ?_)
      obtain rfl : v1 = 1 := ev1.trans (by decide)
      refine lv_if_eq (tgt := 23) hx hb dX10_row_5 (by decide) (fun c2 => False.elim (by revert c2; decide)) (fun c3 => ?_)
      refine lv_iload_n hx hb dX10_row_8 rfl (lv_at hl 2 rfl) ?_
      refine lv_if_lt (tgt := 23) hx hb dX10_row_9 (by decide) (fun c5 => ?_) (fun c4 => False.elim (by have z0 := ltT hw; have z1 := nltT c4; have k0 : (0 : Int32).toInt = 0 := (by decide); omega))
      refine lv_bipush (v := (-2)) hx hb dX10_row_23 (by decide) ?_
      exact retDi () hx hb hr hlk (hP.sub [] rfl) (hD.sub [] (by decide) rfl) hS dX10_row_25 ((show _ = spk 4 _ (spr a2 a3) (-2) by rw [spr_w0 hw]; decide)) (Nat.le_of_ble_eq_true rfl) (Nat.le_of_ble_eq_true rfl)
    · refine mkD (Qc := (QDi G (fun (r : Int32) (_ : Unit) => r = (spk 4 1 (spr a2 a3) (-2))) (fun _ : Unit => []))) (by decide) (by simp [lg_sl, Value.category]) ?_
      intro p e s m args below meth c ls A hx hb hml hr hlk hown hmn ht hK hP hD hS hA hl
      have hl : lv_has ls 4 [(0, .ref h), (1, .int 1), (2, .int a2), (3, .int a3)] := hl
      refine lv_aload_n hx hb dX10_row_0 rfl (lv_at hl 0 rfl) ?_
      refine lv_iload_n hx hb dX10_row_1 rfl (lv_at hl 1 rfl) ?_
      refine behI (runVP (As := [.int 1]) (rest := []) ⟨hx, hb, hml, hown, ht⟩ (pX10_isSlot l G cs h q 1) okV_RX10_348 ⟨by decide, by decide⟩ hK hP [] rfl 0 rfl rfl hl.1 rfl (Nat.le_of_ble_eq_true rfl) dX10_row_2 ⟨by decide, by decide⟩) hP hS hA (fun H locs hP hS => ?_)
      refine lv_topi (fun v1 ev1 => ?_)
      obtain rfl : v1 = 1 := ev1.trans (by decide)
      refine lv_if_eq (tgt := 23) hx hb dX10_row_5 (by decide) (fun c2 => False.elim (by revert c2; decide)) (fun c3 => ?_)
      refine lv_iload_n hx hb dX10_row_8 rfl (lv_at hl 2 rfl) ?_
      refine lv_if_lt (tgt := 23) hx hb dX10_row_9 (by decide) (fun c4 => False.elim (by have z0 := ltT hw; have z1 := ltT c4; have k0 : (0 : Int32).toInt = 0 := (by decide); have k1 : (3 : Int32).toInt = 3 := (by decide); omega)) (fun c5 => ?_)
      refine lv_iload_n hx hb dX10_row_12 rfl (lv_at hl 2 rfl) ?_
      refine lv_iconst (v := 3) hx hb dX10_row_13 (by decide) ?_
      refine lv_icmp_gt (tgt := 23) hx hb dX10_row_14 (by decide) (fun c7 => ?_) (fun c6 => False.elim (by have z0 := ltT hw; have z1 := nltT c6; have k0 : (3 : Int32).toInt = 3 := (by decide); omega))
      refine lv_bipush (v := (-2)) hx hb dX10_row_23 (by decide) ?_
      exact retDi () hx hb hr hlk (hP.sub [] rfl) (hD.sub [] (by decide) rfl) hS dX10_row_25 ((show _ = spk 4 _ (spr a2 a3) (-2) by rw [spr_w3 hw]; decide)) (Nat.le_of_ble_eq_true rfl) (Nat.le_of_ble_eq_true rfl)
    · refine mkD (Qc := (QDi G (fun (r : Int32) (_ : Unit) => r = (spk 4 1 (spr a2 a3) (-2))) (fun _ : Unit => []))) (by decide) (by simp [lg_sl, Value.category]) ?_
      intro p e s m args below meth c ls A hx hb hml hr hlk hown hmn ht hK hP hD hS hA hl
      have hl : lv_has ls 4 [(0, .ref h), (1, .int 1), (2, .int a2), (3, .int a3)] := hl
      refine lv_aload_n hx hb dX10_row_0 rfl (lv_at hl 0 rfl) ?_
      refine lv_iload_n hx hb dX10_row_1 rfl (lv_at hl 1 rfl) ?_
      refine behI (runVP (As := [.int 1]) (rest := []) ⟨hx, hb, hml, hown, ht⟩ (pX10_isSlot l G cs h q 1) okV_RX10_348 ⟨by decide, by decide⟩ hK hP [] rfl 0 rfl rfl hl.1 rfl (Nat.le_of_ble_eq_true rfl) dX10_row_2 ⟨by decide, by decide⟩) hP hS hA (fun H locs hP hS => ?_)
      refine lv_topi (fun v1 ev1 => ?_)
      obtain rfl : v1 = 1 := ev1.trans (by decide)
      refine lv_if_eq (tgt := 23) hx hb dX10_row_5 (by decide) (fun c2 => False.elim (by revert c2; decide)) (fun c3 => ?_)
      refine lv_iload_n hx hb dX10_row_8 rfl (lv_at hl 2 rfl) ?_
      refine lv_if_lt (tgt := 23) hx hb dX10_row_9 (by decide) (fun c4 => False.elim (by have z0 := nltT hw0; have z1 := nltT hw3; have z2 := ltT c4; have k0 : (0 : Int32).toInt = 0 := (by decide); have k1 : (3 : Int32).toInt = 3 := (by decide); omega)) (fun c5 => ?_)
      refine lv_iload_n hx hb dX10_row_12 rfl (lv_at hl 2 rfl) ?_
      refine lv_iconst (v := 3) hx hb dX10_row_13 (by decide) ?_
      refine lv_icmp_gt (tgt := 23) hx hb dX10_row_14 (by decide) (fun c6 => False.elim (by have z0 := nltT hw0; have z1 := nltT hw3; have z2 := ltT c6; have k0 : (0 : Int32).toInt = 0 := (by decide); have k1 : (3 : Int32).toInt = 3 := (by decide); omega)) (fun c7 => ?_)
      refine lv_iload_n hx hb dX10_row_17 rfl (lv_at hl 3 rfl) ?_
      refine lv_bipush (v := 60) hx hb dX10_row_18 (by decide) ?_
      refine lv_icmp_le (tgt := 26) hx hb dX10_row_20 (by decide) (fun c8 => False.elim (by have z0 := ltT hm; have z1 := leT c8; have k0 : (60 : Int32).toInt = 60 := (by decide); omega)) (fun c9 => ?_)
      refine lv_bipush (v := (-2)) hx hb dX10_row_23 (by decide) ?_
      exact retDi () hx hb hr hlk (hP.sub [] rfl) (hD.sub [] (by decide) rfl) hS dX10_row_25 ((show _ = spk 4 _ (spr a2 a3) (-2) by rw [spr_m60 hw0 hw3 hm]; decide)) (Nat.le_of_ble_eq_true rfl) (Nat.le_of_ble_eq_true rfl)
    · refine mkD (Qc := (QDi G (fun (r : Int32) (_ : Unit) => r = (spk 4 1 (spr a2 a3) (-2))) (fun _ : Unit => []))) (by decide) (by simp [lg_sl, Value.category]) ?_
      intro p e s m args below meth c ls A hx hb hml hr hlk hown hmn ht hK hP hD hS hA hl
      have hl : lv_has ls 4 [(0, .ref h), (1, .int 1), (2, .int a2), (3, .int a3)] := hl
      refine lv_aload_n hx hb dX10_row_0 rfl (lv_at hl 0 rfl) ?_
      refine lv_iload_n hx hb dX10_row_1 rfl (lv_at hl 1 rfl) ?_
      refine behI (runVP (As := [.int 1]) (rest := []) ⟨hx, hb, hml, hown, ht⟩ (pX10_isSlot l G cs h q 1) okV_RX10_348 ⟨by decide, by decide⟩ hK hP [] rfl 0 rfl rfl hl.1 rfl (Nat.le_of_ble_eq_true rfl) dX10_row_2 ⟨by decide, by decide⟩) hP hS hA (fun H locs hP hS => ?_)
      refine lv_topi (fun v1 ev1 => ?_)
      obtain rfl : v1 = 1 := ev1.trans (by decide)
      refine lv_if_eq (tgt := 23) hx hb dX10_row_5 (by decide) (fun c2 => False.elim (by revert c2; decide)) (fun c3 => ?_)
      refine lv_iload_n hx hb dX10_row_8 rfl (lv_at hl 2 rfl) ?_
      refine lv_if_lt (tgt := 23) hx hb dX10_row_9 (by decide) (fun c4 => False.elim (by have z0 := nltT hw0; have z1 := nltT hw3; have z2 := ltT hm; have z3 := ltT c4; have k0 : (0 : Int32).toInt = 0 := (by decide); have k1 : (3 : Int32).toInt = 3 := (by decide); omega)) (fun c5 => ?_)
      refine lv_iload_n hx hb dX10_row_12 rfl (lv_at hl 2 rfl) ?_
      refine lv_iconst (v := 3) hx hb dX10_row_13 (by decide) ?_
      refine lv_icmp_gt (tgt := 23) hx hb dX10_row_14 (by decide) (fun c6 => False.elim (by have z0 := nltT hw0; have z1 := nltT hw3; have z2 := ltT c6; have k0 : (0 : Int32).toInt = 0 := (by decide); have k1 : (3 : Int32).toInt = 3 := (by decide); omega)) (fun c7 => ?_)
      refine lv_iload_n hx hb dX10_row_17 rfl (lv_at hl 3 rfl) ?_
      refine lv_bipush (v := 60) hx hb dX10_row_18 (by decide) ?_
      refine lv_icmp_le (tgt := 26) hx hb dX10_row_20 (by decide) (fun c9 => ?_) (fun c8 => False.elim (by have z0 := ltT hm; have z1 := nleT c8; have k0 : (0 : Int32).toInt = 0 := (by decide); have k1 : (60 : Int32).toInt = 60 := (by decide); omega))
      refine lv_iload_n hx hb dX10_row_26 rfl (lv_at hl 3 rfl) ?_
      refine lv_if_ge (tgt := 33) hx hb dX10_row_27 (by decide) (fun c10 => False.elim (by have z0 := nltT hw0; have z1 := ltT hm; have z2 := leT c10; have k0 : (0 : Int32).toInt = 0 := (by decide); omega)) (fun c11 => ?_)
      refine lv_bipush (v := (-3)) hx hb dX10_row_30 (by decide) ?_
      exact retDi () hx hb hr hlk (hP.sub [] rfl) (hD.sub [] (by decide) rfl) hS dX10_row_32 ((show _ = spk 4 _ (spr a2 a3) (-2) by rw [spr_m0 hw0 hw3 hm]; decide)) (Nat.le_of_ble_eq_true rfl) (Nat.le_of_ble_eq_true rfl)
    · refine mkD (Qc := (QDi G (fun (r : Int32) (_ : Unit) => r = (spk 4 1 (spr a2 a3) (-2))) (fun _ : Unit => []))) (by decide) (by simp [lg_sl, Value.category]) ?_
      intro p e s m args below meth c ls A hx hb hml hr hlk hown hmn ht hK hP hD hS hA hl
      have hl : lv_has ls 4 [(0, .ref h), (1, .int 1), (2, .int a2), (3, .int a3)] := hl
      refine lv_aload_n hx hb dX10_row_0 rfl (lv_at hl 0 rfl) ?_
      refine lv_iload_n hx hb dX10_row_1 rfl (lv_at hl 1 rfl) ?_
      refine behI (runVP (As := [.int 1]) (rest := []) ⟨hx, hb, hml, hown, ht⟩ (pX10_isSlot l G cs h q 1) okV_RX10_348 ⟨by decide, by decide⟩ hK hP [] rfl 0 rfl rfl hl.1 rfl (Nat.le_of_ble_eq_true rfl) dX10_row_2 ⟨by decide, by decide⟩) hP hS hA (fun H locs hP hS => ?_)
      refine lv_topi (fun v1 ev1 => ?_)
      obtain rfl : v1 = 1 := ev1.trans (by decide)
      refine lv_if_eq (tgt := 23) hx hb dX10_row_5 (by decide) (fun c2 => False.elim (by revert c2; decide)) (fun c3 => ?_)
      refine lv_iload_n hx hb dX10_row_8 rfl (lv_at hl 2 rfl) ?_
      refine lv_if_lt (tgt := 23) hx hb dX10_row_9 (by decide) (fun c4 => False.elim (by have z0 := nltT hw0; have z1 := nltT hw3; have z2 := nltT hm0; have z3 := ltT c4; have k0 : (0 : Int32).toInt = 0 := (by decide); have k1 : (3 : Int32).toInt = 3 := (by decide); omega)) (fun c5 => ?_)
      refine lv_iload_n hx hb dX10_row_12 rfl (lv_at hl 2 rfl) ?_
      refine lv_iconst (v := 3) hx hb dX10_row_13 (by decide) ?_
      refine lv_icmp_gt (tgt := 23) hx hb dX10_row_14 (by decide) (fun c6 => False.elim (by have z0 := nltT hw0; have z1 := nltT hw3; have z2 := ltT c6; have k0 : (0 : Int32).toInt = 0 := (by decide); have k1 : (3 : Int32).toInt = 3 := (by decide); omega)) (fun c7 => ?_)
      refine lv_iload_n hx hb dX10_row_17 rfl (lv_at hl 3 rfl) ?_
      refine lv_bipush (v := 60) hx hb dX10_row_18 (by decide) ?_
      refine lv_icmp_le (tgt := 26) hx hb dX10_row_20 (by decide) (fun c9 => ?_) (fun c8 => False.elim (by have z0 := nltT hm0; have z1 := nltT hm60; have z2 := nleT c8; have k0 : (0 : Int32).toInt = 0 := (by decide); have k1 : (60 : Int32).toInt = 60 := (by decide); omega))
      refine lv_iload_n hx hb dX10_row_26 rfl (lv_at hl 3 rfl) ?_
      refine lv_if_ge (tgt := 33) hx hb dX10_row_27 (by decide) (fun c11 => ?_) (fun c10 => False.elim (by have z0 := nltT hw0; have z1 := nltT hm0; have z2 := nltT hm60; have z3 := nleT c10; have k0 : (0 : Int32).toInt = 0 := (by decide); have k1 : (60 : Int32).toInt = 60 := (by decide); omega))
      refine lv_aload_n hx hb dX10_row_33 rfl (lv_at hl 0 rfl) ?_
      refine getF hx hb ht hown hK hP iTX10 0 5 rfl rfl (by decide) fl_RX10_41 rfl dX10_row_34 ?_
      refine lv_iload_n hx hb dX10_row_37 rfl (lv_at hl 1 rfl) ?_
      refine va_aldq hx hb hK.1 hP 1 5 rfl rfl (show ¬ (_ ∨ _) by decide) dX10_row_38 ?_
      refine W.eq (g2 := F0 m 39 ls [.ref (q 56)]) rfl ?_
      refine lv_iload_n hx hb dX10_row_39 rfl (lv_at hl 2 rfl) ?_
      refine lv_iload_n hx hb dX10_row_40 rfl (lv_at hl 3 rfl) ?_
      refine behDv (wr := [(xc0 cs h q), (xc53 cs h q), (xc54 cs h q), (xc55 cs h q), (xc58 cs h q), (xc59 cs h q), (xc60 cs h q), (xc61 cs h q)]) (runVD (As := [.int a2, .int a3]) (rest := []) ⟨hx, hb, hml, hown, ht⟩ (dX7_make l G cs (q 56) (q 57) a2 a3) okV_RX10_351 ⟨by decide, by decide⟩ hK hP hD [4, 5] rfl (by decide) rfl 4 rfl rfl hl.1 rfl (Nat.le_of_ble_eq_true rfl) dX10_row_41 ⟨Nat.le_of_ble_eq_true rfl, Nat.le_of_ble_eq_true rfl⟩) hP hD hS hA [4, 5] [0, 1, 2, 3, 6, 7, 8, 9] rfl rfl (by decide) (by decide) (fun u H locs hP hD hS => ?_)
      have hP : va_P G vwCl [(xc0 cs h q), (xc53 cs h q), (xc54 cs h q), (xc55 cs h q), (xc58 cs h q), (xc59 cs h q), (xc60 cs h q), (xc61 cs h q)] H := hP
      have hD : va_D A [(xc0 cs h q), (xc53 cs h q), (xc54 cs h q), (xc55 cs h q), (xc58 cs h q), (xc59 cs h q), (xc60 cs h q), (xc61 cs h q)] := hD
      refine lv_iconst (v := 0) hx hb dX10_row_44 (by decide) ?_
      exact retDi () hx hb hr hlk (hP.sub [] rfl) (hD.sub [] (by decide) rfl) hS dX10_row_45 ((show _ = spk 4 _ (spr a2 a3) (-2) by rw [spr_ok hw0 hw3 hm0 hm60]; decide)) (Nat.le_of_ble_eq_true rfl) (Nat.le_of_ble_eq_true rfl)
  · rcases csr a2 a3 with hw | hw | ⟨hw0, hw3, hm⟩ | ⟨hw0, hw3, hm⟩ | ⟨hw0, hw3, hm0, hm60⟩
    · refine mkD (Qc := (QDi G (fun (r : Int32) (_ : Unit) => r = (spk 4 2 (spr a2 a3) (-2))) (fun _ : Unit => []))) (by decide) (by simp [lg_sl, Value.category]) ?_
      intro p e s m args below meth c ls A hx hb hml hr hlk hown hmn ht hK hP hD hS hA hl
      have hl : lv_has ls 4 [(0, .ref h), (1, .int 2), (2, .int a2), (3, .int a3)] := hl
      refine lv_aload_n hx hb dX10_row_0 rfl (lv_at hl 0 rfl) ?_
      refine lv_iload_n hx hb dX10_row_1 rfl (lv_at hl 1 rfl) ?_
      refine behI (runVP (As := [.int 2]) (rest := []) ⟨hx, hb, hml, hown, ht⟩ (pX10_isSlot l G cs h q 2) okV_RX10_348 ⟨by decide, by decide⟩ hK hP [] rfl 0 rfl rfl hl.1 rfl (Nat.le_of_ble_eq_true rfl) dX10_row_2 ⟨by decide, by decide⟩) hP hS hA (fun H locs hP hS => ?_)
      refine lv_topi (fun v1 ev1 => ?_)
      obtain rfl : v1 = 1 := ev1.trans (by decide)
      refine lv_if_eq (tgt := 23) hx hb dX10_row_5 (by decide) (fun c2 => False.elim (by revert c2; decide)) (fun c3 => ?_)
      refine lv_iload_n hx hb dX10_row_8 rfl (lv_at hl 2 rfl) ?_
      refine lv_if_lt (tgt := 23) hx hb dX10_row_9 (by decide) (fun c5 => ?_) (fun c4 => False.elim (by have z0 := ltT hw; have z1 := nltT c4; have k0 : (0 : Int32).toInt = 0 := (by decide); omega))
      refine lv_bipush (v := (-2)) hx hb dX10_row_23 (by decide) ?_
      exact retDi () hx hb hr hlk (hP.sub [] rfl) (hD.sub [] (by decide) rfl) hS dX10_row_25 ((show _ = spk 4 _ (spr a2 a3) (-2) by rw [spr_w0 hw]; decide)) (Nat.le_of_ble_eq_true rfl) (Nat.le_of_ble_eq_true rfl)
    · refine mkD (Qc := (QDi G (fun (r : Int32) (_ : Unit) => r = (spk 4 2 (spr a2 a3) (-2))) (fun _ : Unit => []))) (by decide) (by simp [lg_sl, Value.category]) ?_
      intro p e s m args below meth c ls A hx hb hml hr hlk hown hmn ht hK hP hD hS hA hl
      have hl : lv_has ls 4 [(0, .ref h), (1, .int 2), (2, .int a2), (3, .int a3)] := hl
      refine lv_aload_n hx hb dX10_row_0 rfl (lv_at hl 0 rfl) ?_
      refine lv_iload_n hx hb dX10_row_1 rfl (lv_at hl 1 rfl) ?_
      refine behI (runVP (As := [.int 2]) (rest := []) ⟨hx, hb, hml, hown, ht⟩ (pX10_isSlot l G cs h q 2) okV_RX10_348 ⟨by decide, by decide⟩ hK hP [] rfl 0 rfl rfl hl.1 rfl (Nat.le_of_ble_eq_true rfl) dX10_row_2 ⟨by decide, by decide⟩) hP hS hA (fun H locs hP hS => ?_)
      refine lv_topi (fun v1 ev1 => ?_)
      obtain rfl : v1 = 1 := ev1.trans (by decide)
      refine lv_if_eq (tgt := 23) hx hb dX10_row_5 (by decide) (fun c2 => False.elim (by revert c2; decide)) (fun c3 => ?_)
      refine lv_iload_n hx hb dX10_row_8 rfl (lv_at hl 2 rfl) ?_
      refine lv_if_lt (tgt := 23) hx hb dX10_row_9 (by decide) (fun c4 => False.elim (by have z0 := ltT hw; have z1 := ltT c4; have k0 : (0 : Int32).toInt = 0 := (by decide); have k1 : (3 : Int32).toInt = 3 := (by decide); omega)) (fun c5 => ?_)
      refine lv_iload_n hx hb dX10_row_12 rfl (lv_at hl 2 rfl) ?_
      refine lv_iconst (v := 3) hx hb dX10_row_13 (by decide) ?_
      refine lv_icmp_gt (tgt := 23) hx hb dX10_row_14 (by decide) (fun c7 => ?_) (fun c6 => False.elim (by have z0 := ltT hw; have z1 := nltT c6; have k0 : (3 : Int32).toInt = 3 := (by decide); omega))
      refine lv_bipush (v := (-2)) hx hb dX10_row_23 (by decide) ?_
      exact retDi () hx hb hr hlk (hP.sub [] rfl) (hD.sub [] (by decide) rfl) hS dX10_row_25 ((show _ = spk 4 _ (spr a2 a3) (-2) by rw [spr_w3 hw]; decide)) (Nat.le_of_ble_eq_true rfl) (Nat.le_of_ble_eq_true rfl)
    · refine mkD (Qc := (QDi G (fun (r : Int32) (_ : Unit) => r = (spk 4 2 (spr a2 a3) (-2))) (fun _ : Unit => []))) (by decide) (by simp [lg_sl, Value.category]) ?_
      intro p e s m args below meth c ls A hx hb hml hr hlk hown hmn ht hK hP hD hS hA hl
      have hl : lv_has ls 4 [(0, .ref h), (1, .int 2), (2, .int a2), (3, .int a3)] := hl
      refine lv_aload_n hx hb dX10_row_0 rfl (lv_at hl 0 rfl) ?_
      refine lv_iload_n hx hb dX10_row_1 rfl (lv_at hl 1 rfl) ?_
      refine behI (runVP (As := [.int 2]) (rest := []) ⟨hx, hb, hml, hown, ht⟩ (pX10_isSlot l G cs h q 2) okV_RX10_348 ⟨by decide, by decide⟩ hK hP [] rfl 0 rfl rfl hl.1 rfl (Nat.le_of_ble_eq_true rfl) dX10_row_2 ⟨by decide, by decide⟩) hP hS hA (fun H locs hP hS => ?_)
      refine lv_topi (fun v1 ev1 => ?_)
      obtain rfl : v1 = 1 := ev1.trans (by decide)
      refine lv_if_eq (tgt := 23) hx hb dX10_row_5 (by decide) (fun c2 => False.elim (by revert c2; decide)) (fun c3 => ?_)
      refine lv_iload_n hx hb dX10_row_8 rfl (lv_at hl 2 rfl) ?_
      refine lv_if_lt (tgt := 23) hx hb dX10_row_9 (by decide) (fun c4 => False.elim (by have z0 := nltT hw0; have z1 := nltT hw3; have z2 := ltT c4; have k0 : (0 : Int32).toInt = 0 := (by decide); have k1 : (3 : Int32).toInt = 3 := (by decide); omega)) (fun c5 => ?_)
      refine lv_iload_n hx hb dX10_row_12 rfl (lv_at hl 2 rfl) ?_
      refine lv_iconst (v := 3) hx hb dX10_row_13 (by decide) ?_
      refine lv_icmp_gt (tgt := 23) hx hb dX10_row_14 (by decide) (fun c6 => False.elim (by have z0 := nltT hw0; have z1 := nltT hw3; have z2 := ltT c6; have k0 : (0 : Int32).toInt = 0 := (by decide); have k1 : (3 : Int32).toInt = 3 := (by decide); omega)) (fun c7 => ?_)
      refine lv_iload_n hx hb dX10_row_17 rfl (lv_at hl 3 rfl) ?_
      refine lv_bipush (v := 60) hx hb dX10_row_18 (by decide) ?_
      refine lv_icmp_le (tgt := 26) hx hb dX10_row_20 (by decide) (fun c8 => False.elim (by have z0 := ltT hm; have z1 := leT c8; have k0 : (60 : Int32).toInt = 60 := (by decide); omega)) (fun c9 => ?_)
      refine lv_bipush (v := (-2)) hx hb dX10_row_23 (by decide) ?_
      exact retDi () hx hb hr hlk (hP.sub [] rfl) (hD.sub [] (by decide) rfl) hS dX10_row_25 ((show _ = spk 4 _ (spr a2 a3) (-2) by rw [spr_m60 hw0 hw3 hm]; decide)) (Nat.le_of_ble_eq_true rfl) (Nat.le_of_ble_eq_true rfl)
    · refine mkD (Qc := (QDi G (fun (r : Int32) (_ : Unit) => r = (spk 4 2 (spr a2 a3) (-2))) (fun _ : Unit => []))) (by decide) (by simp [lg_sl, Value.category]) ?_
      intro p e s m args below meth c ls A hx hb hml hr hlk hown hmn ht hK hP hD hS hA hl
      have hl : lv_has ls 4 [(0, .ref h), (1, .int 2), (2, .int a2), (3, .int a3)] := hl
      refine lv_aload_n hx hb dX10_row_0 rfl (lv_at hl 0 rfl) ?_
      refine lv_iload_n hx hb dX10_row_1 rfl (lv_at hl 1 rfl) ?_
      refine behI (runVP (As := [.int 2]) (rest := []) ⟨hx, hb, hml, hown, ht⟩ (pX10_isSlot l G cs h q 2) okV_RX10_348 ⟨by decide, by decide⟩ hK hP [] rfl 0 rfl rfl hl.1 rfl (Nat.le_of_ble_eq_true rfl) dX10_row_2 ⟨by decide, by decide⟩) hP hS hA (fun H locs hP hS => ?_)
      refine lv_topi (fun v1 ev1 => ?_)
      obtain rfl : v1 = 1 := ev1.trans (by decide)
      refine lv_if_eq (tgt := 23) hx hb dX10_row_5 (by decide) (fun c2 => False.elim (by revert c2; decide)) (fun c3 => ?_)
      refine lv_iload_n hx hb dX10_row_8 rfl (lv_at hl 2 rfl) ?_
      refine lv_if_lt (tgt := 23) hx hb dX10_row_9 (by decide) (fun c4 => False.elim (by have z0 := nltT hw0; have z1 := nltT hw3; have z2 := ltT hm; have z3 := ltT c4; have k0 : (0 : Int32).toInt = 0 := (by decide); have k1 : (3 : Int32).toInt = 3 := (by decide); omega)) (fun c5 => ?_)
      refine lv_iload_n hx hb dX10_row_12 rfl (lv_at hl 2 rfl) ?_
      refine lv_iconst (v := 3) hx hb dX10_row_13 (by decide) ?_
      refine lv_icmp_gt (tgt := 23) hx hb dX10_row_14 (by decide) (fun c6 => False.elim (by have z0 := nltT hw0; have z1 := nltT hw3; have z2 := ltT c6; have k0 : (0 : Int32).toInt = 0 := (by decide); have k1 : (3 : Int32).toInt = 3 := (by decide); omega)) (fun c7 => ?_)
      refine lv_iload_n hx hb dX10_row_17 rfl (lv_at hl 3 rfl) ?_
      refine lv_bipush (v := 60) hx hb dX10_row_18 (by decide) ?_
      refine lv_icmp_le (tgt := 26) hx hb dX10_row_20 (by decide) (fun c9 => ?_) (fun c8 => False.elim (by have z0 := ltT hm; have z1 := nleT c8; have k0 : (0 : Int32).toInt = 0 := (by decide); have k1 : (60 : Int32).toInt = 60 := (by decide); omega))
      refine lv_iload_n hx hb dX10_row_26 rfl (lv_at hl 3 rfl) ?_
      refine lv_if_ge (tgt := 33) hx hb dX10_row_27 (by decide) (fun c10 => False.elim (by have z0 := nltT hw0; have z1 := ltT hm; have z2 := leT c10; have k0 : (0 : Int32).toInt = 0 := (by decide); omega)) (fun c11 => ?_)
      refine lv_bipush (v := (-3)) hx hb dX10_row_30 (by decide) ?_
      exact retDi () hx hb hr hlk (hP.sub [] rfl) (hD.sub [] (by decide) rfl) hS dX10_row_32 ((show _ = spk 4 _ (spr a2 a3) (-2) by rw [spr_m0 hw0 hw3 hm]; decide)) (Nat.le_of_ble_eq_true rfl) (Nat.le_of_ble_eq_true rfl)
    · refine mkD (Qc := (QDi G (fun (r : Int32) (_ : Unit) => r = (spk 4 2 (spr a2 a3) (-2))) (fun _ : Unit => []))) (by decide) (by simp [lg_sl, Value.category]) ?_
      intro p e s m args below meth c ls A hx hb hml hr hlk hown hmn ht hK hP hD hS hA hl
      have hl : lv_has ls 4 [(0, .ref h), (1, .int 2), (2, .int a2), (3, .int a3)] := hl
      refine lv_aload_n hx hb dX10_row_0 rfl (lv_at hl 0 rfl) ?_
      refine lv_iload_n hx hb dX10_row_1 rfl (lv_at hl 1 rfl) ?_
      refine behI (runVP (As := [.int 2]) (rest := []) ⟨hx, hb, hml, hown, ht⟩ (pX10_isSlot l G cs h q 2) okV_RX10_348 ⟨by decide, by decide⟩ hK hP [] rfl 0 rfl rfl hl.1 rfl (Nat.le_of_ble_eq_true rfl) dX10_row_2 ⟨by decide, by decide⟩) hP hS hA (fun H locs hP hS => ?_)
      refine lv_topi (fun v1 ev1 => ?_)
      obtain rfl : v1 = 1 := ev1.trans (by decide)
      refine lv_if_eq (tgt := 23) hx hb dX10_row_5 (by decide) (fun c2 => False.elim (by revert c2; decide)) (fun c3 => ?_)
      refine lv_iload_n hx hb dX10_row_8 rfl (lv_at hl 2 rfl) ?_
      refine lv_if_lt (tgt := 23) hx hb dX10_row_9 (by decide) (fun c4 => False.elim (by have z0 := nltT hw0; have z1 := nltT hw3; have z2 := nltT hm0; have z3 := ltT c4; have k0 : (0 : Int32).toInt = 0 := (by decide); have k1 : (3 : Int32).toInt = 3 := (by decide); omega)) (fun c5 => ?_)
      refine lv_iload_n hx hb dX10_row_12 rfl (lv_at hl 2 rfl) ?_
      refine lv_iconst (v := 3) hx hb dX10_row_13 (by decide) ?_
      refine lv_icmp_gt (tgt := 23) hx hb dX10_row_14 (by decide) (fun c6 => False.elim (by have z0 := nltT hw0; have z1 := nltT hw3; have z2 := ltT c6; have k0 : (0 : Int32).toInt = 0 := (by decide); have k1 : (3 : Int32).toInt = 3 := (by decide); omega)) (fun c7 => ?_)
      refine lv_iload_n hx hb dX10_row_17 rfl (lv_at hl 3 rfl) ?_
      refine lv_bipush (v := 60) hx hb dX10_row_18 (by decide) ?_
      refine lv_icmp_le (tgt := 26) hx hb dX10_row_20 (by decide) (fun c9 => ?_) (fun c8 => False.elim (by have z0 := nltT hm0; have z1 := nltT hm60; have z2 := nleT c8; have k0 : (0 : Int32).toInt = 0 := (by decide); have k1 : (60 : Int32).toInt = 60 := (by decide); omega))
      refine lv_iload_n hx hb dX10_row_26 rfl (lv_at hl 3 rfl) ?_
      refine lv_if_ge (tgt := 33) hx hb dX10_row_27 (by decide) (fun c11 => ?_) (fun c10 => False.elim (by have z0 := nltT hw0; have z1 := nltT hm0; have z2 := nltT hm60; have z3 := nleT c10; have k0 : (0 : Int32).toInt = 0 := (by decide); have k1 : (60 : Int32).toInt = 60 := (by decide); omega))
      refine lv_aload_n hx hb dX10_row_33 rfl (lv_at hl 0 rfl) ?_
      refine getF hx hb ht hown hK hP iTX10 0 5 rfl rfl (by decide) fl_RX10_41 rfl dX10_row_34 ?_
      refine lv_iload_n hx hb dX10_row_37 rfl (lv_at hl 1 rfl) ?_
      refine va_aldq hx hb hK.1 hP 1 5 rfl rfl (show ¬ (_ ∨ _) by decide) dX10_row_38 ?_
      refine W.eq (g2 := F0 m 39 ls [.ref (q 58)]) rfl ?_
      refine lv_iload_n hx hb dX10_row_39 rfl (lv_at hl 2 rfl) ?_
      refine lv_iload_n hx hb dX10_row_40 rfl (lv_at hl 3 rfl) ?_
      refine behDv (wr := [(xc0 cs h q), (xc53 cs h q), (xc54 cs h q), (xc55 cs h q), (xc56 cs h q), (xc57 cs h q), (xc60 cs h q), (xc61 cs h q)]) (runVD (As := [.int a2, .int a3]) (rest := []) ⟨hx, hb, hml, hown, ht⟩ (dX7_make l G cs (q 58) (q 59) a2 a3) okV_RX10_351 ⟨by decide, by decide⟩ hK hP hD [6, 7] rfl (by decide) rfl 6 rfl rfl hl.1 rfl (Nat.le_of_ble_eq_true rfl) dX10_row_41 ⟨Nat.le_of_ble_eq_true rfl, Nat.le_of_ble_eq_true rfl⟩) hP hD hS hA [6, 7] [0, 1, 2, 3, 4, 5, 8, 9] rfl rfl (by decide) (by decide) (fun u H locs hP hD hS => ?_)
      have hP : va_P G vwCl [(xc0 cs h q), (xc53 cs h q), (xc54 cs h q), (xc55 cs h q), (xc56 cs h q), (xc57 cs h q), (xc60 cs h q), (xc61 cs h q)] H := hP
      have hD : va_D A [(xc0 cs h q), (xc53 cs h q), (xc54 cs h q), (xc55 cs h q), (xc56 cs h q), (xc57 cs h q), (xc60 cs h q), (xc61 cs h q)] := hD
      refine lv_iconst (v := 0) hx hb dX10_row_44 (by decide) ?_
      exact retDi () hx hb hr hlk (hP.sub [] rfl) (hD.sub [] (by decide) rfl) hS dX10_row_45 ((show _ = spk 4 _ (spr a2 a3) (-2) by rw [spr_ok hw0 hw3 hm0 hm60]; decide)) (Nat.le_of_ble_eq_true rfl) (Nat.le_of_ble_eq_true rfl)
  · rcases csr a2 a3 with hw | hw | ⟨hw0, hw3, hm⟩ | ⟨hw0, hw3, hm⟩ | ⟨hw0, hw3, hm0, hm60⟩
    · refine mkD (Qc := (QDi G (fun (r : Int32) (_ : Unit) => r = (spk 4 3 (spr a2 a3) (-2))) (fun _ : Unit => []))) (by decide) (by simp [lg_sl, Value.category]) ?_
      intro p e s m args below meth c ls A hx hb hml hr hlk hown hmn ht hK hP hD hS hA hl
      have hl : lv_has ls 4 [(0, .ref h), (1, .int 3), (2, .int a2), (3, .int a3)] := hl
      refine lv_aload_n hx hb dX10_row_0 rfl (lv_at hl 0 rfl) ?_
      refine lv_iload_n hx hb dX10_row_1 rfl (lv_at hl 1 rfl) ?_
      refine behI (runVP (As := [.int 3]) (rest := []) ⟨hx, hb, hml, hown, ht⟩ (pX10_isSlot l G cs h q 3) okV_RX10_348 ⟨by decide, by decide⟩ hK hP [] rfl 0 rfl rfl hl.1 rfl (Nat.le_of_ble_eq_true rfl) dX10_row_2 ⟨by decide, by decide⟩) hP hS hA (fun H locs hP hS => ?_)
      refine lv_topi (fun v1 ev1 => ?_)
      obtain rfl : v1 = 1 := ev1.trans (by decide)
      refine lv_if_eq (tgt := 23) hx hb dX10_row_5 (by decide) (fun c2 => False.elim (by revert c2; decide)) (fun c3 => ?_)
      refine lv_iload_n hx hb dX10_row_8 rfl (lv_at hl 2 rfl) ?_
      refine lv_if_lt (tgt := 23) hx hb dX10_row_9 (by decide) (fun c5 => ?_) (fun c4 => False.elim (by have z0 := ltT hw; have z1 := nltT c4; have k0 : (0 : Int32).toInt = 0 := (by decide); omega))
      refine lv_bipush (v := (-2)) hx hb dX10_row_23 (by decide) ?_
      exact retDi () hx hb hr hlk (hP.sub [] rfl) (hD.sub [] (by decide) rfl) hS dX10_row_25 ((show _ = spk 4 _ (spr a2 a3) (-2) by rw [spr_w0 hw]; decide)) (Nat.le_of_ble_eq_true rfl) (Nat.le_of_ble_eq_true rfl)
    · refine mkD (Qc := (QDi G (fun (r : Int32) (_ : Unit) => r = (spk 4 3 (spr a2 a3) (-2))) (fun _ : Unit => []))) (by decide) (by simp [lg_sl, Value.category]) ?_
      intro p e s m args below meth c ls A hx hb hml hr hlk hown hmn ht hK hP hD hS hA hl
      have hl : lv_has ls 4 [(0, .ref h), (1, .int 3), (2, .int a2), (3, .int a3)] := hl
      refine lv_aload_n hx hb dX10_row_0 rfl (lv_at hl 0 rfl) ?_
      refine lv_iload_n hx hb dX10_row_1 rfl (lv_at hl 1 rfl) ?_
      refine behI (runVP (As := [.int 3]) (rest := []) ⟨hx, hb, hml, hown, ht⟩ (pX10_isSlot l G cs h q 3) okV_RX10_348 ⟨by decide, by decide⟩ hK hP [] rfl 0 rfl rfl hl.1 rfl (Nat.le_of_ble_eq_true rfl) dX10_row_2 ⟨by decide, by decide⟩) hP hS hA (fun H locs hP hS => ?_)
      refine lv_topi (fun v1 ev1 => ?_)
      obtain rfl : v1 = 1 := ev1.trans (by decide)
      refine lv_if_eq (tgt := 23) hx hb dX10_row_5 (by decide) (fun c2 => False.elim (by revert c2; decide)) (fun c3 => ?_)
      refine lv_iload_n hx hb dX10_row_8 rfl (lv_at hl 2 rfl) ?_
      refine lv_if_lt (tgt := 23) hx hb dX10_row_9 (by decide) (fun c4 => False.elim (by have z0 := ltT hw; have z1 := ltT c4; have k0 : (0 : Int32).toInt = 0 := (by decide); have k1 : (3 : Int32).toInt = 3 := (by decide); omega)) (fun c5 => ?_)
      refine lv_iload_n hx hb dX10_row_12 rfl (lv_at hl 2 rfl) ?_
      refine lv_iconst (v := 3) hx hb dX10_row_13 (by decide) ?_
      refine lv_icmp_gt (tgt := 23) hx hb dX10_row_14 (by decide) (fun c7 => ?_) (fun c6 => False.elim (by have z0 := ltT hw; have z1 := nltT c6; have k0 : (3 : Int32).toInt = 3 := (by decide); omega))
      refine lv_bipush (v := (-2)) hx hb dX10_row_23 (by decide) ?_
      exact retDi () hx hb hr hlk (hP.sub [] rfl) (hD.sub [] (by decide) rfl) hS dX10_row_25 ((show _ = spk 4 _ (spr a2 a3) (-2) by rw [spr_w3 hw]; decide)) (Nat.le_of_ble_eq_true rfl) (Nat.le_of_ble_eq_true rfl)
    · refine mkD (Qc := (QDi G (fun (r : Int32) (_ : Unit) => r = (spk 4 3 (spr a2 a3) (-2))) (fun _ : Unit => []))) (by decide) (by simp [lg_sl, Value.category]) ?_
      intro p e s m args below meth c ls A hx hb hml hr hlk hown hmn ht hK hP hD hS hA hl
      have hl : lv_has ls 4 [(0, .ref h), (1, .int 3), (2, .int a2), (3, .int a3)] := hl
      refine lv_aload_n hx hb dX10_row_0 rfl (lv_at hl 0 rfl) ?_
      refine lv_iload_n hx hb dX10_row_1 rfl (lv_at hl 1 rfl) ?_
      refine behI (runVP (As := [.int 3]) (rest := []) ⟨hx, hb, hml, hown, ht⟩ (pX10_isSlot l G cs h q 3) okV_RX10_348 ⟨by decide, by decide⟩ hK hP [] rfl 0 rfl rfl hl.1 rfl (Nat.le_of_ble_eq_true rfl) dX10_row_2 ⟨by decide, by decide⟩) hP hS hA (fun H locs hP hS => ?_)
      refine lv_topi (fun v1 ev1 => ?_)
      obtain rfl : v1 = 1 := ev1.trans (by decide)
      refine lv_if_eq (tgt := 23) hx hb dX10_row_5 (by decide) (fun c2 => False.elim (by revert c2; decide)) (fun c3 => ?_)
      refine lv_iload_n hx hb dX10_row_8 rfl (lv_at hl 2 rfl) ?_
      refine lv_if_lt (tgt := 23) hx hb dX10_row_9 (by decide) (fun c4 => False.elim (by have z0 := nltT hw0; have z1 := nltT hw3; have z2 := ltT c4; have k0 : (0 : Int32).toInt = 0 := (by decide); have k1 : (3 : Int32).toInt = 3 := (by decide); omega)) (fun c5 => ?_)
      refine lv_iload_n hx hb dX10_row_12 rfl (lv_at hl 2 rfl) ?_
      refine lv_iconst (v := 3) hx hb dX10_row_13 (by decide) ?_
      refine lv_icmp_gt (tgt := 23) hx hb dX10_row_14 (by decide) (fun c6 => False.elim (by have z0 := nltT hw0; have z1 := nltT hw3; have z2 := ltT c6; have k0 : (0 : Int32).toInt = 0 := (by decide); have k1 : (3 : Int32).toInt = 3 := (by decide); omega)) (fun c7 => ?_)
      refine lv_iload_n hx hb dX10_row_17 rfl (lv_at hl 3 rfl) ?_
      refine lv_bipush (v := 60) hx hb dX10_row_18 (by decide) ?_
      refine lv_icmp_le (tgt := 26) hx hb dX10_row_20 (by decide) (fun c8 => False.elim (by have z0 := ltT hm; have z1 := leT c8; have k0 : (60 : Int32).toInt = 60 := (by decide); omega)) (fun c9 => ?_)
      refine lv_bipush (v := (-2)) hx hb dX10_row_23 (by decide) ?_
      exact retDi () hx hb hr hlk (hP.sub [] rfl) (hD.sub [] (by decide) rfl) hS dX10_row_25 ((show _ = spk 4 _ (spr a2 a3) (-2) by rw [spr_m60 hw0 hw3 hm]; decide)) (Nat.le_of_ble_eq_true rfl) (Nat.le_of_ble_eq_true rfl)
    · refine mkD (Qc := (QDi G (fun (r : Int32) (_ : Unit) => r = (spk 4 3 (spr a2 a3) (-2))) (fun _ : Unit => []))) (by decide) (by simp [lg_sl, Value.category]) ?_
      intro p e s m args below meth c ls A hx hb hml hr hlk hown hmn ht hK hP hD hS hA hl
      have hl : lv_has ls 4 [(0, .ref h), (1, .int 3), (2, .int a2), (3, .int a3)] := hl
      refine lv_aload_n hx hb dX10_row_0 rfl (lv_at hl 0 rfl) ?_
      refine lv_iload_n hx hb dX10_row_1 rfl (lv_at hl 1 rfl) ?_
      refine behI (runVP (As := [.int 3]) (rest := []) ⟨hx, hb, hml, hown, ht⟩ (pX10_isSlot l G cs h q 3) okV_RX10_348 ⟨by decide, by decide⟩ hK hP [] rfl 0 rfl rfl hl.1 rfl (Nat.le_of_ble_eq_true rfl) dX10_row_2 ⟨by decide, by decide⟩) hP hS hA (fun H locs hP hS => ?_)
      refine lv_topi (fun v1 ev1 => ?_)
      obtain rfl : v1 = 1 := ev1.trans (by decide)
      refine lv_if_eq (tgt := 23) hx hb dX10_row_5 (by decide) (fun c2 => False.elim (by revert c2; decide)) (fun c3 => ?_)
      refine lv_iload_n hx hb dX10_row_8 rfl (lv_at hl 2 rfl) ?_
      refine lv_if_lt (tgt := 23) hx hb dX10_row_9 (by decide) (fun c4 => False.elim (by have z0 := nltT hw0; have z1 := nltT hw3; have z2 := ltT hm; have z3 := ltT c4; have k0 : (0 : Int32).toInt = 0 := (by decide); have k1 : (3 : Int32).toInt = 3 := (by decide); omega)) (fun c5 => ?_)
      refine lv_iload_n hx hb dX10_row_12 rfl (lv_at hl 2 rfl) ?_
      refine lv_iconst (v := 3) hx hb dX10_row_13 (by decide) ?_
      refine lv_icmp_gt (tgt := 23) hx hb dX10_row_14 (by decide) (fun c6 => False.elim (by have z0 := nltT hw0; have z1 := nltT hw3; have z2 := ltT c6; have k0 : (0 : Int32).toInt = 0 := (by decide); have k1 : (3 : Int32).toInt = 3 := (by decide); omega)) (fun c7 => ?_)
      refine lv_iload_n hx hb dX10_row_17 rfl (lv_at hl 3 rfl) ?_
      refine lv_bipush (v := 60) hx hb dX10_row_18 (by decide) ?_
      refine lv_icmp_le (tgt := 26) hx hb dX10_row_20 (by decide) (fun c9 => ?_) (fun c8 => False.elim (by have z0 := ltT hm; have z1 := nleT c8; have k0 : (0 : Int32).toInt = 0 := (by decide); have k1 : (60 : Int32).toInt = 60 := (by decide); omega))
      refine lv_iload_n hx hb dX10_row_26 rfl (lv_at hl 3 rfl) ?_
      refine lv_if_ge (tgt := 33) hx hb dX10_row_27 (by decide) (fun c10 => False.elim (by have z0 := nltT hw0; have z1 := ltT hm; have z2 := leT c10; have k0 : (0 : Int32).toInt = 0 := (by decide); omega)) (fun c11 => ?_)
      refine lv_bipush (v := (-3)) hx hb dX10_row_30 (by decide) ?_
      exact retDi () hx hb hr hlk (hP.sub [] rfl) (hD.sub [] (by decide) rfl) hS dX10_row_32 ((show _ = spk 4 _ (spr a2 a3) (-2) by rw [spr_m0 hw0 hw3 hm]; decide)) (Nat.le_of_ble_eq_true rfl) (Nat.le_of_ble_eq_true rfl)
    · refine mkD (Qc := (QDi G (fun (r : Int32) (_ : Unit) => r = (spk 4 3 (spr a2 a3) (-2))) (fun _ : Unit => []))) (by decide) (by simp [lg_sl, Value.category]) ?_
      intro p e s m args below meth c ls A hx hb hml hr hlk hown hmn ht hK hP hD hS hA hl
      have hl : lv_has ls 4 [(0, .ref h), (1, .int 3), (2, .int a2), (3, .int a3)] := hl
      refine lv_aload_n hx hb dX10_row_0 rfl (lv_at hl 0 rfl) ?_
      refine lv_iload_n hx hb dX10_row_1 rfl (lv_at hl 1 rfl) ?_
      refine behI (runVP (As := [.int 3]) (rest := []) ⟨hx, hb, hml, hown, ht⟩ (pX10_isSlot l G cs h q 3) okV_RX10_348 ⟨by decide, by decide⟩ hK hP [] rfl 0 rfl rfl hl.1 rfl (Nat.le_of_ble_eq_true rfl) dX10_row_2 ⟨by decide, by decide⟩) hP hS hA (fun H locs hP hS => ?_)
      refine lv_topi (fun v1 ev1 => ?_)
      obtain rfl : v1 = 1 := ev1.trans (by decide)
      refine lv_if_eq (tgt := 23) hx hb dX10_row_5 (by decide) (fun c2 => False.elim (by revert c2; decide)) (fun c3 => ?_)
      refine lv_iload_n hx hb dX10_row_8 rfl (lv_at hl 2 rfl) ?_
      refine lv_if_lt (tgt := 23) hx hb dX10_row_9 (by decide) (fun c4 => False.elim (by have z0 := nltT hw0; have z1 := nltT hw3; have z2 := nltT hm0; have z3 := ltT c4; have k0 : (0 : Int32).toInt = 0 := (by decide); have k1 : (3 : Int32).toInt = 3 := (by decide); omega)) (fun c5 => ?_)
      refine lv_iload_n hx hb dX10_row_12 rfl (lv_at hl 2 rfl) ?_
      refine lv_iconst (v := 3) hx hb dX10_row_13 (by decide) ?_
      refine lv_icmp_gt (tgt := 23) hx hb dX10_row_14 (by decide) (fun c6 => False.elim (by have z0 := nltT hw0; have z1 := nltT hw3; have z2 := ltT c6; have k0 : (0 : Int32).toInt = 0 := (by decide); have k1 : (3 : Int32).toInt = 3 := (by decide); omega)) (fun c7 => ?_)
      refine lv_iload_n hx hb dX10_row_17 rfl (lv_at hl 3 rfl) ?_
      refine lv_bipush (v := 60) hx hb dX10_row_18 (by decide) ?_
      refine lv_icmp_le (tgt := 26) hx hb dX10_row_20 (by decide) (fun c9 => ?_) (fun c8 => False.elim (by have z0 := nltT hm0; have z1 := nltT hm60; have z2 := nleT c8; have k0 : (0 : Int32).toInt = 0 := (by decide); have k1 : (60 : Int32).toInt = 60 := (by decide); omega))
      refine lv_iload_n hx hb dX10_row_26 rfl (lv_at hl 3 rfl) ?_
      refine lv_if_ge (tgt := 33) hx hb dX10_row_27 (by decide) (fun c11 => ?_) (fun c10 => False.elim (by have z0 := nltT hw0; have z1 := nltT hm0; have z2 := nltT hm60; have z3 := nleT c10; have k0 : (0 : Int32).toInt = 0 := (by decide); have k1 : (60 : Int32).toInt = 60 := (by decide); omega))
      refine lv_aload_n hx hb dX10_row_33 rfl (lv_at hl 0 rfl) ?_
      refine getF hx hb ht hown hK hP iTX10 0 5 rfl rfl (by decide) fl_RX10_41 rfl dX10_row_34 ?_
      refine lv_iload_n hx hb dX10_row_37 rfl (lv_at hl 1 rfl) ?_
      refine va_aldq hx hb hK.1 hP 1 5 rfl rfl (show ¬ (_ ∨ _) by decide) dX10_row_38 ?_
      refine W.eq (g2 := F0 m 39 ls [.ref (q 60)]) rfl ?_
      refine lv_iload_n hx hb dX10_row_39 rfl (lv_at hl 2 rfl) ?_
      refine lv_iload_n hx hb dX10_row_40 rfl (lv_at hl 3 rfl) ?_
      refine behDv (wr := [(xc0 cs h q), (xc53 cs h q), (xc54 cs h q), (xc55 cs h q), (xc56 cs h q), (xc57 cs h q), (xc58 cs h q), (xc59 cs h q)]) (runVD (As := [.int a2, .int a3]) (rest := []) ⟨hx, hb, hml, hown, ht⟩ (dX7_make l G cs (q 60) (q 61) a2 a3) okV_RX10_351 ⟨by decide, by decide⟩ hK hP hD [8, 9] rfl (by decide) rfl 8 rfl rfl hl.1 rfl (Nat.le_of_ble_eq_true rfl) dX10_row_41 ⟨Nat.le_of_ble_eq_true rfl, Nat.le_of_ble_eq_true rfl⟩) hP hD hS hA [8, 9] [0, 1, 2, 3, 4, 5, 6, 7] rfl rfl (by decide) (by decide) (fun u H locs hP hD hS => ?_)
      have hP : va_P G vwCl [(xc0 cs h q), (xc53 cs h q), (xc54 cs h q), (xc55 cs h q), (xc56 cs h q), (xc57 cs h q), (xc58 cs h q), (xc59 cs h q)] H := hP
      have hD : va_D A [(xc0 cs h q), (xc53 cs h q), (xc54 cs h q), (xc55 cs h q), (xc56 cs h q), (xc57 cs h q), (xc58 cs h q), (xc59 cs h q)] := hD
      refine lv_iconst (v := 0) hx hb dX10_row_44 (by decide) ?_
      exact retDi () hx hb hr hlk (hP.sub [] rfl) (hD.sub [] (by decide) rfl) hS dX10_row_45 ((show _ = spk 4 _ (spr a2 a3) (-2) by rw [spr_ok hw0 hw3 hm0 hm60]; decide)) (Nat.le_of_ble_eq_true rfl) (Nat.le_of_ble_eq_true rfl)
