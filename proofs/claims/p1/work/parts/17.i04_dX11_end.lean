set_option maxRecDepth 100000 in
set_option maxHeartbeats 8000000 in
theorem dX11_end (l : Launch) (G : va_G) (cs : Nat → ClassId) (h : Nat) (q : Nat → Nat) (a1 : Int32) : ImpI l yX11_end cX11_end 2 (some .int) 1 0 0 G (TY cs) [.ref h, .int a1] [(mc0 cs h q)] (fun (r : Int32) (_ : Unit) => r = (spf a1)) (fun _ : Unit => []) := by
  rcases cse a1 with rfl | hn0 | hb0
  · refine mkD (Qc := (QDi G (fun (r : Int32) (_ : Unit) => r = (spf 0)) (fun _ : Unit => []))) (by decide) (by simp [lg_sl, Value.category]) ?_
    intro p e s m args below meth c ls A hx hb hml hr hlk hown hmn ht hK hP hD hS hA hl
    have hl : lv_has ls 2 [(0, .ref h), (1, .int 0)] := hl
    refine lv_iload_n hx hb dX11_end_0 rfl (lv_at hl 1 rfl) ?_
    refine lv_i2l (v := 0) hx hb dX11_end_1 (by decide) ?_
    refine lv_lconst (v := 0) hx hb dX11_end_2 (by decide) ?_
    refine lv_aload_n hx hb dX11_end_3 rfl (lv_at hl 0 rfl) ?_
    refine getF hx hb ht hown hK hP iTX11 0 5 rfl rfl (by decide) fl_RX11_93 rfl dX11_end_4 ?_
    refine lv_i2l (v := 0) hx hb dX11_end_7 (by decide) ?_
    refine behI (runSP (As := [.long 0, .long 0, .long 0]) (rest := []) ⟨hx, hb, hml, hown, ht⟩ (pX11_in l G cs h q 0 0 0) okS_RX11_79 ⟨by decide, by decide⟩ hK hP [] rfl hl.1 rfl (Nat.le_of_ble_eq_true rfl) dX11_end_8 ⟨by decide, by decide⟩) hP hS hA (fun H locs hP hS => ?_)
    refine lv_topi (fun v1 ev1 => ?_)
    obtain rfl : v1 = 1 := ev1.trans (by decide)
    refine lv_if_ne (tgt := 16) hx hb dX11_end_11 (by decide) (fun c3 => ?_) (fun c2 => False.elim (by revert c2; decide))
    refine lv_aload_n hx hb dX11_end_16 rfl (lv_at hl 0 rfl) ?_
    refine lv_iload_n hx hb dX11_end_17 rfl (lv_at hl 1 rfl) ?_
    refine putD hx hb ht hown hK hP hD hS iTX11 tyX11 tyX11_ok nmX11 0 5 rfl rfl (by decide) fl_RX11_93 rfl rfl rfl (Nat.le_of_ble_eq_true rfl) dX11_end_18 (fun H locs hP hD hS => ?_)
    have hP : va_P G vwCl [(mc0 cs h q)] H := hP
    have hD : va_D A [(mc0 cs h q)] := hD
    refine lv_iload_n hx hb dX11_end_21 rfl (lv_at hl 1 rfl) ?_
    exact retDi () hx hb hr hlk (hP.sub [] rfl) (hD.sub [] (by decide) rfl) hS dX11_end_22 (by decide) (Nat.le_of_ble_eq_true rfl) (Nat.le_of_ble_eq_true rfl)
  · refine mkD (Qc := (QDi G (fun (r : Int32) (_ : Unit) => r = (spf a1)) (fun _ : Unit => []))) (by decide) (by simp [lg_sl, Value.category]) ?_
    intro p e s m args below meth c ls A hx hb hml hr hlk hown hmn ht hK hP hD hS hA hl
    have hl : lv_has ls 2 [(0, .ref h), (1, .int a1)] := hl
    refine lv_iload_n hx hb dX11_end_0 rfl (lv_at hl 1 rfl) ?_
    refine lv_i2l hx hb dX11_end_1 rfl ?_
    refine lv_lconst (v := 0) hx hb dX11_end_2 (by decide) ?_
    refine lv_aload_n hx hb dX11_end_3 rfl (lv_at hl 0 rfl) ?_
    refine getF hx hb ht hown hK hP iTX11 0 5 rfl rfl (by decide) fl_RX11_93 rfl dX11_end_4 ?_
    refine lv_i2l (v := 0) hx hb dX11_end_7 (by decide) ?_
    refine behI (runSP (As := [.long a1.toInt64, .long 0, .long 0]) (rest := []) ⟨hx, hb, hml, hown, ht⟩ (pX11_in l G cs h q a1.toInt64 0 0) okS_RX11_79 ⟨by decide, by decide⟩ hK hP [] rfl hl.1 rfl (Nat.le_of_ble_eq_true rfl) dX11_end_8 ⟨by decide, by decide⟩) hP hS hA (fun H locs hP hS => ?_)
    refine lv_topi (fun v1 ev1 => ?_)
    obtain rfl : v1 = 0 := ev1.trans (inF_n (by have z0 := ltT hn0; have k0 : (0 : Int32).toInt = 0 := (by decide); have K0 : (0 : Int64).toInt = 0 := (by decide); have K1 : (0 : Int64).toInt = 0 := (by decide); omega))
    refine lv_if_ne (tgt := 16) hx hb dX11_end_11 (by decide) (fun c2 => False.elim (by revert c2; decide)) (fun c3 => ?_)
    refine lv_iconst (v := (-1)) hx hb dX11_end_14 (by decide) ?_
    exact retDi () hx hb hr hlk (hP.sub [] rfl) (hD.sub [] (by decide) rfl) hS dX11_end_15 ((spf_n hn0).symm) (Nat.le_of_ble_eq_true rfl) (Nat.le_of_ble_eq_true rfl)
  · refine mkD (Qc := (QDi G (fun (r : Int32) (_ : Unit) => r = (spf a1)) (fun _ : Unit => []))) (by decide) (by simp [lg_sl, Value.category]) ?_
    intro p e s m args below meth c ls A hx hb hml hr hlk hown hmn ht hK hP hD hS hA hl
    have hl : lv_has ls 2 [(0, .ref h), (1, .int a1)] := hl
    refine lv_iload_n hx hb dX11_end_0 rfl (lv_at hl 1 rfl) ?_
    refine lv_i2l hx hb dX11_end_1 rfl ?_
    refine lv_lconst (v := 0) hx hb dX11_end_2 (by decide) ?_
    refine lv_aload_n hx hb dX11_end_3 rfl (lv_at hl 0 rfl) ?_
    refine getF hx hb ht hown hK hP iTX11 0 5 rfl rfl (by decide) fl_RX11_93 rfl dX11_end_4 ?_
    refine lv_i2l (v := 0) hx hb dX11_end_7 (by decide) ?_
    refine behI (runSP (As := [.long a1.toInt64, .long 0, .long 0]) (rest := []) ⟨hx, hb, hml, hown, ht⟩ (pX11_in l G cs h q a1.toInt64 0 0) okS_RX11_79 ⟨by decide, by decide⟩ hK hP [] rfl hl.1 rfl (Nat.le_of_ble_eq_true rfl) dX11_end_8 ⟨by decide, by decide⟩) hP hS hA (fun H locs hP hS => ?_)
    refine lv_topi (fun v1 ev1 => ?_)
    obtain rfl : v1 = 0 := ev1.trans (inF_n (by have z0 := ltT hb0; have k0 : (0 : Int32).toInt = 0 := (by decide); have K0 : (0 : Int64).toInt = 0 := (by decide); have K1 : (0 : Int64).toInt = 0 := (by decide); omega))
    refine lv_if_ne (tgt := 16) hx hb dX11_end_11 (by decide) (fun c2 => False.elim (by revert c2; decide)) (fun c3 => ?_)
    refine lv_iconst (v := (-1)) hx hb dX11_end_14 (by decide) ?_
    exact retDi () hx hb hr hlk (hP.sub [] rfl) (hD.sub [] (by decide) rfl) hS dX11_end_15 ((spf_p hb0).symm) (Nat.le_of_ble_eq_true rfl) (Nat.le_of_ble_eq_true rfl)
