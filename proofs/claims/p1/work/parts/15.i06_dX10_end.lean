set_option maxRecDepth 100000 in
set_option maxHeartbeats 8000000 in
theorem dX10_end (l : Launch) (G : va_G) (cs : Nat → ClassId) (h : Nat) (q : Nat → Nat) (a1 : Int32) : ImpI l yX10_end cX10_end 2 (some .int) 0 0 0 G (TY cs) [.ref h, .int a1] [(xc0 cs h q), (xc2 cs h q)] (fun (r : Int32) (_ : Unit) => r = (spf a1)) (fun _ : Unit => []) := by
  rcases cse a1 with rfl | hn0 | hb0
  · refine mkD (Qc := (QDi G (fun (r : Int32) (_ : Unit) => r = (spf 0)) (fun _ : Unit => []))) (by decide) (by simp [lg_sl, Value.category]) ?_
    intro p e s m args below meth c ls A hx hb hml hr hlk hown hmn ht hK hP hD hS hA hl
    have hl : lv_has ls 2 [(0, .ref h), (1, .int 0)] := hl
    refine lv_iload_n hx hb dX10_end_0 rfl (lv_at hl 1 rfl) ?_
    refine lv_if_lt (tgt := 15) hx hb dX10_end_1 (by decide) (fun c1 => False.elim (by revert c1; decide)) (fun c2 => ?_)
    refine lv_iload_n hx hb dX10_end_4 rfl (lv_at hl 1 rfl) ?_
    refine lv_aload_n hx hb dX10_end_5 rfl (lv_at hl 0 rfl) ?_
    refine getF hx hb ht hown hK hP iTX10 0 1 rfl rfl (by decide) fl_RX10_20 rfl dX10_end_6 ?_
    refine getF hx hb ht hown hK hP iTX9 1 1 rfl rfl (by decide) fl_RX10_84 rfl dX10_end_9 ?_
    refine lv_icmp_le (tgt := 17) hx hb dX10_end_12 (by decide) (fun c4 => ?_) (fun c3 => False.elim (by revert c3; decide))
    refine lv_aload_n hx hb dX10_end_17 rfl (lv_at hl 0 rfl) ?_
    refine getF hx hb ht hown hK hP iTX10 0 1 rfl rfl (by decide) fl_RX10_20 rfl dX10_end_18 ?_
    refine lv_iload_n hx hb dX10_end_21 rfl (lv_at hl 1 rfl) ?_
    refine putD hx hb ht hown hK hP hD hS iTX9 tyX9 tyX9_ok nmX9 1 1 rfl rfl (by decide) fl_RX10_84 rfl rfl rfl (Nat.le_of_ble_eq_true rfl) dX10_end_22 (fun H locs hP hD hS => ?_)
    have hP : va_P G vwCl [(xc0 cs h q), (xc2 cs h q)] H := hP
    have hD : va_D A [(xc0 cs h q), (xc2 cs h q)] := hD
    refine lv_iload_n hx hb dX10_end_25 rfl (lv_at hl 1 rfl) ?_
    exact retDi () hx hb hr hlk (hP.sub [] rfl) (hD.sub [] (by decide) rfl) hS dX10_end_26 (by decide) (Nat.le_of_ble_eq_true rfl) (Nat.le_of_ble_eq_true rfl)
  · refine mkD (Qc := (QDi G (fun (r : Int32) (_ : Unit) => r = (spf a1)) (fun _ : Unit => []))) (by decide) (by simp [lg_sl, Value.category]) ?_
    intro p e s m args below meth c ls A hx hb hml hr hlk hown hmn ht hK hP hD hS hA hl
    have hl : lv_has ls 2 [(0, .ref h), (1, .int a1)] := hl
    refine lv_iload_n hx hb dX10_end_0 rfl (lv_at hl 1 rfl) ?_
    refine lv_if_lt (tgt := 15) hx hb dX10_end_1 (by decide) (fun c2 => ?_) (fun c1 => False.elim (by have z0 := ltT hn0; have z1 := nltT c1; have k0 : (0 : Int32).toInt = 0 := (by decide); omega))
    refine lv_iconst (v := (-1)) hx hb dX10_end_15 (by decide) ?_
    exact retDi () hx hb hr hlk (hP.sub [] rfl) (hD.sub [] (by decide) rfl) hS dX10_end_16 ((spf_n hn0).symm) (Nat.le_of_ble_eq_true rfl) (Nat.le_of_ble_eq_true rfl)
  · refine mkD (Qc := (QDi G (fun (r : Int32) (_ : Unit) => r = (spf a1)) (fun _ : Unit => []))) (by decide) (by simp [lg_sl, Value.category]) ?_
    intro p e s m args below meth c ls A hx hb hml hr hlk hown hmn ht hK hP hD hS hA hl
    have hl : lv_has ls 2 [(0, .ref h), (1, .int a1)] := hl
    refine lv_iload_n hx hb dX10_end_0 rfl (lv_at hl 1 rfl) ?_
    refine lv_if_lt (tgt := 15) hx hb dX10_end_1 (by decide) (fun c1 => False.elim (by have z0 := ltT hb0; have z1 := ltT c1; have k0 : (0 : Int32).toInt = 0 := (by decide); omega)) (fun c2 => ?_)
    refine lv_iload_n hx hb dX10_end_4 rfl (lv_at hl 1 rfl) ?_
    refine lv_aload_n hx hb dX10_end_5 rfl (lv_at hl 0 rfl) ?_
    refine getF hx hb ht hown hK hP iTX10 0 1 rfl rfl (by decide) fl_RX10_20 rfl dX10_end_6 ?_
    refine getF hx hb ht hown hK hP iTX9 1 1 rfl rfl (by decide) fl_RX10_84 rfl dX10_end_9 ?_
    refine lv_icmp_le (tgt := 17) hx hb dX10_end_12 (by decide) (fun c3 => False.elim (by have z0 := ltT hb0; have z1 := leT c3; have k0 : (0 : Int32).toInt = 0 := (by decide); omega)) (fun c4 => ?_)
    refine lv_iconst (v := (-1)) hx hb dX10_end_15 (by decide) ?_
    exact retDi () hx hb hr hlk (hP.sub [] rfl) (hD.sub [] (by decide) rfl) hS dX10_end_16 ((spf_p hb0).symm) (Nat.le_of_ble_eq_true rfl) (Nat.le_of_ble_eq_true rfl)
