set_option maxRecDepth 100000 in
set_option maxHeartbeats 8000000 in
theorem dX3_clear (l : Launch) (G : va_G) (cs : Nat → ClassId) (h : Nat) (q : Nat → Nat) : ImpV l yX3_clear cX3_clear 1 0 0 0 G (TY cs) [.ref (q 4)] [(xc4 cs h q)] (fun _ : Unit => [(xc4 cs h q)]) := by
  refine mkD (Qc := (QDv G (fun _ : Unit => [(xc4 cs h q)]))) (by decide) (by simp [lg_sl, Value.category]) ?_
  intro p e s m args below meth c ls A hx hb hml hr hlk hown hmn ht hK hP hD hS hA hl
  have hl : lv_has ls 1 [(0, .ref (q 4))] := hl
  refine lv_aload_n hx hb dX3_clear_0 rfl (lv_at hl 0 rfl) ?_
  refine lv_iconst (v := 0) hx hb dX3_clear_1 (by decide) ?_
  refine putD hx hb ht hown hK hP hD hS iTX3 tyX3 tyX3_ok nmX3 0 0 rfl rfl (by decide) fl_RX3_33 rfl rfl rfl (Nat.le_of_ble_eq_true rfl) dX3_clear_2 (fun H locs hP hD hS => ?_)
  have hP : va_P G vwCl [(xc4 cs h q)] H := hP
  have hD : va_D A [(xc4 cs h q)] := hD
  refine lv_aload_n hx hb dX3_clear_5 rfl (lv_at hl 0 rfl) ?_
  refine lv_iconst (v := 0) hx hb dX3_clear_6 (by decide) ?_
  refine putD hx hb ht hown hK hP hD hS iTX3 tyX3 tyX3_ok nmX3 0 1 rfl rfl (by decide) fl_RX3_37 rfl rfl rfl (Nat.le_of_ble_eq_true rfl) dX3_clear_7 (fun H locs hP hD hS => ?_)
  have hP : va_P G vwCl [(xc4 cs h q)] H := hP
  have hD : va_D A [(xc4 cs h q)] := hD
  refine lv_aload_n hx hb dX3_clear_10 rfl (lv_at hl 0 rfl) ?_
  refine lv_iconst (v := 0) hx hb dX3_clear_11 (by decide) ?_
  refine putD hx hb ht hown hK hP hD hS iTX3 tyX3 tyX3_ok nmX3 0 2 rfl rfl (by decide) fl_RX3_40 rfl rfl rfl (Nat.le_of_ble_eq_true rfl) dX3_clear_12 (fun H locs hP hD hS => ?_)
  have hP : va_P G vwCl [(xc4 cs h q)] H := hP
  have hD : va_D A [(xc4 cs h q)] := hD
  refine lv_aload_n hx hb dX3_clear_15 rfl (lv_at hl 0 rfl) ?_
  refine lv_iconst (v := 0) hx hb dX3_clear_16 (by decide) ?_
  refine putD hx hb ht hown hK hP hD hS iTX3 tyX3 tyX3_ok nmX3 0 3 rfl rfl (by decide) fl_RX3_43 rfl rfl rfl (Nat.le_of_ble_eq_true rfl) dX3_clear_17 (fun H locs hP hD hS => ?_)
  have hP : va_P G vwCl [(xc4 cs h q)] H := hP
  have hD : va_D A [(xc4 cs h q)] := hD
  refine lv_aload_n hx hb dX3_clear_20 rfl (lv_at hl 0 rfl) ?_
  refine lv_iconst (v := 0) hx hb dX3_clear_21 (by decide) ?_
  refine putD hx hb ht hown hK hP hD hS iTX3 tyX3 tyX3_ok nmX3 0 4 rfl rfl (by decide) fl_RX3_46 rfl rfl rfl (Nat.le_of_ble_eq_true rfl) dX3_clear_22 (fun H locs hP hD hS => ?_)
  have hP : va_P G vwCl [(xc4 cs h q)] H := hP
  have hD : va_D A [(xc4 cs h q)] := hD
  refine lv_aload_n hx hb dX3_clear_25 rfl (lv_at hl 0 rfl) ?_
  refine lv_iconst (v := 0) hx hb dX3_clear_26 (by decide) ?_
  refine putD hx hb ht hown hK hP hD hS iTX3 tyX3 tyX3_ok nmX3 0 5 rfl rfl (by decide) fl_RX3_49 rfl rfl rfl (Nat.le_of_ble_eq_true rfl) dX3_clear_27 (fun H locs hP hD hS => ?_)
  have hP : va_P G vwCl [(xc4 cs h q)] H := hP
  have hD : va_D A [(xc4 cs h q)] := hD
  refine lv_aload_n hx hb dX3_clear_30 rfl (lv_at hl 0 rfl) ?_
  refine lv_iconst (v := 0) hx hb dX3_clear_31 (by decide) ?_
  refine putD hx hb ht hown hK hP hD hS iTX3 tyX3 tyX3_ok nmX3 0 6 rfl rfl (by decide) fl_RX3_52 rfl rfl rfl (Nat.le_of_ble_eq_true rfl) dX3_clear_32 (fun H locs hP hD hS => ?_)
  have hP : va_P G vwCl [(xc4 cs h q)] H := hP
  have hD : va_D A [(xc4 cs h q)] := hD
  exact retDv () hx hb hr hlk (hP.sub [0] rfl) (hD.sub [0] (by decide) rfl) hS dX3_clear_35 (Nat.le_of_ble_eq_true rfl) (Nat.le_of_ble_eq_true rfl)
