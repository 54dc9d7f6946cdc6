set_option maxRecDepth 100000 in
set_option maxHeartbeats 8000000 in
theorem dX1_init (l : Launch) (G : va_G) (cs : Nat → ClassId) (o : Nat) : ImpV l yX1_init cX1_init 1 1 5 3738 G (TY cs) [.ref o] [(o, .inr (1, [.null, .null, .null, .null, .null, .int 0, .int 0]))] (fun u : Nat × Nat × Nat × Nat × Nat => [(o, .inr (1, [.ref u.1, .ref u.2.1, .ref u.2.2.1, .ref u.2.2.2.1, .ref u.2.2.2.2, .int 0, .int (-1)])), (u.1, .inl (cs 2, 98, .inr (.inl (fun _ => 0)))), (u.2.1, .inl (cs 0, 1792, .inl (fun _ => 0))), (u.2.2.1, .inl (cs 0, 1792, .inl (fun _ => 0))), (u.2.2.2.1, .inl (cs 0, 7, .inl (fun _ => 0))), (u.2.2.2.2, .inl (cs 0, 49, .inl (fun _ => 0)))]) := by
  refine mkD (Qc := QDv G (fun u : Nat × Nat × Nat × Nat × Nat => [(o, .inr (1, [.ref u.1, .ref u.2.1, .ref u.2.2.1, .ref u.2.2.2.1, .ref u.2.2.2.2, .int 0, .int (-1)])), (u.1, .inl (cs 2, 98, .inr (.inl (fun _ => 0)))), (u.2.1, .inl (cs 0, 1792, .inl (fun _ => 0))), (u.2.2.1, .inl (cs 0, 1792, .inl (fun _ => 0))), (u.2.2.2.1, .inl (cs 0, 7, .inl (fun _ => 0))), (u.2.2.2.2, .inl (cs 0, 49, .inl (fun _ => 0)))])) (by decide) (by simp [lg_sl, Value.category]) ?_
  intro p e s m args below meth c ls A hx hb hml hr hlk hown hmn ht hK hP hD hS hA hl
  have hmn : meth.name = "<init>" := hmn
  have hl : lv_has ls 1 [(0, .ref o)] := hl
  refine lv_aload_n hx hb dX1_init_0 rfl (lv_at hl 0 rfl) ?_
  refine W.objInit hx hb hown (ht _ oi_RX1_3) (ht _ oi_inst) (ht _ oi_code) rfl (by rw [hml]; exact hl.1) rfl dX1_init_1 (Nat.le_of_ble_eq_true rfl) (Nat.le_of_ble_eq_true rfl) ?_
  refine W.eq (g2 := F0 m 4 ls []) rfl ?_
  refine lv_aload_n hx hb dX1_init_4 rfl (lv_at hl 0 rfl) ?_
  refine lv_bipush (v := 98) hx hb dX1_init_5 (by decide) ?_
  refine newA (ty := .long) 2 hx hb ht hK hP hD hS hA ac_long rfl rfl (98, .inr (.inl (fun _ => 0))) (fun _ => rfl) (by decide) (by decide) (by decide) (Nat.le_of_ble_eq_true rfl) (Nat.le_of_ble_eq_true rfl) dX1_init_7 (fun q1 H hP hD hS => ?_)
  have hP : va_P G vwCl [(o, .inr (1, [.null, .null, .null, .null, .null, .int 0, .int 0])), (q1, .inl (cs 2, 98, .inr (.inl (fun _ => 0))))] H := hP
  have hD : va_D A [(o, .inr (1, [.null, .null, .null, .null, .null, .int 0, .int 0])), (q1, .inl (cs 2, 98, .inr (.inl (fun _ => 0))))] := hD
  refine putF hx hb ht hown hK hP hD hS iTX1 tyX1 tyX1_ok nmX1 0 0 rfl rfl (by decide) fl_RX1_11 rfl hmn rfl rfl rfl (Nat.le_of_ble_eq_true rfl) dX1_init_9 (fun H locs hP hD hS => ?_)
  have hP : va_P G vwCl [(o, .inr (1, [.ref q1, .null, .null, .null, .null, .int 0, .int 0])), (q1, .inl (cs 2, 98, .inr (.inl (fun _ => 0))))] H := hP
  have hD : va_D A [(o, .inr (1, [.ref q1, .null, .null, .null, .null, .int 0, .int 0])), (q1, .inl (cs 2, 98, .inr (.inl (fun _ => 0))))] := hD
  refine lv_aload_n hx hb dX1_init_12 rfl (lv_at hl 0 rfl) ?_
  refine lv_sipush (v := 1792) hx hb dX1_init_13 (by decide) ?_
  refine newA (ty := .int) 0 hx hb ht hK hP hD hS hA ac_int rfl rfl (1792, .inl (fun _ => 0)) (fun _ => rfl) (by decide) (by decide) (by decide) (Nat.le_of_ble_eq_true rfl) (Nat.le_of_ble_eq_true rfl) dX1_init_16 (fun q2 H hP hD hS => ?_)
  have hP : va_P G vwCl [(o, .inr (1, [.ref q1, .null, .null, .null, .null, .int 0, .int 0])), (q1, .inl (cs 2, 98, .inr (.inl (fun _ => 0)))), (q2, .inl (cs 0, 1792, .inl (fun _ => 0)))] H := hP
  have hD : va_D A [(o, .inr (1, [.ref q1, .null, .null, .null, .null, .int 0, .int 0])), (q1, .inl (cs 2, 98, .inr (.inl (fun _ => 0)))), (q2, .inl (cs 0, 1792, .inl (fun _ => 0)))] := hD
  refine putF hx hb ht hown hK hP hD hS iTX1 tyX1 tyX1_ok nmX1 0 1 rfl rfl (by decide) fl_RX1_15 rfl hmn rfl rfl rfl (Nat.le_of_ble_eq_true rfl) dX1_init_18 (fun H locs hP hD hS => ?_)
  have hP : va_P G vwCl [(o, .inr (1, [.ref q1, .ref q2, .null, .null, .null, .int 0, .int 0])), (q1, .inl (cs 2, 98, .inr (.inl (fun _ => 0)))), (q2, .inl (cs 0, 1792, .inl (fun _ => 0)))] H := hP
  have hD : va_D A [(o, .inr (1, [.ref q1, .ref q2, .null, .null, .null, .int 0, .int 0])), (q1, .inl (cs 2, 98, .inr (.inl (fun _ => 0)))), (q2, .inl (cs 0, 1792, .inl (fun _ => 0)))] := hD
  refine lv_aload_n hx hb dX1_init_21 rfl (lv_at hl 0 rfl) ?_
  refine lv_sipush (v := 1792) hx hb dX1_init_22 (by decide) ?_
  refine newA (ty := .int) 0 hx hb ht hK hP hD hS hA ac_int rfl rfl (1792, .inl (fun _ => 0)) (fun _ => rfl) (by decide) (by decide) (by decide) (Nat.le_of_ble_eq_true rfl) (Nat.le_of_ble_eq_true rfl) dX1_init_25 (fun q3 H hP hD hS => ?_)
  have hP : va_P G vwCl [(o, .inr (1, [.ref q1, .ref q2, .null, .null, .null, .int 0, .int 0])), (q1, .inl (cs 2, 98, .inr (.inl (fun _ => 0)))), (q2, .inl (cs 0, 1792, .inl (fun _ => 0))), (q3, .inl (cs 0, 1792, .inl (fun _ => 0)))] H := hP
  have hD : va_D A [(o, .inr (1, [.ref q1, .ref q2, .null, .null, .null, .int 0, .int 0])), (q1, .inl (cs 2, 98, .inr (.inl (fun _ => 0)))), (q2, .inl (cs 0, 1792, .inl (fun _ => 0))), (q3, .inl (cs 0, 1792, .inl (fun _ => 0)))] := hD
  refine putF hx hb ht hown hK hP hD hS iTX1 tyX1 tyX1_ok nmX1 0 2 rfl rfl (by decide) fl_RX1_19 rfl hmn rfl rfl rfl (Nat.le_of_ble_eq_true rfl) dX1_init_27 (fun H locs hP hD hS => ?_)
  have hP : va_P G vwCl [(o, .inr (1, [.ref q1, .ref q2, .ref q3, .null, .null, .int 0, .int 0])), (q1, .inl (cs 2, 98, .inr (.inl (fun _ => 0)))), (q2, .inl (cs 0, 1792, .inl (fun _ => 0))), (q3, .inl (cs 0, 1792, .inl (fun _ => 0)))] H := hP
  have hD : va_D A [(o, .inr (1, [.ref q1, .ref q2, .ref q3, .null, .null, .int 0, .int 0])), (q1, .inl (cs 2, 98, .inr (.inl (fun _ => 0)))), (q2, .inl (cs 0, 1792, .inl (fun _ => 0))), (q3, .inl (cs 0, 1792, .inl (fun _ => 0)))] := hD
  refine lv_aload_n hx hb dX1_init_30 rfl (lv_at hl 0 rfl) ?_
  refine lv_bipush (v := 7) hx hb dX1_init_31 (by decide) ?_
  refine newA (ty := .int) 0 hx hb ht hK hP hD hS hA ac_int rfl rfl (7, .inl (fun _ => 0)) (fun _ => rfl) (by decide) (by decide) (by decide) (Nat.le_of_ble_eq_true rfl) (Nat.le_of_ble_eq_true rfl) dX1_init_33 (fun q4 H hP hD hS => ?_)
  have hP : va_P G vwCl [(o, .inr (1, [.ref q1, .ref q2, .ref q3, .null, .null, .int 0, .int 0])), (q1, .inl (cs 2, 98, .inr (.inl (fun _ => 0)))), (q2, .inl (cs 0, 1792, .inl (fun _ => 0))), (q3, .inl (cs 0, 1792, .inl (fun _ => 0))), (q4, .inl (cs 0, 7, .inl (fun _ => 0)))] H := hP
  have hD : va_D A [(o, .inr (1, [.ref q1, .ref q2, .ref q3, .null, .null, .int 0, .int 0])), (q1, .inl (cs 2, 98, .inr (.inl (fun _ => 0)))), (q2, .inl (cs 0, 1792, .inl (fun _ => 0))), (q3, .inl (cs 0, 1792, .inl (fun _ => 0))), (q4, .inl (cs 0, 7, .inl (fun _ => 0)))] := hD
  refine putF hx hb ht hown hK hP hD hS iTX1 tyX1 tyX1_ok nmX1 0 3 rfl rfl (by decide) fl_RX1_22 rfl hmn rfl rfl rfl (Nat.le_of_ble_eq_true rfl) dX1_init_35 (fun H locs hP hD hS => ?_)
  have hP : va_P G vwCl [(o, .inr (1, [.ref q1, .ref q2, .ref q3, .ref q4, .null, .int 0, .int 0])), (q1, .inl (cs 2, 98, .inr (.inl (fun _ => 0)))), (q2, .inl (cs 0, 1792, .inl (fun _ => 0))), (q3, .inl (cs 0, 1792, .inl (fun _ => 0))), (q4, .inl (cs 0, 7, .inl (fun _ => 0)))] H := hP
  have hD : va_D A [(o, .inr (1, [.ref q1, .ref q2, .ref q3, .ref q4, .null, .int 0, .int 0])), (q1, .inl (cs 2, 98, .inr (.inl (fun _ => 0)))), (q2, .inl (cs 0, 1792, .inl (fun _ => 0))), (q3, .inl (cs 0, 1792, .inl (fun _ => 0))), (q4, .inl (cs 0, 7, .inl (fun _ => 0)))] := hD
  refine lv_aload_n hx hb dX1_init_38 rfl (lv_at hl 0 rfl) ?_
  refine lv_bipush (v := 49) hx hb dX1_init_39 (by decide) ?_
  refine newA (ty := .int) 0 hx hb ht hK hP hD hS hA ac_int rfl rfl (49, .inl (fun _ => 0)) (fun _ => rfl) (by decide) (by decide) (by decide) (Nat.le_of_ble_eq_true rfl) (Nat.le_of_ble_eq_true rfl) dX1_init_41 (fun q5 H hP hD hS => ?_)
  have hP : va_P G vwCl [(o, .inr (1, [.ref q1, .ref q2, .ref q3, .ref q4, .null, .int 0, .int 0])), (q1, .inl (cs 2, 98, .inr (.inl (fun _ => 0)))), (q2, .inl (cs 0, 1792, .inl (fun _ => 0))), (q3, .inl (cs 0, 1792, .inl (fun _ => 0))), (q4, .inl (cs 0, 7, .inl (fun _ => 0))), (q5, .inl (cs 0, 49, .inl (fun _ => 0)))] H := hP
  have hD : va_D A [(o, .inr (1, [.ref q1, .ref q2, .ref q3, .ref q4, .null, .int 0, .int 0])), (q1, .inl (cs 2, 98, .inr (.inl (fun _ => 0)))), (q2, .inl (cs 0, 1792, .inl (fun _ => 0))), (q3, .inl (cs 0, 1792, .inl (fun _ => 0))), (q4, .inl (cs 0, 7, .inl (fun _ => 0))), (q5, .inl (cs 0, 49, .inl (fun _ => 0)))] := hD
  refine putF hx hb ht hown hK hP hD hS iTX1 tyX1 tyX1_ok nmX1 0 4 rfl rfl (by decide) fl_RX1_25 rfl hmn rfl rfl rfl (Nat.le_of_ble_eq_true rfl) dX1_init_43 (fun H locs hP hD hS => ?_)
  have hP : va_P G vwCl [(o, .inr (1, [.ref q1, .ref q2, .ref q3, .ref q4, .ref q5, .int 0, .int 0])), (q1, .inl (cs 2, 98, .inr (.inl (fun _ => 0)))), (q2, .inl (cs 0, 1792, .inl (fun _ => 0))), (q3, .inl (cs 0, 1792, .inl (fun _ => 0))), (q4, .inl (cs 0, 7, .inl (fun _ => 0))), (q5, .inl (cs 0, 49, .inl (fun _ => 0)))] H := hP
  have hD : va_D A [(o, .inr (1, [.ref q1, .ref q2, .ref q3, .ref q4, .ref q5, .int 0, .int 0])), (q1, .inl (cs 2, 98, .inr (.inl (fun _ => 0)))), (q2, .inl (cs 0, 1792, .inl (fun _ => 0))), (q3, .inl (cs 0, 1792, .inl (fun _ => 0))), (q4, .inl (cs 0, 7, .inl (fun _ => 0))), (q5, .inl (cs 0, 49, .inl (fun _ => 0)))] := hD
  refine lv_aload_n hx hb dX1_init_46 rfl (lv_at hl 0 rfl) ?_
  refine lv_iconst (v := (-1)) hx hb dX1_init_47 (by decide) ?_
  refine putD hx hb ht hown hK hP hD hS iTX1 tyX1 tyX1_ok nmX1 0 6 rfl rfl (by decide) fl_RX1_28 rfl rfl rfl (Nat.le_of_ble_eq_true rfl) dX1_init_48 (fun H locs hP hD hS => ?_)
  have hP : va_P G vwCl [(o, .inr (1, [.ref q1, .ref q2, .ref q3, .ref q4, .ref q5, .int 0, .int (-1)])), (q1, .inl (cs 2, 98, .inr (.inl (fun _ => 0)))), (q2, .inl (cs 0, 1792, .inl (fun _ => 0))), (q3, .inl (cs 0, 1792, .inl (fun _ => 0))), (q4, .inl (cs 0, 7, .inl (fun _ => 0))), (q5, .inl (cs 0, 49, .inl (fun _ => 0)))] H := hP
  have hD : va_D A [(o, .inr (1, [.ref q1, .ref q2, .ref q3, .ref q4, .ref q5, .int 0, .int (-1)])), (q1, .inl (cs 2, 98, .inr (.inl (fun _ => 0)))), (q2, .inl (cs 0, 1792, .inl (fun _ => 0))), (q3, .inl (cs 0, 1792, .inl (fun _ => 0))), (q4, .inl (cs 0, 7, .inl (fun _ => 0))), (q5, .inl (cs 0, 49, .inl (fun _ => 0)))] := hD
  exact retDv (q1, q2, q3, q4, q5) hx hb hr hlk (hP.sub [0, 1, 2, 3, 4, 5] rfl) (hD.sub [0, 1, 2, 3, 4, 5] (by decide) rfl) hS dX1_init_51 (Nat.le_of_ble_eq_true rfl) (Nat.le_of_ble_eq_true rfl)
