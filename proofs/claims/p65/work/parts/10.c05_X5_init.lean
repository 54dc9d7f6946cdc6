set_option maxRecDepth 100000 in
set_option maxHeartbeats 8000000 in
theorem dX5_init (l : Launch) (G : va_G) (cs : Nat → ClassId) (o : Nat) : ImpV l yX5_init cX5_init 1 1 2 14 G (TY cs) [.ref o] [(o, .inr (5, [.null, .null, .int 0, .int 0]))] (fun u : Nat × Nat => [(o, .inr (5, [.ref u.1, .ref u.2, .int 0, .int 0])), (u.1, .inl (cs 0, 7, .inl (fun _ => 0))), (u.2, .inl (cs 0, 7, .inl (fun _ => 0)))]) := by
  refine mkD (Qc := QDv G (fun u : Nat × Nat => [(o, .inr (5, [.ref u.1, .ref u.2, .int 0, .int 0])), (u.1, .inl (cs 0, 7, .inl (fun _ => 0))), (u.2, .inl (cs 0, 7, .inl (fun _ => 0)))])) (by decide) (by simp [lg_sl, Value.category]) ?_
  intro p e s m args below meth c ls A hx hb hml hr hlk hown hmn ht hK hP hD hS hA hl
  have hmn : meth.name = "<init>" := hmn
  have hl : lv_has ls 1 [(0, .ref o)] := hl
  refine lv_aload_n hx hb dX5_init_0 rfl (lv_at hl 0 rfl) ?_
  refine W.objInit hx hb hown (ht _ oi_RX5_3) (ht _ oi_inst) (ht _ oi_code) rfl (by rw [hml]; exact hl.1) rfl dX5_init_1 (Nat.le_of_ble_eq_true rfl) (Nat.le_of_ble_eq_true rfl) ?_
  refine W.eq (g2 := F0 m 4 ls []) rfl ?_
  refine lv_aload_n hx hb dX5_init_4 rfl (lv_at hl 0 rfl) ?_
  refine lv_bipush (v := 7) hx hb dX5_init_5 (by decide) ?_
  refine newA (ty := .int) 0 hx hb ht hK hP hD hS hA ac_int rfl rfl (7, .inl (fun _ => 0)) (fun _ => rfl) (by decide) (by decide) (by decide) (Nat.le_of_ble_eq_true rfl) (Nat.le_of_ble_eq_true rfl) dX5_init_7 (fun q1 H hP hD hS => ?_)
  have hP : va_P G vwCl [(o, .inr (5, [.null, .null, .int 0, .int 0])), (q1, .inl (cs 0, 7, .inl (fun _ => 0)))] H := hP
  have hD : va_D A [(o, .inr (5, [.null, .null, .int 0, .int 0])), (q1, .inl (cs 0, 7, .inl (fun _ => 0)))] := hD
  refine putF hx hb ht hown hK hP hD hS iTX5 tyX5 tyX5_ok nmX5 0 0 rfl rfl (by decide) fl_RX5_9 rfl hmn rfl rfl rfl (Nat.le_of_ble_eq_true rfl) dX5_init_9 (fun H locs hP hD hS => ?_)
  have hP : va_P G vwCl [(o, .inr (5, [.ref q1, .null, .int 0, .int 0])), (q1, .inl (cs 0, 7, .inl (fun _ => 0)))] H := hP
  have hD : va_D A [(o, .inr (5, [.ref q1, .null, .int 0, .int 0])), (q1, .inl (cs 0, 7, .inl (fun _ => 0)))] := hD
  refine lv_aload_n hx hb dX5_init_12 rfl (lv_at hl 0 rfl) ?_
  refine lv_bipush (v := 7) hx hb dX5_init_13 (by decide) ?_
  refine newA (ty := .int) 0 hx hb ht hK hP hD hS hA ac_int rfl rfl (7, .inl (fun _ => 0)) (fun _ => rfl) (by decide) (by decide) (by decide) (Nat.le_of_ble_eq_true rfl) (Nat.le_of_ble_eq_true rfl) dX5_init_15 (fun q2 H hP hD hS => ?_)
  have hP : va_P G vwCl [(o, .inr (5, [.ref q1, .null, .int 0, .int 0])), (q1, .inl (cs 0, 7, .inl (fun _ => 0))), (q2, .inl (cs 0, 7, .inl (fun _ => 0)))] H := hP
  have hD : va_D A [(o, .inr (5, [.ref q1, .null, .int 0, .int 0])), (q1, .inl (cs 0, 7, .inl (fun _ => 0))), (q2, .inl (cs 0, 7, .inl (fun _ => 0)))] := hD
  refine putF hx hb ht hown hK hP hD hS iTX5 tyX5 tyX5_ok nmX5 0 1 rfl rfl (by decide) fl_RX5_15 rfl hmn rfl rfl rfl (Nat.le_of_ble_eq_true rfl) dX5_init_17 (fun H locs hP hD hS => ?_)
  have hP : va_P G vwCl [(o, .inr (5, [.ref q1, .ref q2, .int 0, .int 0])), (q1, .inl (cs 0, 7, .inl (fun _ => 0))), (q2, .inl (cs 0, 7, .inl (fun _ => 0)))] H := hP
  have hD : va_D A [(o, .inr (5, [.ref q1, .ref q2, .int 0, .int 0])), (q1, .inl (cs 0, 7, .inl (fun _ => 0))), (q2, .inl (cs 0, 7, .inl (fun _ => 0)))] := hD
  exact retDv (q1, q2) hx hb hr hlk (hP.sub [0, 1, 2] rfl) (hD.sub [0, 1, 2] (by decide) rfl) hS dX5_init_20 (Nat.le_of_ble_eq_true rfl) (Nat.le_of_ble_eq_true rfl)
