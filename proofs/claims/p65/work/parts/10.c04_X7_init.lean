set_option maxRecDepth 100000 in
set_option maxHeartbeats 8000000 in
theorem dX7_init (l : Launch) (G : va_G) (cs : Nat → ClassId) (o : Nat) : ImpV l yX7_init cX7_init 1 1 1 60 G (TY cs) [.ref o] [(o, .inr (7, [.null, .int 0, .int 0, .int 0]))] (fun u : Nat => [(o, .inr (7, [.ref u, .int 0, .int 0, .int 0])), (u, .inl (cs 2, 60, .inr (.inl (fun _ => 0))))]) := by
  refine mkD (Qc := QDv G (fun u : Nat => [(o, .inr (7, [.ref u, .int 0, .int 0, .int 0])), (u, .inl (cs 2, 60, .inr (.inl (fun _ => 0))))])) (by decide) (by simp [lg_sl, Value.category]) ?_
  intro p e s m args below meth c ls A hx hb hml hr hlk hown hmn ht hK hP hD hS hA hl
  have hmn : meth.name = "<init>" := hmn
  have hl : lv_has ls 1 [(0, .ref o)] := hl
  refine lv_aload_n hx hb dX7_init_0 rfl (lv_at hl 0 rfl) ?_
  refine W.objInit hx hb hown (ht _ oi_RX7_3) (ht _ oi_inst) (ht _ oi_code) rfl (by rw [hml]; exact hl.1) rfl dX7_init_1 (Nat.le_of_ble_eq_true rfl) (Nat.le_of_ble_eq_true rfl) ?_
  refine W.eq (g2 := F0 m 4 ls []) rfl ?_
  refine lv_aload_n hx hb dX7_init_4 rfl (lv_at hl 0 rfl) ?_
  refine lv_bipush (v := 60) hx hb dX7_init_5 (by decide) ?_
  refine newA (ty := .long) 2 hx hb ht hK hP hD hS hA ac_long rfl rfl (60, .inr (.inl (fun _ => 0))) (fun _ => rfl) (by decide) (by decide) (by decide) (Nat.le_of_ble_eq_true rfl) (Nat.le_of_ble_eq_true rfl) dX7_init_7 (fun q1 H hP hD hS => ?_)
  have hP : va_P G vwCl [(o, .inr (7, [.null, .int 0, .int 0, .int 0])), (q1, .inl (cs 2, 60, .inr (.inl (fun _ => 0))))] H := hP
  have hD : va_D A [(o, .inr (7, [.null, .int 0, .int 0, .int 0])), (q1, .inl (cs 2, 60, .inr (.inl (fun _ => 0))))] := hD
  refine putF hx hb ht hown hK hP hD hS iTX7 tyX7 tyX7_ok nmX7 0 0 rfl rfl (by decide) fl_RX7_9 rfl hmn rfl rfl rfl (Nat.le_of_ble_eq_true rfl) dX7_init_9 (fun H locs hP hD hS => ?_)
  have hP : va_P G vwCl [(o, .inr (7, [.ref q1, .int 0, .int 0, .int 0])), (q1, .inl (cs 2, 60, .inr (.inl (fun _ => 0))))] H := hP
  have hD : va_D A [(o, .inr (7, [.ref q1, .int 0, .int 0, .int 0])), (q1, .inl (cs 2, 60, .inr (.inl (fun _ => 0))))] := hD
  exact retDv q1 hx hb hr hlk (hP.sub [0, 1] rfl) (hD.sub [0, 1] (by decide) rfl) hS dX7_init_12 (Nat.le_of_ble_eq_true rfl) (Nat.le_of_ble_eq_true rfl)
