set_option maxRecDepth 100000 in
set_option maxHeartbeats 8000000 in
theorem dX2_init (l : Launch) (G : va_G) (cs : Nat → ClassId) (o : Nat) : ImpV l yX2_init cX2_init 1 1 0 0 G (TY cs) [.ref o] [(o, .inr (2, [.long 0, .int 0, .int 0]))] (fun _ : Unit => [(o, .inr (2, [.long 0, .int 0, .int 0]))]) := by
  refine mkD (Qc := QDv G (fun _ : Unit => [(o, .inr (2, [.long 0, .int 0, .int 0]))])) (by decide) (by simp [lg_sl, Value.category]) ?_
  intro p e s m args below meth c ls A hx hb hml hr hlk hown hmn ht hK hP hD hS hA hl
  have hmn : meth.name = "<init>" := hmn
  have hl : lv_has ls 1 [(0, .ref o)] := hl
  refine lv_aload_n hx hb dX2_init_0 rfl (lv_at hl 0 rfl) ?_
  refine W.objInit hx hb hown (ht _ oi_RX2_3) (ht _ oi_inst) (ht _ oi_code) rfl (by rw [hml]; exact hl.1) rfl dX2_init_1 (Nat.le_of_ble_eq_true rfl) (Nat.le_of_ble_eq_true rfl) ?_
  refine W.eq (g2 := F0 m 4 ls []) rfl ?_
  exact retDv () hx hb hr hlk (hP.sub [0] rfl) (hD.sub [0] (by decide) rfl) hS dX2_init_4 (Nat.le_of_ble_eq_true rfl) (Nat.le_of_ble_eq_true rfl)
