set_option maxRecDepth 100000 in
set_option maxHeartbeats 8000000 in
theorem dX6_init (l : Launch) (G : va_G) (cs : Nat → ClassId) (o : Nat) : ImpV l yX6_init cX6_init 1 2 2 902 G (TY cs) [.ref o] [(o, .inr (6, [.null, .int 0, .int 0, .int 0, .int 0, .int 0, .int 0]))] (fun u : Nat × Nat => [(o, .inr (6, [.ref u.1, .int 0, .int 0, .int 0, .int 0, .int 0, .int (-1)])), (u.1, .inr (9, [.ref u.2, .int 0])), (u.2, .inl (cs 1, 900, .inl (fun _ => 0)))]) := by
  refine mkD (Qc := QDv G (fun u : Nat × Nat => [(o, .inr (6, [.ref u.1, .int 0, .int 0, .int 0, .int 0, .int 0, .int (-1)])), (u.1, .inr (9, [.ref u.2, .int 0])), (u.2, .inl (cs 1, 900, .inl (fun _ => 0)))])) (by decide) (by simp [lg_sl, Value.category]) ?_
  intro p e s m args below meth c ls A hx hb hml hr hlk hown hmn ht hK hP hD hS hA hl
  have hmn : meth.name = "<init>" := hmn
  have hl : lv_has ls 1 [(0, .ref o)] := hl
  refine lv_aload_n hx hb dX6_init_0 rfl (lv_at hl 0 rfl) ?_
  refine W.objInit hx hb hown (ht _ oi_RX6_3) (ht _ oi_inst) (ht _ oi_code) rfl (by rw [hml]; exact hl.1) rfl dX6_init_1 (Nat.le_of_ble_eq_true rfl) (Nat.le_of_ble_eq_true rfl) ?_
  refine W.eq (g2 := F0 m 4 ls []) rfl ?_
  refine lv_aload_n hx hb dX6_init_4 rfl (lv_at hl 0 rfl) ?_
  refine newO (ci := 9) hx hb ht hown hK hP hD hS hA iTX9 tyX9 tyX9_ok no_RX6_9 rfl [.null, .int 0] dfX9 (Nat.le_of_ble_eq_true rfl) (Nat.le_of_ble_eq_true rfl) dX6_init_5 (fun q1 H hP hD hS => ?_)
  have hP : va_P G vwCl [(o, .inr (6, [.null, .int 0, .int 0, .int 0, .int 0, .int 0, .int 0])), (q1, .inr (9, [.null, .int 0]))] H := hP
  have hD : va_D A [(o, .inr (6, [.null, .int 0, .int 0, .int 0, .int 0, .int 0, .int 0])), (q1, .inr (9, [.null, .int 0]))] := hD
  refine lv_dup hx hb dX6_init_8 rfl ?_
  refine behDv (wr := [(o, .inr (6, [.null, .int 0, .int 0, .int 0, .int 0, .int 0, .int 0]))]) (runND (As := []) (rest := [.ref q1, .ref o]) ⟨hx, hb, hml, hown, ht⟩ (dX9_init l G cs q1) okN_RX6_11 ⟨by decide, by decide⟩ hK hP hD [1] rfl (by decide) rfl hl.1 rfl (Nat.le_of_ble_eq_true rfl) dX6_init_9 ⟨Nat.le_of_ble_eq_true rfl, Nat.le_of_ble_eq_true rfl⟩) hP hD hS hA [1] [0] rfl rfl (by decide) (by decide) (fun u H locs hP hD hS => ?_)
  obtain ⟨q2, rfl⟩ : ∃ z, z = u := ⟨_, rfl⟩
  have hP : va_P G vwCl [(o, .inr (6, [.null, .int 0, .int 0, .int 0, .int 0, .int 0, .int 0])), (q1, .inr (9, [.ref q2, .int 0])), (q2, .inl (cs 1, 900, .inl (fun _ => 0)))] H := hP
  have hD : va_D A [(o, .inr (6, [.null, .int 0, .int 0, .int 0, .int 0, .int 0, .int 0])), (q1, .inr (9, [.ref q2, .int 0])), (q2, .inl (cs 1, 900, .inl (fun _ => 0)))] := hD
  refine putF hx hb ht hown hK hP hD hS iTX6 tyX6 tyX6_ok nmX6 0 0 rfl rfl (by decide) fl_RX6_12 rfl hmn rfl rfl rfl (Nat.le_of_ble_eq_true rfl) dX6_init_12 (fun H locs hP hD hS => ?_)
  have hP : va_P G vwCl [(o, .inr (6, [.ref q1, .int 0, .int 0, .int 0, .int 0, .int 0, .int 0])), (q1, .inr (9, [.ref q2, .int 0])), (q2, .inl (cs 1, 900, .inl (fun _ => 0)))] H := hP
  have hD : va_D A [(o, .inr (6, [.ref q1, .int 0, .int 0, .int 0, .int 0, .int 0, .int 0])), (q1, .inr (9, [.ref q2, .int 0])), (q2, .inl (cs 1, 900, .inl (fun _ => 0)))] := hD
  refine lv_aload_n hx hb dX6_init_15 rfl (lv_at hl 0 rfl) ?_
  refine lv_iconst (v := (-1)) hx hb dX6_init_16 (by decide) ?_
  refine putD hx hb ht hown hK hP hD hS iTX6 tyX6 tyX6_ok nmX6 0 6 rfl rfl (by decide) fl_RX6_18 rfl rfl rfl (Nat.le_of_ble_eq_true rfl) dX6_init_17 (fun H locs hP hD hS => ?_)
  have hP : va_P G vwCl [(o, .inr (6, [.ref q1, .int 0, .int 0, .int 0, .int 0, .int 0, .int (-1)])), (q1, .inr (9, [.ref q2, .int 0])), (q2, .inl (cs 1, 900, .inl (fun _ => 0)))] H := hP
  have hD : va_D A [(o, .inr (6, [.ref q1, .int 0, .int 0, .int 0, .int 0, .int 0, .int (-1)])), (q1, .inr (9, [.ref q2, .int 0])), (q2, .inl (cs 1, 900, .inl (fun _ => 0)))] := hD
  exact retDv (q1, q2) hx hb hr hlk (hP.sub [0, 1, 2] rfl) (hD.sub [0, 1, 2] (by decide) rfl) hS dX6_init_20 (Nat.le_of_ble_eq_true rfl) (Nat.le_of_ble_eq_true rfl)
