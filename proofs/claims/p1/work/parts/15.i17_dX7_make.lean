set_option maxRecDepth 100000 in
set_option maxHeartbeats 8000000 in
theorem dX7_make (l : Launch) (G : va_G) (cs : Nat → ClassId) (r n : Nat) (a1 a2 : Int32) : ImpV l yX7_make cX7_make 3 1 0 0 G (TY cs) [.ref r, .int a1, .int a2] [(r, .inr (7, [.ref n, .int 0, .int 0, .int 0])), (n, .inl (cs 2, 60, .inr (.inl (fun _ => 0))))] (fun _ : Unit => []) := by
  refine mkD (Qc := (QDv G (fun _ : Unit => []))) (by decide) (by simp [lg_sl, Value.category]) ?_
  intro p e s m args below meth c ls A hx hb hml hr hlk hown hmn ht hK hP hD hS hA hl
  have hl : lv_has ls 3 [(0, .ref r), (1, .int a1), (2, .int a2)] := hl
  refine lv_aload_n hx hb dX7_make_0 rfl (lv_at hl 0 rfl) ?_
  refine lv_iconst (v := 1) hx hb dX7_make_1 (by decide) ?_
  refine putD hx hb ht hown hK hP hD hS iTX7 tyX7 tyX7_ok nmX7 0 1 rfl rfl (by decide) fl_RX7_15 rfl rfl rfl (Nat.le_of_ble_eq_true rfl) dX7_make_2 (fun H locs hP hD hS => ?_)
  have hP : va_P G vwCl [(r, .inr (7, [.ref n, .int 1, .int 0, .int 0])), (n, .inl (cs 2, 60, .inr (.inl (fun _ => 0))))] H := hP
  have hD : va_D A [(r, .inr (7, [.ref n, .int 1, .int 0, .int 0])), (n, .inl (cs 2, 60, .inr (.inl (fun _ => 0))))] := hD
  refine lv_aload_n hx hb dX7_make_5 rfl (lv_at hl 0 rfl) ?_
  refine lv_iload_n hx hb dX7_make_6 rfl (lv_at hl 1 rfl) ?_
  refine putD hx hb ht hown hK hP hD hS iTX7 tyX7 tyX7_ok nmX7 0 2 rfl rfl (by decide) fl_RX7_19 rfl rfl rfl (Nat.le_of_ble_eq_true rfl) dX7_make_7 (fun H locs hP hD hS => ?_)
  have hP : va_P G vwCl [(r, .inr (7, [.ref n, .int 1, .int a1, .int 0])), (n, .inl (cs 2, 60, .inr (.inl (fun _ => 0))))] H := hP
  have hD : va_D A [(r, .inr (7, [.ref n, .int 1, .int a1, .int 0])), (n, .inl (cs 2, 60, .inr (.inl (fun _ => 0))))] := hD
  refine lv_aload_n hx hb dX7_make_10 rfl (lv_at hl 0 rfl) ?_
  refine lv_iload_n hx hb dX7_make_11 rfl (lv_at hl 2 rfl) ?_
  refine putD hx hb ht hown hK hP hD hS iTX7 tyX7 tyX7_ok nmX7 0 3 rfl rfl (by decide) fl_RX7_23 rfl rfl rfl (Nat.le_of_ble_eq_true rfl) dX7_make_12 (fun H locs hP hD hS => ?_)
  have hP : va_P G vwCl [(r, .inr (7, [.ref n, .int 1, .int a1, .int a2])), (n, .inl (cs 2, 60, .inr (.inl (fun _ => 0))))] H := hP
  have hD : va_D A [(r, .inr (7, [.ref n, .int 1, .int a1, .int a2])), (n, .inl (cs 2, 60, .inr (.inl (fun _ => 0))))] := hD
  refine lv_aload_n hx hb dX7_make_15 rfl (lv_at hl 0 rfl) ?_
  refine getF hx hb ht hown hK hP iTX7 0 0 rfl rfl (by decide) fl_RX7_9 rfl dX7_make_16 ?_
  refine lv_lconst (v := 0) hx hb dX7_make_19 (by decide) ?_
  refine behDv (wr := [(r, .inr (7, [.ref n, .int 1, .int a1, .int a2]))]) (runTD (As := [.ref n, .long 0]) (rest := []) ⟨hx, hb, hml, hown, ht⟩ (dJ7_fill_d0a16 l G cs n 60 (by decide) 0 (fun _ => 0)) okT_RX7_26 ⟨by decide, by decide⟩ hK hP hD [1] rfl (by decide) rfl hl.1 rfl (Nat.le_of_ble_eq_true rfl) dX7_make_20 ⟨Nat.le_of_ble_eq_true rfl, Nat.le_of_ble_eq_true rfl⟩) hP hD hS hA [1] [0] rfl rfl (by decide) (by decide) (fun u H locs hP hD hS => ?_)
  obtain ⟨f1, rfl⟩ : ∃ z, z = u := ⟨_, rfl⟩
  have hP : va_P G vwCl [(r, .inr (7, [.ref n, .int 1, .int a1, .int a2])), (n, .inl (cs 2, 60, .inr (.inl f1)))] H := hP
  have hD : va_D A [(r, .inr (7, [.ref n, .int 1, .int a1, .int a2])), (n, .inl (cs 2, 60, .inr (.inl f1)))] := hD
  exact retDv () hx hb hr hlk (hP.sub [] rfl) (hD.sub [] (by decide) rfl) hS dX7_make_23 (Nat.le_of_ble_eq_true rfl) (Nat.le_of_ble_eq_true rfl)
