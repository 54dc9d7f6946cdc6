set_option maxRecDepth 100000 in
set_option maxHeartbeats 8000000 in
theorem dX6_readHouse (l : Launch) (G : va_G) (cs : Nat → ClassId) (h : Nat) (q : Nat → Nat) : ImpI l yX6_readHouse cX6_readHouse 3 (some .boolean) 1 0 0 G (TY cs) [.ref (q 1), .ref (q 4)] [(xc1 cs h q), (xc2 cs h q), (xc4 cs h q)] (fun (r : Int32) (_ : Unit) => r = 1) (fun _ : Unit => [(xc1 cs h q), (xc2 cs h q), (xc4 cs h q)]) := by
  refine mkD (Qc := (QDi G (fun (r : Int32) (_ : Unit) => r = 1) (fun _ : Unit => [(xc1 cs h q), (xc2 cs h q), (xc4 cs h q)]))) (by decide) (by simp [lg_sl, Value.category]) ?_
  intro p e s m args below meth c ls A hx hb hml hr hlk hown hmn ht hK hP hD hS hA hl
  have hl : lv_has ls 3 [(0, .ref (q 1)), (1, .ref (q 4))] := hl
  refine lv_aload_n hx hb dX6_readHouse_0 rfl (lv_at hl 1 rfl) ?_
  refine behDv (wr := [(xc1 cs h q), (xc2 cs h q)]) (runVD (As := []) (rest := []) ⟨hx, hb, hml, hown, ht⟩ (dX3_clear l G cs h q) okV_RX6_22 ⟨by decide, by decide⟩ hK hP hD [2] rfl (by decide) rfl 2 rfl rfl hl.1 rfl (Nat.le_of_ble_eq_true rfl) dX6_readHouse_1 ⟨Nat.le_of_ble_eq_true rfl, Nat.le_of_ble_eq_true rfl⟩) hP hD hS hA [2] [0, 1] rfl rfl (by decide) (by decide) (fun u H locs hP hD hS => ?_)
  have hP : va_P G vwCl [(xc1 cs h q), (xc2 cs h q), (xc4 cs h q)] H := hP
  have hD : va_D A [(xc1 cs h q), (xc2 cs h q), (xc4 cs h q)] := hD
  refine lv_aload_n hx hb dX6_readHouse_4 rfl (lv_at hl 0 rfl) ?_
  refine lv_iconst (v := 0) hx hb dX6_readHouse_5 (by decide) ?_
  refine putD hx hb ht hown hK hP hD hS iTX6 tyX6 tyX6_ok nmX6 0 5 rfl rfl (by decide) fl_RX6_27 rfl rfl rfl (Nat.le_of_ble_eq_true rfl) dX6_readHouse_6 (fun H locs hP hD hS => ?_)
  have hP : va_P G vwCl [(xc1 cs h q), (xc2 cs h q), (xc4 cs h q)] H := hP
  have hD : va_D A [(xc1 cs h q), (xc2 cs h q), (xc4 cs h q)] := hD
  refine lv_aload_n hx hb dX6_readHouse_9 rfl (lv_at hl 0 rfl) ?_
  refine lv_iconst (v := (-1)) hx hb dX6_readHouse_10 (by decide) ?_
  refine putD hx hb ht hown hK hP hD hS iTX6 tyX6 tyX6_ok nmX6 0 6 rfl rfl (by decide) fl_RX6_18 rfl rfl rfl (Nat.le_of_ble_eq_true rfl) dX6_readHouse_11 (fun H locs hP hD hS => ?_)
  have hP : va_P G vwCl [(xc1 cs h q), (xc2 cs h q), (xc4 cs h q)] H := hP
  have hD : va_D A [(xc1 cs h q), (xc2 cs h q), (xc4 cs h q)] := hD
  refine lv_aload_n hx hb dX6_readHouse_14 rfl (lv_at hl 0 rfl) ?_
  refine lv_iconst (v := 0) hx hb dX6_readHouse_15 (by decide) ?_
  refine putD hx hb ht hown hK hP hD hS iTX6 tyX6 tyX6_ok nmX6 0 1 rfl rfl (by decide) fl_RX6_30 rfl rfl rfl (Nat.le_of_ble_eq_true rfl) dX6_readHouse_16 (fun H locs hP hD hS => ?_)
  have hP : va_P G vwCl [(xc1 cs h q), (xc2 cs h q), (xc4 cs h q)] H := hP
  have hD : va_D A [(xc1 cs h q), (xc2 cs h q), (xc4 cs h q)] := hD
  refine lv_aload_n hx hb dX6_readHouse_19 rfl (lv_at hl 0 rfl) ?_
  refine behDv (wr := [(xc4 cs h q)]) (runVD (As := []) (rest := []) ⟨hx, hb, hml, hown, ht⟩ (dX6_advance l G cs h q) okV_RX6_33 ⟨by decide, by decide⟩ hK hP hD [0, 1] rfl (by decide) rfl 0 rfl rfl hl.1 rfl (Nat.le_of_ble_eq_true rfl) dX6_readHouse_20 ⟨Nat.le_of_ble_eq_true rfl, Nat.le_of_ble_eq_true rfl⟩) hP hD hS hA [0, 1] [2] rfl rfl (by decide) (by decide) (fun u H locs hP hD hS => ?_)
  have hP : va_P G vwCl [(xc4 cs h q), (xc1 cs h q), (xc2 cs h q)] H := hP
  have hD : va_D A [(xc4 cs h q), (xc1 cs h q), (xc2 cs h q)] := hD
  refine lv_iconst (v := 0) hx hb dX6_readHouse_23 (by decide) ?_
  refine lv_istore_n (lv' := [(2, .int 0), (0, .ref (q 1)), (1, .ref (q 4))]) hx hb dX6_readHouse_24 rfl hl (by decide) rfl (fun ls hl => ?_)
  refine lv_iload_n hx hb dX6_readHouse_25 rfl (lv_at hl 0 rfl) ?_
  refine lv_sipush (v := 900) hx hb dX6_readHouse_26 (by decide) ?_
  refine lv_icmp_gt (tgt := 55) hx hb dX6_readHouse_29 (by decide) (fun c1 => False.elim (by revert c1; decide)) (fun c2 => ?_)
  refine lv_aload_n hx hb dX6_readHouse_32 rfl (lv_at hl 1 rfl) ?_
  refine getF hx hb ht hown hK hP iTX6 1 2 rfl rfl (by decide) fl_RX6_36 rfl dX6_readHouse_33 ?_
  refine lv_if_eq (tgt := 55) hx hb dX6_readHouse_36 (by decide) (fun c4 => ?_) (fun c3 => False.elim (by revert c3; decide))
  refine lv_iconst (v := 1) hx hb dX6_readHouse_55 (by decide) ?_
  exact retDz () hx hb hr hlk (hP.sub [1, 2, 0] rfl) (hD.sub [1, 2, 0] (by decide) rfl) hS dX6_readHouse_56 rfl (rfl) (Nat.le_of_ble_eq_true rfl) (Nat.le_of_ble_eq_true rfl)
