set_option maxRecDepth 100000 in
set_option maxHeartbeats 8000000 in
theorem dX10_house (l : Launch) (G : va_G) (cs : Nat → ClassId) (h : Nat) (q : Nat → Nat) : ImpI l yX10_house cX10_house 1 (some .int) 3 0 0 G (TY cs) [.ref h] [(xc0 cs h q), (xc1 cs h q), (xc2 cs h q), (xc4 cs h q), (xc5 cs h q), (xc6 cs h q), (xc7 cs h q), (xc8 cs h q), (xc9 cs h q), (xc10 cs h q), (xc11 cs h q), (xc12 cs h q), (xc13 cs h q), (xc14 cs h q), (xc15 cs h q), (xc16 cs h q), (xc17 cs h q), (xc18 cs h q), (xc19 cs h q), (xc20 cs h q), (xc62 cs h q), (xc63 cs h q)] (fun (r : Int32) (_ : Unit) => r = 0) (fun _ : Unit => []) := by
  refine mkD (Qc := (QDi G (fun (r : Int32) (_ : Unit) => r = 0) (fun _ : Unit => []))) (by decide) (by simp [lg_sl, Value.category]) ?_
  intro p e s m args below meth c ls A hx hb hml hr hlk hown hmn ht hK hP hD hS hA hl
  have hl : lv_has ls 1 [(0, .ref h)] := hl
  refine lv_aload_n hx hb dX10_house_0 rfl (lv_at hl 0 rfl) ?_
  refine getF hx hb ht hown hK hP iTX10 0 0 rfl rfl (by decide) fl_RX10_10 rfl dX10_house_1 ?_
  refine lv_aload_n hx hb dX10_house_4 rfl (lv_at hl 0 rfl) ?_
  refine getF hx hb ht hown hK hP iTX10 0 2 rfl rfl (by decide) fl_RX10_24 rfl dX10_house_5 ?_
  refine behDi (wr := [(xc0 cs h q), (xc5 cs h q), (xc6 cs h q), (xc7 cs h q), (xc8 cs h q), (xc9 cs h q), (xc10 cs h q), (xc11 cs h q), (xc12 cs h q), (xc13 cs h q), (xc14 cs h q), (xc15 cs h q), (xc16 cs h q), (xc17 cs h q), (xc18 cs h q), (xc19 cs h q), (xc20 cs h q), (xc62 cs h q), (xc63 cs h q)]) (runVD (As := [.ref (q 4)]) (rest := []) ⟨hx, hb, hml, hown, ht⟩ (dX6_readHouse l G cs h q) okV_RX10_94 ⟨by decide, by decide⟩ hK hP hD [1, 2, 3] rfl (by decide) rfl 1 rfl rfl hl.1 rfl (Nat.le_of_ble_eq_true rfl) dX10_house_8 ⟨Nat.le_of_ble_eq_true rfl, Nat.le_of_ble_eq_true rfl⟩) hP hD hS hA [1, 2, 3] [0, 4, 5, 6, 7, 8, 9, 10, 11, 12, 13, 14, 15, 16, 17, 18, 19, 20, 21] rfl rfl (by decide) (by decide) (fun r u H locs hr9 hP hD hS => ?_)
  have hP : va_P G vwCl [(xc0 cs h q), (xc5 cs h q), (xc6 cs h q), (xc7 cs h q), (xc8 cs h q), (xc9 cs h q), (xc10 cs h q), (xc11 cs h q), (xc12 cs h q), (xc13 cs h q), (xc14 cs h q), (xc15 cs h q), (xc16 cs h q), (xc17 cs h q), (xc18 cs h q), (xc19 cs h q), (xc20 cs h q), (xc62 cs h q), (xc63 cs h q), (xc1 cs h q), (xc2 cs h q), (xc4 cs h q)] H := hP
  have hD : va_D A [(xc0 cs h q), (xc5 cs h q), (xc6 cs h q), (xc7 cs h q), (xc8 cs h q), (xc9 cs h q), (xc10 cs h q), (xc11 cs h q), (xc12 cs h q), (xc13 cs h q), (xc14 cs h q), (xc15 cs h q), (xc16 cs h q), (xc17 cs h q), (xc18 cs h q), (xc19 cs h q), (xc20 cs h q), (xc62 cs h q), (xc63 cs h q), (xc1 cs h q), (xc2 cs h q), (xc4 cs h q)] := hD
  obtain rfl : r = 1 := hr9
  refine lv_if_ne (tgt := 17) hx hb dX10_house_11 (by decide) (fun c2 => ?_) (fun c1 => False.elim (by revert c1; decide))
  refine lv_aload_n hx hb dX10_house_17 rfl (lv_at hl 0 rfl) ?_
  refine getF hx hb ht hown hK hP iTX10 0 1 rfl rfl (by decide) fl_RX10_20 rfl dX10_house_18 ?_
  refine lv_iconst (v := 0) hx hb dX10_house_21 (by decide) ?_
  refine putD hx hb ht hown hK hP hD hS iTX9 tyX9 tyX9_ok nmX9 20 1 rfl rfl (by decide) fl_RX10_84 rfl rfl rfl (Nat.le_of_ble_eq_true rfl) dX10_house_22 (fun H locs hP hD hS => ?_)
  have hP : va_P G vwCl [(xc0 cs h q), (xc5 cs h q), (xc6 cs h q), (xc7 cs h q), (xc8 cs h q), (xc9 cs h q), (xc10 cs h q), (xc11 cs h q), (xc12 cs h q), (xc13 cs h q), (xc14 cs h q), (xc15 cs h q), (xc16 cs h q), (xc17 cs h q), (xc18 cs h q), (xc19 cs h q), (xc20 cs h q), (xc62 cs h q), (xc63 cs h q), (xc1 cs h q), (xc2 cs h q), (xc4 cs h q)] H := hP
  have hD : va_D A [(xc0 cs h q), (xc5 cs h q), (xc6 cs h q), (xc7 cs h q), (xc8 cs h q), (xc9 cs h q), (xc10 cs h q), (xc11 cs h q), (xc12 cs h q), (xc13 cs h q), (xc14 cs h q), (xc15 cs h q), (xc16 cs h q), (xc17 cs h q), (xc18 cs h q), (xc19 cs h q), (xc20 cs h q), (xc62 cs h q), (xc63 cs h q), (xc1 cs h q), (xc2 cs h q), (xc4 cs h q)] := hD
  refine lv_aload_n hx hb dX10_house_25 rfl (lv_at hl 0 rfl) ?_
  refine getF hx hb ht hown hK hP iTX10 0 3 rfl rfl (by decide) fl_RX10_31 rfl dX10_house_26 ?_
  refine getF hx hb ht hown hK hP iTX8 8 0 rfl rfl (by decide) fl_RX10_98 rfl dX10_house_29 ?_
  refine lv_aload_n hx hb dX10_house_32 rfl (lv_at hl 0 rfl) ?_
  refine getF hx hb ht hown hK hP iTX10 0 2 rfl rfl (by decide) fl_RX10_24 rfl dX10_house_33 ?_
  refine behDv (wr := [(xc0 cs h q), (xc12 cs h q), (xc62 cs h q), (xc63 cs h q), (xc1 cs h q), (xc2 cs h q)]) (runVD (As := [.ref (q 4)]) (rest := []) ⟨hx, hb, hml, hown, ht⟩ (dX3_copyFrom l G cs (fun k => q (13 + k)) (fun k => q (4 + k))) okV_RX10_101 ⟨by decide, by decide⟩ hK hP hD [9, 10, 11, 12, 13, 14, 15, 16, 21, 1, 2, 3, 4, 5, 6, 7] rfl (by decide) rfl 9 rfl rfl hl.1 rfl (Nat.le_of_ble_eq_true rfl) dX10_house_36 ⟨Nat.le_of_ble_eq_true rfl, Nat.le_of_ble_eq_true rfl⟩) hP hD hS hA [9, 10, 11, 12, 13, 14, 15, 16, 21, 1, 2, 3, 4, 5, 6, 7] [0, 8, 17, 18, 19, 20] rfl rfl (by decide) (by decide) (fun u H locs hP hD hS => ?_)
  have hP : va_P G vwCl [(xc0 cs h q), (xc12 cs h q), (xc62 cs h q), (xc63 cs h q), (xc1 cs h q), (xc2 cs h q), (xc13 cs h q), (xc4 cs h q)] H := hP
  have hD : va_D A [(xc0 cs h q), (xc12 cs h q), (xc62 cs h q), (xc63 cs h q), (xc1 cs h q), (xc2 cs h q), (xc13 cs h q), (xc4 cs h q)] := hD
  refine lv_aload_n hx hb dX10_house_39 rfl (lv_at hl 0 rfl) ?_
  refine getF hx hb ht hown hK hP iTX10 0 3 rfl rfl (by decide) fl_RX10_31 rfl dX10_house_40 ?_
  refine lv_iconst (v := 0) hx hb dX10_house_43 (by decide) ?_
  refine putD hx hb ht hown hK hP hD hS iTX8 tyX8 tyX8_ok nmX8 1 2 rfl rfl (by decide) fl_RX10_105 rfl rfl rfl (Nat.le_of_ble_eq_true rfl) dX10_house_44 (fun H locs hP hD hS => ?_)
  have hP : va_P G vwCl [(xc0 cs h q), (xc12 cs h q), (xc62 cs h q), (xc63 cs h q), (xc1 cs h q), (xc2 cs h q), (xc13 cs h q), (xc4 cs h q)] H := hP
  have hD : va_D A [(xc0 cs h q), (xc12 cs h q), (xc62 cs h q), (xc63 cs h q), (xc1 cs h q), (xc2 cs h q), (xc13 cs h q), (xc4 cs h q)] := hD
  refine lv_aload_n hx hb dX10_house_47 rfl (lv_at hl 0 rfl) ?_
  refine behDv (wr := [(xc1 cs h q), (xc2 cs h q), (xc4 cs h q)]) (runVD (As := []) (rest := []) ⟨hx, hb, hml, hown, ht⟩ (dX10_replay l G cs h q) okV_RX10_108 ⟨by decide, by decide⟩ hK hP hD [0, 1, 6, 2, 3] rfl (by decide) rfl 0 rfl rfl hl.1 rfl (Nat.le_of_ble_eq_true rfl) dX10_house_48 ⟨Nat.le_of_ble_eq_true rfl, Nat.le_of_ble_eq_true rfl⟩) hP hD hS hA [0, 1, 6, 2, 3] [4, 5, 7] rfl rfl (by decide) (by decide) (fun u H locs hP hD hS => ?_)
  have hP : va_P G vwCl [(xc1 cs h q), (xc2 cs h q), (xc4 cs h q), (xc0 cs h q), (xc12 cs h q), (xc13 cs h q)] H := hP
  have hD : va_D A [(xc1 cs h q), (xc2 cs h q), (xc4 cs h q), (xc0 cs h q), (xc12 cs h q), (xc13 cs h q)] := hD
  refine lv_aload_n hx hb dX10_house_51 rfl (lv_at hl 0 rfl) ?_
  refine getF hx hb ht hown hK hP iTX10 3 3 rfl rfl (by decide) fl_RX10_31 rfl dX10_house_52 ?_
  refine getF hx hb ht hown hK hP iTX8 4 0 rfl rfl (by decide) fl_RX10_98 rfl dX10_house_55 ?_
  refine getF hx hb ht hown hK hP iTX3 5 0 rfl rfl (by decide) fl_RX10_111 rfl dX10_house_58 ?_
  exact retDi () hx hb hr hlk (hP.sub [] rfl) (hD.sub [] (by decide) rfl) hS dX10_house_61 (rfl) (Nat.le_of_ble_eq_true rfl) (Nat.le_of_ble_eq_true rfl)
