set_option maxRecDepth 100000 in
set_option maxHeartbeats 8000000 in
theorem dX10_feed (l : Launch) (G : va_G) (cs : Nat → ClassId) (h : Nat) (q : Nat → Nat) (a1 a2 a3 a4 a5 : Int32) : ImpI l yX10_feed cX10_feed 6 (some .int) 1 0 0 G (TY cs) [.ref h, .int a1, .int a2, .int a3, .int a4, .int a5] [(xc0 cs h q), (xc2 cs h q), (xc3 cs h q)] (fun (r : Int32) (_ : Unit) => r = 20) (fun _ : Unit => []) := by
  refine mkD (Qc := (QDi G (fun (r : Int32) (_ : Unit) => r = 20) (fun _ : Unit => []))) (by decide) (by simp [lg_sl, Value.category]) ?_
  intro p e s m args below meth c ls A hx hb hml hr hlk hown hmn ht hK hP hD hS hA hl
  have hl : lv_has ls 6 [(0, .ref h), (1, .int a1), (2, .int a2), (3, .int a3), (4, .int a4), (5, .int a5)] := hl
  refine lv_aload_n hx hb dX10_feed_0 rfl (lv_at hl 0 rfl) ?_
  refine getF hx hb ht hown hK hP iTX10 0 1 rfl rfl (by decide) fl_RX10_20 rfl dX10_feed_1 ?_
  refine getF hx hb ht hown hK hP iTX9 1 1 rfl rfl (by decide) fl_RX10_84 rfl dX10_feed_4 ?_
  refine lv_bipush (v := 20) hx hb dX10_feed_7 (by decide) ?_
  refine lv_iadd hx hb dX10_feed_9 ?_
  refine lv_topi (fun v1 ev1 => ?_)
  obtain rfl : v1 = 20 := ev1.trans (by decide)
  refine lv_sipush (v := 900) hx hb dX10_feed_10 (by decide) ?_
  refine lv_icmp_le (tgt := 18) hx hb dX10_feed_13 (by decide) (fun c3 => ?_) (fun c2 => False.elim (by revert c2; decide))
  refine lv_aload_n hx hb dX10_feed_18 rfl (lv_at hl 0 rfl) ?_
  refine getF hx hb ht hown hK hP iTX10 0 1 rfl rfl (by decide) fl_RX10_20 rfl dX10_feed_19 ?_
  refine lv_iload_n hx hb dX10_feed_22 rfl (lv_at hl 1 rfl) ?_
  refine behDv (wr := [(xc0 cs h q)]) (runVD (As := [.int a1]) (rest := []) ⟨hx, hb, hml, hown, ht⟩ (dX9_push0 l G cs q (fun _ => 0) a1) okV_RX10_90 ⟨by decide, by decide⟩ hK hP hD [1, 2] rfl (by decide) rfl 1 rfl rfl hl.1 rfl (Nat.le_of_ble_eq_true rfl) dX10_feed_23 ⟨Nat.le_of_ble_eq_true rfl, Nat.le_of_ble_eq_true rfl⟩) hP hD hS hA [1, 2] [0] rfl rfl (by decide) (by decide) (fun u H locs hP hD hS => ?_)
  obtain ⟨f4, rfl⟩ : ∃ z, z = u := ⟨_, rfl⟩
  have hP : va_P G vwCl [(xc0 cs h q), (q 2, .inr (9, [.ref (q 3), .int 4])), (q 3, .inl (cs 1, 900, .inl f4))] H := hP
  have hD : va_D A [(xc0 cs h q), (q 2, .inr (9, [.ref (q 3), .int 4])), (q 3, .inl (cs 1, 900, .inl f4))] := hD
  refine lv_aload_n hx hb dX10_feed_26 rfl (lv_at hl 0 rfl) ?_
  refine getF hx hb ht hown hK hP iTX10 0 1 rfl rfl (by decide) fl_RX10_20 rfl dX10_feed_27 ?_
  refine lv_iload_n hx hb dX10_feed_30 rfl (lv_at hl 2 rfl) ?_
  refine behDv (wr := [(xc0 cs h q)]) (runVD (As := [.int a2]) (rest := []) ⟨hx, hb, hml, hown, ht⟩ (dX9_push4 l G cs q f4 a2) okV_RX10_90 ⟨by decide, by decide⟩ hK hP hD [1, 2] rfl (by decide) rfl 1 rfl rfl hl.1 rfl (Nat.le_of_ble_eq_true rfl) dX10_feed_31 ⟨Nat.le_of_ble_eq_true rfl, Nat.le_of_ble_eq_true rfl⟩) hP hD hS hA [1, 2] [0] rfl rfl (by decide) (by decide) (fun u H locs hP hD hS => ?_)
  obtain ⟨f5, rfl⟩ : ∃ z, z = u := ⟨_, rfl⟩
  have hP : va_P G vwCl [(xc0 cs h q), (q 2, .inr (9, [.ref (q 3), .int 8])), (q 3, .inl (cs 1, 900, .inl f5))] H := hP
  have hD : va_D A [(xc0 cs h q), (q 2, .inr (9, [.ref (q 3), .int 8])), (q 3, .inl (cs 1, 900, .inl f5))] := hD
  refine lv_aload_n hx hb dX10_feed_34 rfl (lv_at hl 0 rfl) ?_
  refine getF hx hb ht hown hK hP iTX10 0 1 rfl rfl (by decide) fl_RX10_20 rfl dX10_feed_35 ?_
  refine lv_iload_n hx hb dX10_feed_38 rfl (lv_at hl 3 rfl) ?_
  refine behDv (wr := [(xc0 cs h q)]) (runVD (As := [.int a3]) (rest := []) ⟨hx, hb, hml, hown, ht⟩ (dX9_push8 l G cs q f5 a3) okV_RX10_90 ⟨by decide, by decide⟩ hK hP hD [1, 2] rfl (by decide) rfl 1 rfl rfl hl.1 rfl (Nat.le_of_ble_eq_true rfl) dX10_feed_39 ⟨Nat.le_of_ble_eq_true rfl, Nat.le_of_ble_eq_true rfl⟩) hP hD hS hA [1, 2] [0] rfl rfl (by decide) (by decide) (fun u H locs hP hD hS => ?_)
  obtain ⟨f6, rfl⟩ : ∃ z, z = u := ⟨_, rfl⟩
  have hP : va_P G vwCl [(xc0 cs h q), (q 2, .inr (9, [.ref (q 3), .int 12])), (q 3, .inl (cs 1, 900, .inl f6))] H := hP
  have hD : va_D A [(xc0 cs h q), (q 2, .inr (9, [.ref (q 3), .int 12])), (q 3, .inl (cs 1, 900, .inl f6))] := hD
  refine lv_aload_n hx hb dX10_feed_42 rfl (lv_at hl 0 rfl) ?_
  refine getF hx hb ht hown hK hP iTX10 0 1 rfl rfl (by decide) fl_RX10_20 rfl dX10_feed_43 ?_
  refine lv_iload hx hb dX10_feed_46 (lv_at hl 4 rfl) ?_
  refine behDv (wr := [(xc0 cs h q)]) (runVD (As := [.int a4]) (rest := []) ⟨hx, hb, hml, hown, ht⟩ (dX9_push12 l G cs q f6 a4) okV_RX10_90 ⟨by decide, by decide⟩ hK hP hD [1, 2] rfl (by decide) rfl 1 rfl rfl hl.1 rfl (Nat.le_of_ble_eq_true rfl) dX10_feed_48 ⟨Nat.le_of_ble_eq_true rfl, Nat.le_of_ble_eq_true rfl⟩) hP hD hS hA [1, 2] [0] rfl rfl (by decide) (by decide) (fun u H locs hP hD hS => ?_)
  obtain ⟨f7, rfl⟩ : ∃ z, z = u := ⟨_, rfl⟩
  have hP : va_P G vwCl [(xc0 cs h q), (q 2, .inr (9, [.ref (q 3), .int 16])), (q 3, .inl (cs 1, 900, .inl f7))] H := hP
  have hD : va_D A [(xc0 cs h q), (q 2, .inr (9, [.ref (q 3), .int 16])), (q 3, .inl (cs 1, 900, .inl f7))] := hD
  refine lv_aload_n hx hb dX10_feed_51 rfl (lv_at hl 0 rfl) ?_
  refine getF hx hb ht hown hK hP iTX10 0 1 rfl rfl (by decide) fl_RX10_20 rfl dX10_feed_52 ?_
  refine lv_iload hx hb dX10_feed_55 (lv_at hl 5 rfl) ?_
  refine behDv (wr := [(xc0 cs h q)]) (runVD (As := [.int a5]) (rest := []) ⟨hx, hb, hml, hown, ht⟩ (dX9_push16 l G cs q f7 a5) okV_RX10_90 ⟨by decide, by decide⟩ hK hP hD [1, 2] rfl (by decide) rfl 1 rfl rfl hl.1 rfl (Nat.le_of_ble_eq_true rfl) dX10_feed_57 ⟨Nat.le_of_ble_eq_true rfl, Nat.le_of_ble_eq_true rfl⟩) hP hD hS hA [1, 2] [0] rfl rfl (by decide) (by decide) (fun u H locs hP hD hS => ?_)
  obtain ⟨f8, rfl⟩ : ∃ z, z = u := ⟨_, rfl⟩
  have hP : va_P G vwCl [(xc0 cs h q), (q 2, .inr (9, [.ref (q 3), .int 20])), (q 3, .inl (cs 1, 900, .inl f8))] H := hP
  have hD : va_D A [(xc0 cs h q), (q 2, .inr (9, [.ref (q 3), .int 20])), (q 3, .inl (cs 1, 900, .inl f8))] := hD
  refine lv_aload_n hx hb dX10_feed_60 rfl (lv_at hl 0 rfl) ?_
  refine getF hx hb ht hown hK hP iTX10 0 1 rfl rfl (by decide) fl_RX10_20 rfl dX10_feed_61 ?_
  refine getF hx hb ht hown hK hP iTX9 1 1 rfl rfl (by decide) fl_RX10_84 rfl dX10_feed_64 ?_
  exact retDi () hx hb hr hlk (hP.sub [] rfl) (hD.sub [] (by decide) rfl) hS dX10_feed_67 (rfl) (Nat.le_of_ble_eq_true rfl) (Nat.le_of_ble_eq_true rfl)
