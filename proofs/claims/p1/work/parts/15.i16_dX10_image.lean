set_option maxRecDepth 100000 in
set_option maxHeartbeats 8000000 in
theorem dX10_image (l : Launch) (G : va_G) (cs : Nat → ClassId) (h : Nat) (q : Nat → Nat) (a1 : Int32) : ImpI l yX10_image cX10_image 2 (some .int) 3 0 0 G (TY cs) [.ref h, .int a1] [(xc0 cs h q), (xc12 cs h q), (xc13 cs h q), (xc14 cs h q), (xc15 cs h q), (xc16 cs h q), (xc17 cs h q), (xc18 cs h q), (xc19 cs h q), (xc20 cs h q), (xc21 cs h q), (xc22 cs h q), (xc23 cs h q), (xc24 cs h q), (xc25 cs h q), (xc26 cs h q), (xc27 cs h q), (xc28 cs h q), (xc29 cs h q), (xc30 cs h q), (xc31 cs h q), (xc32 cs h q), (xc33 cs h q), (xc34 cs h q), (xc35 cs h q), (xc36 cs h q), (xc37 cs h q), (xc38 cs h q), (xc39 cs h q), (xc40 cs h q), (xc41 cs h q), (xc42 cs h q), (xc43 cs h q), (xc44 cs h q), (xc45 cs h q), (xc46 cs h q), (xc47 cs h q), (xc48 cs h q), (xc49 cs h q), (xc50 cs h q), (xc51 cs h q), (xc52 cs h q)] (fun (r : Int32) (_ : Unit) => r = (spk 3 a1 0 (-2))) (fun _ : Unit => []) := by
  rcases cs3 a1 with hn0 | hb0 | rfl | rfl | rfl
  · refine mkD (Qc := (QDi G (fun (r : Int32) (_ : Unit) => r = (spk 3 a1 0 (-2))) (fun _ : Unit => []))) (by decide) (by simp [lg_sl, Value.category]) ?_
    intro p e s m args below meth c ls A hx hb hml hr hlk hown hmn ht hK hP hD hS hA hl
    have hl : lv_has ls 2 [(0, .ref h), (1, .int a1)] := hl
    refine lv_iload_n hx hb dX10_image_0 rfl (lv_at hl 1 rfl) ?_
    refine lv_if_lt (tgt := 9) hx hb dX10_image_1 (by decide) (fun c2 => ?_) (fun c1 => False.elim (by have z0 := ltT hn0; have z1 := nltT c1; have k0 : (0 : Int32).toInt = 0 := (by decide); omega))
    refine lv_bipush (v := (-2)) hx hb dX10_image_9 (by decide) ?_
    exact retDi () hx hb hr hlk (hP.sub [] rfl) (hD.sub [] (by decide) rfl) hS dX10_image_11 ((spk_lo hn0).symm) (Nat.le_of_ble_eq_true rfl) (Nat.le_of_ble_eq_true rfl)
  · refine mkD (Qc := (QDi G (fun (r : Int32) (_ : Unit) => r = (spk 3 a1 0 (-2))) (fun _ : Unit => []))) (by decide) (by simp [lg_sl, Value.category]) ?_
    intro p e s m args below meth c ls A hx hb hml hr hlk hown hmn ht hK hP hD hS hA hl
    have hl : lv_has ls 2 [(0, .ref h), (1, .int a1)] := hl
    refine lv_iload_n hx hb dX10_image_0 rfl (lv_at hl 1 rfl) ?_
    refine lv_if_lt (tgt := 9) hx hb dX10_image_1 (by decide) (fun c1 => False.elim (by have z0 := leT hb0; have z1 := ltT c1; have k0 : (0 : Int32).toInt = 0 := (by decide); have k1 : (3 : Int32).toInt = 3 := (by decide); omega)) (fun c2 => ?_)
    refine lv_iload_n hx hb dX10_image_4 rfl (lv_at hl 1 rfl) ?_
    refine lv_iconst (v := 3) hx hb dX10_image_5 (by decide) ?_
    refine lv_icmp_lt (tgt := 12) hx hb dX10_image_6 (by decide) (fun c3 => False.elim (by have z0 := leT hb0; have z1 := ltT c3; have k0 : (3 : Int32).toInt = 3 := (by decide); omega)) (fun c4 => ?_)
    refine lv_bipush (v := (-2)) hx hb dX10_image_9 (by decide) ?_
    exact retDi () hx hb hr hlk (hP.sub [] rfl) (hD.sub [] (by decide) rfl) hS dX10_image_11 ((spk_hi (by decide) hb0).symm) (Nat.le_of_ble_eq_true rfl) (Nat.le_of_ble_eq_true rfl)
  · refine mkD (Qc := (QDi G (fun (r : Int32) (_ : Unit) => r = (spk 3 0 0 (-2))) (fun _ : Unit => []))) (by decide) (by simp [lg_sl, Value.category]) ?_
    intro p e s m args below meth c ls A hx hb hml hr hlk hown hmn ht hK hP hD hS hA hl
    have hl : lv_has ls 2 [(0, .ref h), (1, .int 0)] := hl
    refine lv_iload_n hx hb dX10_image_0 rfl (lv_at hl 1 rfl) ?_
    refine lv_if_lt (tgt := 9) hx hb dX10_image_1 (by decide) (fun c1 => False.elim (by revert c1; decide)) (fun c2 => ?_)
    refine lv_iload_n hx hb dX10_image_4 rfl (lv_at hl 1 rfl) ?_
    refine lv_iconst (v := 3) hx hb dX10_image_5 (by decide) ?_
    refine lv_icmp_lt (tgt := 12) hx hb dX10_image_6 (by decide) (fun c4 => ?_) (fun c3 => False.elim (by revert c3; decide))
    refine lv_aload_n hx hb dX10_image_12 rfl (lv_at hl 0 rfl) ?_
    refine getF hx hb ht hown hK hP iTX10 0 4 rfl rfl (by decide) fl_RX10_35 rfl dX10_image_13 ?_
    refine lv_iload_n hx hb dX10_image_16 rfl (lv_at hl 1 rfl) ?_
    refine va_aldq hx hb hK.1 hP 11 4 rfl rfl (show ¬ (_ ∨ _) by decide) dX10_image_17 ?_
    refine W.eq (g2 := F0 m 18 ls [.ref (q 23)]) rfl ?_
    refine lv_aload_n hx hb dX10_image_18 rfl (lv_at hl 0 rfl) ?_
    refine getF hx hb ht hown hK hP iTX10 0 3 rfl rfl (by decide) fl_RX10_31 rfl dX10_image_19 ?_
    refine behDv (wr := [(xc0 cs h q), (xc22 cs h q), (xc33 cs h q), (xc34 cs h q), (xc35 cs h q), (xc36 cs h q), (xc37 cs h q), (xc38 cs h q), (xc39 cs h q), (xc40 cs h q), (xc41 cs h q), (xc42 cs h q), (xc43 cs h q), (xc44 cs h q), (xc45 cs h q), (xc46 cs h q), (xc47 cs h q), (xc48 cs h q), (xc49 cs h q), (xc50 cs h q), (xc51 cs h q), (xc52 cs h q)]) (runVD (As := [.ref (q 12)]) (rest := []) ⟨hx, hb, hml, hown, ht⟩ (dX8_copyFrom l G cs (fun k => q (23 + k)) (fun k => q (12 + k))) okV_RX10_341 ⟨by decide, by decide⟩ hK hP hD [12, 13, 14, 15, 16, 17, 18, 19, 20, 21, 1, 2, 3, 4, 5, 6, 7, 8, 9, 10] rfl (by decide) rfl 12 rfl rfl hl.1 rfl (Nat.le_of_ble_eq_true rfl) dX10_image_22 ⟨Nat.le_of_ble_eq_true rfl, Nat.le_of_ble_eq_true rfl⟩) hP hD hS hA [12, 13, 14, 15, 16, 17, 18, 19, 20, 21, 1, 2, 3, 4, 5, 6, 7, 8, 9, 10] [0, 11, 22, 23, 24, 25, 26, 27, 28, 29, 30, 31, 32, 33, 34, 35, 36, 37, 38, 39, 40, 41] rfl rfl (by decide) (by decide) (fun u H locs hP hD hS => ?_)
    have hP : va_P G vwCl [(xc0 cs h q), (xc22 cs h q), (xc33 cs h q), (xc34 cs h q), (xc35 cs h q), (xc36 cs h q), (xc37 cs h q), (xc38 cs h q), (xc39 cs h q), (xc40 cs h q), (xc41 cs h q), (xc42 cs h q), (xc43 cs h q), (xc44 cs h q), (xc45 cs h q), (xc46 cs h q), (xc47 cs h q), (xc48 cs h q), (xc49 cs h q), (xc50 cs h q), (xc51 cs h q), (xc52 cs h q), (xc23 cs h q)] H := hP
    have hD : va_D A [(xc0 cs h q), (xc22 cs h q), (xc33 cs h q), (xc34 cs h q), (xc35 cs h q), (xc36 cs h q), (xc37 cs h q), (xc38 cs h q), (xc39 cs h q), (xc40 cs h q), (xc41 cs h q), (xc42 cs h q), (xc43 cs h q), (xc44 cs h q), (xc45 cs h q), (xc46 cs h q), (xc47 cs h q), (xc48 cs h q), (xc49 cs h q), (xc50 cs h q), (xc51 cs h q), (xc52 cs h q), (xc23 cs h q)] := hD
    refine lv_aload_n hx hb dX10_image_25 rfl (lv_at hl 0 rfl) ?_
    refine getF hx hb ht hown hK hP iTX10 0 4 rfl rfl (by decide) fl_RX10_35 rfl dX10_image_26 ?_
    refine lv_iload_n hx hb dX10_image_29 rfl (lv_at hl 1 rfl) ?_
    refine va_aldq hx hb hK.1 hP 1 4 rfl rfl (show ¬ (_ ∨ _) by decide) dX10_image_30 ?_
    refine W.eq (g2 := F0 m 31 ls [.ref (q 23)]) rfl ?_
    refine lv_iconst (v := 1) hx hb dX10_image_31 (by decide) ?_
    refine putD hx hb ht hown hK hP hD hS iTX8 tyX8 tyX8_ok nmX8 22 3 rfl rfl (by decide) fl_RX10_344 rfl rfl rfl (Nat.le_of_ble_eq_true rfl) dX10_image_32 (fun H locs hP hD hS => ?_)
    have hP : va_P G vwCl [(xc0 cs h q), (xc22 cs h q), (xc33 cs h q), (xc34 cs h q), (xc35 cs h q), (xc36 cs h q), (xc37 cs h q), (xc38 cs h q), (xc39 cs h q), (xc40 cs h q), (xc41 cs h q), (xc42 cs h q), (xc43 cs h q), (xc44 cs h q), (xc45 cs h q), (xc46 cs h q), (xc47 cs h q), (xc48 cs h q), (xc49 cs h q), (xc50 cs h q), (xc51 cs h q), (xc52 cs h q), (q 23, .inr (8, [.ref (q 24), .ref (q 32), .int 0, .int 1]))] H := hP
    have hD : va_D A [(xc0 cs h q), (xc22 cs h q), (xc33 cs h q), (xc34 cs h q), (xc35 cs h q), (xc36 cs h q), (xc37 cs h q), (xc38 cs h q), (xc39 cs h q), (xc40 cs h q), (xc41 cs h q), (xc42 cs h q), (xc43 cs h q), (xc44 cs h q), (xc45 cs h q), (xc46 cs h q), (xc47 cs h q), (xc48 cs h q), (xc49 cs h q), (xc50 cs h q), (xc51 cs h q), (xc52 cs h q), (q 23, .inr (8, [.ref (q 24), .ref (q 32), .int 0, .int 1]))] := hD
    refine lv_iconst (v := 0) hx hb dX10_image_35 (by decide) ?_
    exact retDi () hx hb hr hlk (hP.sub [] rfl) (hD.sub [] (by decide) rfl) hS dX10_image_36 (by decide) (Nat.le_of_ble_eq_true rfl) (Nat.le_of_ble_eq_true rfl)
  · refine mkD (Qc := (QDi G (fun (r : Int32) (_ : Unit) => r = (spk 3 1 0 (-2))) (fun _ : Unit => []))) (by decide) (by simp [lg_sl, Value.category]) ?_
    intro p e s m args below meth c ls A hx hb hml hr hlk hown hmn ht hK hP hD hS hA hl
    have hl : lv_has ls 2 [(0, .ref h), (1, .int 1)] := hl
    refine lv_iload_n hx hb dX10_image_0 rfl (lv_at hl 1 rfl) ?_
    refine lv_if_lt (tgt := 9) hx hb dX10_image_1 (by decide) (fun c1 => False.elim (by revert c1; decide)) (fun c2 => ?_)
    refine lv_iload_n hx hb dX10_image_4 rfl (lv_at hl 1 rfl) ?_
    refine lv_iconst (v := 3) hx hb dX10_image_5 (by decide) ?_
    refine lv_icmp_lt (tgt := 12) hx hb dX10_image_6 (by decide) (fun c4 => ?_) (fun c3 => False.elim (by revert c3; decide))
    refine lv_aload_n hx hb dX10_image_12 rfl (lv_at hl 0 rfl) ?_
    refine getF hx hb ht hown hK hP iTX10 0 4 rfl rfl (by decide) fl_RX10_35 rfl dX10_image_13 ?_
    refine lv_iload_n hx hb dX10_image_16 rfl (lv_at hl 1 rfl) ?_
    refine va_aldq hx hb hK.1 hP 11 4 rfl rfl (show ¬ (_ ∨ _) by decide) dX10_image_17 ?_
    refine W.eq (g2 := F0 m 18 ls [.ref (q 33)]) rfl ?_
    refine lv_aload_n hx hb dX10_image_18 rfl (lv_at hl 0 rfl) ?_
    refine getF hx hb ht hown hK hP iTX10 0 3 rfl rfl (by decide) fl_RX10_31 rfl dX10_image_19 ?_
    refine behDv (wr := [(xc0 cs h q), (xc22 cs h q), (xc23 cs h q), (xc24 cs h q), (xc25 cs h q), (xc26 cs h q), (xc27 cs h q), (xc28 cs h q), (xc29 cs h q), (xc30 cs h q), (xc31 cs h q), (xc32 cs h q), (xc43 cs h q), (xc44 cs h q), (xc45 cs h q), (xc46 cs h q), (xc47 cs h q), (xc48 cs h q), (xc49 cs h q), (xc50 cs h q), (xc51 cs h q), (xc52 cs h q)]) (runVD (As := [.ref (q 12)]) (rest := []) ⟨hx, hb, hml, hown, ht⟩ (dX8_copyFrom l G cs (fun k => q (33 + k)) (fun k => q (12 + k))) okV_RX10_341 ⟨by decide, by decide⟩ hK hP hD [22, 23, 24, 25, 26, 27, 28, 29, 30, 31, 1, 2, 3, 4, 5, 6, 7, 8, 9, 10] rfl (by decide) rfl 22 rfl rfl hl.1 rfl (Nat.le_of_ble_eq_true rfl) dX10_image_22 ⟨Nat.le_of_ble_eq_true rfl, Nat.le_of_ble_eq_true rfl⟩) hP hD hS hA [22, 23, 24, 25, 26, 27, 28, 29, 30, 31, 1, 2, 3, 4, 5, 6, 7, 8, 9, 10] [0, 11, 12, 13, 14, 15, 16, 17, 18, 19, 20, 21, 32, 33, 34, 35, 36, 37, 38, 39, 40, 41] rfl rfl (by decide) (by decide) (fun u H locs hP hD hS => ?_)
    have hP : va_P G vwCl [(xc0 cs h q), (xc22 cs h q), (xc23 cs h q), (xc24 cs h q), (xc25 cs h q), (xc26 cs h q), (xc27 cs h q), (xc28 cs h q), (xc29 cs h q), (xc30 cs h q), (xc31 cs h q), (xc32 cs h q), (xc43 cs h q), (xc44 cs h q), (xc45 cs h q), (xc46 cs h q), (xc47 cs h q), (xc48 cs h q), (xc49 cs h q), (xc50 cs h q), (xc51 cs h q), (xc52 cs h q), (xc33 cs h q)] H := hP
    have hD : va_D A [(xc0 cs h q), (xc22 cs h q), (xc23 cs h q), (xc24 cs h q), (xc25 cs h q), (xc26 cs h q), (xc27 cs h q), (xc28 cs h q), (xc29 cs h q), (xc30 cs h q), (xc31 cs h q), (xc32 cs h q), (xc43 cs h q), (xc44 cs h q), (xc45 cs h q), (xc46 cs h q), (xc47 cs h q), (xc48 cs h q), (xc49 cs h q), (xc50 cs h q), (xc51 cs h q), (xc52 cs h q), (xc33 cs h q)] := hD
    refine lv_aload_n hx hb dX10_image_25 rfl (lv_at hl 0 rfl) ?_
    refine getF hx hb ht hown hK hP iTX10 0 4 rfl rfl (by decide) fl_RX10_35 rfl dX10_image_26 ?_
    refine lv_iload_n hx hb dX10_image_29 rfl (lv_at hl 1 rfl) ?_
    refine va_aldq hx hb hK.1 hP 1 4 rfl rfl (show ¬ (_ ∨ _) by decide) dX10_image_30 ?_
    refine W.eq (g2 := F0 m 31 ls [.ref (q 33)]) rfl ?_
    refine lv_iconst (v := 1) hx hb dX10_image_31 (by decide) ?_
    refine putD hx hb ht hown hK hP hD hS iTX8 tyX8 tyX8_ok nmX8 22 3 rfl rfl (by decide) fl_RX10_344 rfl rfl rfl (Nat.le_of_ble_eq_true rfl) dX10_image_32 (fun H locs hP hD hS => ?_)
    have hP : va_P G vwCl [(xc0 cs h q), (xc22 cs h q), (xc23 cs h q), (xc24 cs h q), (xc25 cs h q), (xc26 cs h q), (xc27 cs h q), (xc28 cs h q), (xc29 cs h q), (xc30 cs h q), (xc31 cs h q), (xc32 cs h q), (xc43 cs h q), (xc44 cs h q), (xc45 cs h q), (xc46 cs h q), (xc47 cs h q), (xc48 cs h q), (xc49 cs h q), (xc50 cs h q), (xc51 cs h q), (xc52 cs h q), (q 33, .inr (8, [.ref (q 34), .ref (q 42), .int 0, .int 1]))] H := hP
    have hD : va_D A [(xc0 cs h q), (xc22 cs h q), (xc23 cs h q), (xc24 cs h q), (xc25 cs h q), (xc26 cs h q), (xc27 cs h q), (xc28 cs h q), (xc29 cs h q), (xc30 cs h q), (xc31 cs h q), (xc32 cs h q), (xc43 cs h q), (xc44 cs h q), (xc45 cs h q), (xc46 cs h q), (xc47 cs h q), (xc48 cs h q), (xc49 cs h q), (xc50 cs h q), (xc51 cs h q), (xc52 cs h q), (q 33, .inr (8, [.ref (q 34), .ref (q 42), .int 0, .int 1]))] := hD
    refine lv_iconst (v := 0) hx hb dX10_image_35 (by decide) ?_
    exact retDi () hx hb hr hlk (hP.sub [] rfl) (hD.sub [] (by decide) rfl) hS dX10_image_36 (by decide) (Nat.le_of_ble_eq_true rfl) (Nat.le_of_ble_eq_true rfl)
  · refine mkD (Qc := (QDi G (fun (r : Int32) (_ : Unit) => r = (spk 3 2 0 (-2))) (fun _ : Unit => []))) (by decide) (by simp [lg_sl, Value.category]) ?_
    intro p e s m args below meth c ls A hx hb hml hr hlk hown hmn ht hK hP hD hS hA hl
    have hl : lv_has ls 2 [(0, .ref h), (1, .int 2)] := hl
    refine lv_iload_n hx hb dX10_image_0 rfl (lv_at hl 1 rfl) ?_
    refine lv_if_lt (tgt := 9) hx hb dX10_image_1 (by decide) (fun c1 => False.elim (by revert c1; decide)) (fun c2 => ?_)
    refine lv_iload_n hx hb dX10_image_4 rfl (lv_at hl 1 rfl) ?_
    refine lv_iconst (v := 3) hx hb dX10_image_5 (by decide) ?_
    refine lv_icmp_lt (tgt := 12) hx hb dX10_image_6 (by decide) (fun c4 => ?_) (fun c3 => False.elim (by revert c3; decide))
    refine lv_aload_n hx hb dX10_image_12 rfl (lv_at hl 0 rfl) ?_
    refine getF hx hb ht hown hK hP iTX10 0 4 rfl rfl (by decide) fl_RX10_35 rfl dX10_image_13 ?_
    refine lv_iload_n hx hb dX10_image_16 rfl (lv_at hl 1 rfl) ?_
    refine va_aldq hx hb hK.1 hP 11 4 rfl rfl (show ¬ (_ ∨ _) by decide) dX10_image_17 ?_
    refine W.eq (g2 := F0 m 18 ls [.ref (q 43)]) rfl ?_
    refine lv_aload_n hx hb dX10_image_18 rfl (lv_at hl 0 rfl) ?_
    refine getF hx hb ht hown hK hP iTX10 0 3 rfl rfl (by decide) fl_RX10_31 rfl dX10_image_19 ?_
    refine behDv (wr := [(xc0 cs h q), (xc22 cs h q), (xc23 cs h q), (xc24 cs h q), (xc25 cs h q), (xc26 cs h q), (xc27 cs h q), (xc28 cs h q), (xc29 cs h q), (xc30 cs h q), (xc31 cs h q), (xc32 cs h q), (xc33 cs h q), (xc34 cs h q), (xc35 cs h q), (xc36 cs h q), (xc37 cs h q), (xc38 cs h q), (xc39 cs h q), (xc40 cs h q), (xc41 cs h q), (xc42 cs h q)]) (runVD (As := [.ref (q 12)]) (rest := []) ⟨hx, hb, hml, hown, ht⟩ (dX8_copyFrom l G cs (fun k => q (43 + k)) (fun k => q (12 + k))) okV_RX10_341 ⟨by decide, by decide⟩ hK hP hD [32, 33, 34, 35, 36, 37, 38, 39, 40, 41, 1, 2, 3, 4, 5, 6, 7, 8, 9, 10] rfl (by decide) rfl 32 rfl rfl hl.1 rfl (Nat.le_of_ble_eq_true rfl) dX10_image_22 ⟨Nat.le_of_ble_eq_true rfl, Nat.le_of_ble_eq_true rfl⟩) hP hD hS hA [32, 33, 34, 35, 36, 37, 38, 39, 40, 41, 1, 2, 3, 4, 5, 6, 7, 8, 9, 10] [0, 11, 12, 13, 14, 15, 16, 17, 18, 19, 20, 21, 22, 23, 24, 25, 26, 27, 28, 29, 30, 31] rfl rfl (by decide) (by decide) (fun u H locs hP hD hS => ?_)
    have hP : va_P G vwCl [(xc0 cs h q), (xc22 cs h q), (xc23 cs h q), (xc24 cs h q), (xc25 cs h q), (xc26 cs h q), (xc27 cs h q), (xc28 cs h q), (xc29 cs h q), (xc30 cs h q), (xc31 cs h q), (xc32 cs h q), (xc33 cs h q), (xc34 cs h q), (xc35 cs h q), (xc36 cs h q), (xc37 cs h q), (xc38 cs h q), (xc39 cs h q), (xc40 cs h q), (xc41 cs h q), (xc42 cs h q), (xc43 cs h q)] H := hP
    have hD : va_D A [(xc0 cs h q), (xc22 cs h q), (xc23 cs h q), (xc24 cs h q), (xc25 cs h q), (xc26 cs h q), (xc27 cs h q), (xc28 cs h q), (xc29 cs h q), (xc30 cs h q), (xc31 cs h q), (xc32 cs h q), (xc33 cs h q), (xc34 cs h q), (xc35 cs h q), (xc36 cs h q), (xc37 cs h q), (xc38 cs h q), (xc39 cs h q), (xc40 cs h q), (xc41 cs h q), (xc42 cs h q), (xc43 cs h q)] := hD
    refine lv_aload_n hx hb dX10_image_25 rfl (lv_at hl 0 rfl) ?_
    refine getF hx hb ht hown hK hP iTX10 0 4 rfl rfl (by decide) fl_RX10_35 rfl dX10_image_26 ?_
    refine lv_iload_n hx hb dX10_image_29 rfl (lv_at hl 1 rfl) ?_
    refine va_aldq hx hb hK.1 hP 1 4 rfl rfl (show ¬ (_ ∨ _) by decide) dX10_image_30 ?_
    refine W.eq (g2 := F0 m 31 ls [.ref (q 43)]) rfl ?_
    refine lv_iconst (v := 1) hx hb dX10_image_31 (by decide) ?_
    refine putD hx hb ht hown hK hP hD hS iTX8 tyX8 tyX8_ok nmX8 22 3 rfl rfl (by decide) fl_RX10_344 rfl rfl rfl (Nat.le_of_ble_eq_true rfl) dX10_image_32 (fun H locs hP hD hS => ?_)
    have hP : va_P G vwCl [(xc0 cs h q), (xc22 cs h q), (xc23 cs h q), (xc24 cs h q), (xc25 cs h q), (xc26 cs h q), (xc27 cs h q), (xc28 cs h q), (xc29 cs h q), (xc30 cs h q), (xc31 cs h q), (xc32 cs h q), (xc33 cs h q), (xc34 cs h q), (xc35 cs h q), (xc36 cs h q), (xc37 cs h q), (xc38 cs h q), (xc39 cs h q), (xc40 cs h q), (xc41 cs h q), (xc42 cs h q), (q 43, .inr (8, [.ref (q 44), .ref (q 52), .int 0, .int 1]))] H := hP
    have hD : va_D A [(xc0 cs h q), (xc22 cs h q), (xc23 cs h q), (xc24 cs h q), (xc25 cs h q), (xc26 cs h q), (xc27 cs h q), (xc28 cs h q), (xc29 cs h q), (xc30 cs h q), (xc31 cs h q), (xc32 cs h q), (xc33 cs h q), (xc34 cs h q), (xc35 cs h q), (xc36 cs h q), (xc37 cs h q), (xc38 cs h q), (xc39 cs h q), (xc40 cs h q), (xc41 cs h q), (xc42 cs h q), (q 43, .inr (8, [.ref (q 44), .ref (q 52), .int 0, .int 1]))] := hD
    refine lv_iconst (v := 0) hx hb dX10_image_35 (by decide) ?_
    exact retDi () hx hb hr hlk (hP.sub [] rfl) (hD.sub [] (by decide) rfl) hS dX10_image_36 (by decide) (Nat.le_of_ble_eq_true rfl) (Nat.le_of_ble_eq_true rfl)
