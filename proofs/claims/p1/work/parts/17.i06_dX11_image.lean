set_option maxRecDepth 100000 in
set_option maxHeartbeats 8000000 in
theorem dX11_image (l : Launch) (G : va_G) (cs : Nat → ClassId) (h : Nat) (q : Nat → Nat) (a1 : Int32) : ImpI l yX11_image cX11_image 3 (some .int) 1 0 0 G (TY cs) [.ref h, .int a1] [(mc0 cs h q), (mc1 cs h q), (mc2 cs h q), (mc3 cs h q)] (fun (r : Int32) (_ : Unit) => r = (spk 3 a1 0 (-2))) (fun _ : Unit => []) := by
  rcases cs3 a1 with hn0 | hb0 | rfl | rfl | rfl
  · refine mkD (Qc := (QDi G (fun (r : Int32) (_ : Unit) => r = (spk 3 a1 0 (-2))) (fun _ : Unit => []))) (by decide) (by simp [lg_sl, Value.category]) ?_
    intro p e s m args below meth c ls A hx hb hml hr hlk hown hmn ht hK hP hD hS hA hl
    have hl : lv_has ls 3 [(0, .ref h), (1, .int a1)] := hl
    refine lv_iload_n hx hb dX11_image_0 rfl (lv_at hl 1 rfl) ?_
    refine lv_i2l hx hb dX11_image_1 rfl ?_
    refine lv_lconst (v := 0) hx hb dX11_image_2 (by decide) ?_
    refine lv_ldc2 hx hb hown (ht _ kl_RX11_77) dX11_image_3 ?_
    refine behI (runSP (As := [.long a1.toInt64, .long 0, .long 2]) (rest := []) ⟨hx, hb, hml, hown, ht⟩ (pX11_in l G cs h q a1.toInt64 0 2) okS_RX11_79 ⟨by decide, by decide⟩ hK hP [] rfl hl.1 rfl (Nat.le_of_ble_eq_true rfl) dX11_image_6 ⟨by decide, by decide⟩) hP hS hA (fun H locs hP hS => ?_)
    refine lv_topi (fun v1 ev1 => ?_)
    obtain rfl : v1 = 0 := ev1.trans (inF_n (by have z0 := ltT hn0; have k0 : (0 : Int32).toInt = 0 := (by decide); have K0 : (0 : Int64).toInt = 0 := (by decide); have K1 : (2 : Int64).toInt = 2 := (by decide); omega))
    refine lv_if_ne (tgt := 15) hx hb dX11_image_9 (by decide) (fun c2 => False.elim (by revert c2; decide)) (fun c3 => ?_)
    refine lv_bipush (v := (-2)) hx hb dX11_image_12 (by decide) ?_
    exact retDi () hx hb hr hlk (hP.sub [] rfl) (hD.sub [] (by decide) rfl) hS dX11_image_14 ((spk_lo hn0).symm) (Nat.le_of_ble_eq_true rfl) (Nat.le_of_ble_eq_true rfl)
  · refine mkD (Qc := (QDi G (fun (r : Int32) (_ : Unit) => r = (spk 3 a1 0 (-2))) (fun _ : Unit => []))) (by decide) (by simp [lg_sl, Value.category]) ?_
    intro p e s m args below meth c ls A hx hb hml hr hlk hown hmn ht hK hP hD hS hA hl
    have hl : lv_has ls 3 [(0, .ref h), (1, .int a1)] := hl
    refine lv_iload_n hx hb dX11_image_0 rfl (lv_at hl 1 rfl) ?_
    refine lv_i2l hx hb dX11_image_1 rfl ?_
    refine lv_lconst (v := 0) hx hb dX11_image_2 (by decide) ?_
    refine lv_ldc2 hx hb hown (ht _ kl_RX11_77) dX11_image_3 ?_
    refine behI (runSP (As := [.long a1.toInt64, .long 0, .long 2]) (rest := []) ⟨hx, hb, hml, hown, ht⟩ (pX11_in l G cs h q a1.toInt64 0 2) okS_RX11_79 ⟨by decide, by decide⟩ hK hP [] rfl hl.1 rfl (Nat.le_of_ble_eq_true rfl) dX11_image_6 ⟨by decide, by decide⟩) hP hS hA (fun H locs hP hS => ?_)
    refine lv_topi (fun v1 ev1 => ?_)
    obtain rfl : v1 = 0 := ev1.trans (inF_n (by have z0 := leT hb0; have k0 : (3 : Int32).toInt = 3 := (by decide); have K0 : (0 : Int64).toInt = 0 := (by decide); have K1 : (2 : Int64).toInt = 2 := (by decide); omega))
    refine lv_if_ne (tgt := 15) hx hb dX11_image_9 (by decide) (fun c2 => False.elim (by revert c2; decide)) (fun c3 => ?_)
    refine lv_bipush (v := (-2)) hx hb dX11_image_12 (by decide) ?_
    exact retDi () hx hb hr hlk (hP.sub [] rfl) (hD.sub [] (by decide) rfl) hS dX11_image_14 ((spk_hi (by decide) hb0).symm) (Nat.le_of_ble_eq_true rfl) (Nat.le_of_ble_eq_true rfl)
  · refine mkD (Qc := (QDi G (fun (r : Int32) (_ : Unit) => r = (spk 3 0 0 (-2))) (fun _ : Unit => []))) (by decide) (by simp [lg_sl, Value.category]) ?_
    intro p e s m args below meth c ls A hx hb hml hr hlk hown hmn ht hK hP hD hS hA hl
    have hl : lv_has ls 3 [(0, .ref h), (1, .int 0)] := hl
    refine lv_iload_n hx hb dX11_image_0 rfl (lv_at hl 1 rfl) ?_
    refine lv_i2l (v := 0) hx hb dX11_image_1 (by decide) ?_
    refine lv_lconst (v := 0) hx hb dX11_image_2 (by decide) ?_
    refine lv_ldc2 hx hb hown (ht _ kl_RX11_77) dX11_image_3 ?_
    refine behI (runSP (As := [.long 0, .long 0, .long 2]) (rest := []) ⟨hx, hb, hml, hown, ht⟩ (pX11_in l G cs h q 0 0 2) okS_RX11_79 ⟨by decide, by decide⟩ hK hP [] rfl hl.1 rfl (Nat.le_of_ble_eq_true rfl) dX11_image_6 ⟨by decide, by decide⟩) hP hS hA (fun H locs hP hS => ?_)
    refine lv_topi (fun v1 ev1 => ?_)
    obtain rfl : v1 = 1 := ev1.trans (by decide)
    refine lv_if_ne (tgt := 15) hx hb dX11_image_9 (by decide) (fun c3 => ?_) (fun c2 => False.elim (by revert c2; decide))
    refine lv_iconst (v := 0) hx hb dX11_image_15 (by decide) ?_
    refine lv_istore_n (lv' := [(2, .int 0), (0, .ref h), (1, .int 0)]) hx hb dX11_image_16 rfl hl (by decide) rfl (fun ls hl => ?_)
    have loop4 : ∀ (k i : Nat) (g1 : Nat → Int32) (H : Heap) (locs : List Loc) (ls : Array Slot), i + k = 144 → va_P G vwCl [(mc0 cs h q), (mc1 cs h q), (q 2, .inl (cs 0, 432, .inl g1)), (mc3 cs h q)] H → va_D A [(mc0 cs h q), (mc1 cs h q), (q 2, .inl (cs 0, 432, .inl g1)), (mc3 cs h q)] → va_S A s.heap H locs → lv_has ls 3 [(2, .int (nI i)), (0, .ref h), (1, .int 0)] → W p l e (rmk 1 0 0) s m args below meth c H locs 0 0 (MQ below ((QDi G (fun (r : Int32) (_ : Unit) => r = (spk 3 0 0 (-2))) (fun _ : Unit => [])) A) args s 0 0 A) (F0 m 17 ls []) := by
      intro k
      induction k with
      | zero =>
        intro i g1 H locs ls hi hP hD hS hl
        refine lv_iload_n hx hb dX11_image_17 rfl (lv_at hl 0 rfl) ?_
        refine lv_sipush (v := 144) hx hb dX11_image_18 (by decide) ?_
        refine lv_icmp_ge (tgt := 48) hx hb dX11_image_21 (by decide) (fun _ => ?_) (fun c9 => False.elim (c9 (by obtain rfl : i = 144 := (by omega); decide)))
        refine lv_aload_n hx hb dX11_image_48 rfl (lv_at hl 1 rfl) ?_
        refine getF hx hb ht hown hK hP iTX11 0 3 rfl rfl (by decide) fl_RX11_16 rfl dX11_image_49 ?_
        refine lv_iload_n hx hb dX11_image_52 rfl (lv_at hl 2 rfl) ?_
        refine lv_iconst (v := 1) hx hb dX11_image_53 (by decide) ?_
        refine va_zast hx hb hK.1 hP hD hS 3 3 rfl rfl (show ¬ (_ ∨ _) by decide) dX11_image_54 (fun H locs hP hD hS => ?_)
        obtain ⟨f5, hP, hD⟩ : ∃ f5 : Nat → Int32, va_P G vwCl [(mc0 cs h q), (mc1 cs h q), (q 2, .inl (cs 0, 432, .inl g1)), (q 3, .inl (cs 3, 3, .inl f5))] H ∧ va_D A [(mc0 cs h q), (mc1 cs h q), (q 2, .inl (cs 0, 432, .inl g1)), (q 3, .inl (cs 3, 3, .inl f5))] := ⟨_, hP, hD⟩
        refine lv_iconst (v := 0) hx hb dX11_image_55 (by decide) ?_
        exact retDi () hx hb hr hlk (hP.sub [] rfl) (hD.sub [] (by decide) rfl) hS dX11_image_56 (by decide) (Nat.le_of_ble_eq_true rfl) (Nat.le_of_ble_eq_true rfl)
      | succ k ih =>
        intro i g1 H locs ls hi hP hD hS hl
        refine lv_iload_n hx hb dX11_image_17 rfl (lv_at hl 0 rfl) ?_
        refine lv_sipush (v := 144) hx hb dX11_image_18 (by decide) ?_
        refine lv_icmp_ge (tgt := 48) hx hb dX11_image_21 (by decide) (fun c9 => absurd c9 (nI_ge (b := 144) (by omega) (by decide))) (fun _ => ?_)
        refine lv_aload_n hx hb dX11_image_24 rfl (lv_at hl 1 rfl) ?_
        refine getF hx hb ht hown hK hP iTX11 0 2 rfl rfl (by decide) fl_RX11_13 rfl dX11_image_25 ?_
        refine lv_sipush (v := 144) hx hb dX11_image_28 (by decide) ?_
        refine lv_iload_n hx hb dX11_image_31 rfl (lv_at hl 2 rfl) ?_
        refine lv_imul hx hb dX11_image_32 ?_
        refine lv_topi (fun v6 ev6 => ?_)
        obtain rfl : v6 = 0 := ev6.trans (by decide)
        refine lv_iload_n hx hb dX11_image_33 rfl (lv_at hl 0 rfl) ?_
        refine lv_iadd hx hb dX11_image_34 ?_
        refine lv_topi (fun v7 ev7 => ?_)
        obtain rfl : v7 = (nI i) := ev7.trans ((nI_add 0 i).trans (congrArg nI (Nat.zero_add i)))
        refine lv_aload_n hx hb dX11_image_35 rfl (lv_at hl 1 rfl) ?_
        refine getF hx hb ht hown hK hP iTX11 0 1 rfl rfl (by decide) fl_RX11_9 rfl dX11_image_36 ?_
        refine lv_iload_n hx hb dX11_image_39 rfl (lv_at hl 0 rfl) ?_
        refine va_iald hx hb hK.1 hP 1 0 rfl rfl (vp_in_nI (by omega) (by decide)) dX11_image_40 ?_
        refine lv_topi (fun v8 ev8 => ?_)
        obtain rfl : v8 = 0 := ev8.trans rfl
        refine va_iast hx hb hK.1 hP hD hS 2 0 rfl rfl (vp_in_nI (by omega) (by decide)) dX11_image_41 (fun H locs hP hD hS => ?_)
        obtain ⟨f9, hP, hD⟩ : ∃ f9 : Nat → Int32, va_P G vwCl [(mc0 cs h q), (mc1 cs h q), (q 2, .inl (cs 0, 432, .inl f9)), (mc3 cs h q)] H ∧ va_D A [(mc0 cs h q), (mc1 cs h q), (q 2, .inl (cs 0, 432, .inl f9)), (mc3 cs h q)] := ⟨_, hP, hD⟩
        refine lv_iinc (v := (nI (i + 1))) (lv' := [(2, .int (nI (i + 1))), (0, .ref h), (1, .int 0)]) hx hb dX11_image_42 hl (k := 0) rfl (nI_1 _) (by decide) rfl (fun ls hl => ?_)
        refine lv_goto (tgt := 17) hx hb dX11_image_45 (by decide) ?_
        exact ih (i + 1) f9 H locs ls (by omega) hP hD hS (lv_sub hl [0, 1, 2] rfl)
    exact loop4 144 0 (fun _ => 0) H locs ls (by omega) hP hD hS (lv_sub hl [0, 1, 2] rfl)
  · refine mkD (Qc := (QDi G (fun (r : Int32) (_ : Unit) => r = (spk 3 1 0 (-2))) (fun _ : Unit => []))) (by decide) (by simp [lg_sl, Value.category]) ?_
    intro p e s m args below meth c ls A hx hb hml hr hlk hown hmn ht hK hP hD hS hA hl
    have hl : lv_has ls 3 [(0, .ref h), (1, .int 1)] := hl
    refine lv_iload_n hx hb dX11_image_0 rfl (lv_at hl 1 rfl) ?_
    refine lv_i2l (v := 1) hx hb dX11_image_1 (by decide) ?_
    refine lv_lconst (v := 0) hx hb dX11_image_2 (by decide) ?_
    refine lv_ldc2 hx hb hown (ht _ kl_RX11_77) dX11_image_3 ?_
    refine behI (runSP (As := [.long 1, .long 0, .long 2]) (rest := []) ⟨hx, hb, hml, hown, ht⟩ (pX11_in l G cs h q 1 0 2) okS_RX11_79 ⟨by decide, by decide⟩ hK hP [] rfl hl.1 rfl (Nat.le_of_ble_eq_true rfl) dX11_image_6 ⟨by decide, by decide⟩) hP hS hA (fun H locs hP hS => ?_)
    refine lv_topi (fun v1 ev1 => ?_)
    obtain rfl : v1 = 1 := ev1.trans (by decide)
    refine lv_if_ne (tgt := 15) hx hb dX11_image_9 (by decide) (fun c3 => ?_) (fun c2 => False.elim (by revert c2; decide))
    refine lv_iconst (v := 0) hx hb dX11_image_15 (by decide) ?_
    refine lv_istore_n (lv' := [(2, .int 0), (0, .ref h), (1, .int 1)]) hx hb dX11_image_16 rfl hl (by decide) rfl (fun ls hl => ?_)
    have loop4 : ∀ (k i : Nat) (g1 : Nat → Int32) (H : Heap) (locs : List Loc) (ls : Array Slot), i + k = 144 → va_P G vwCl [(mc0 cs h q), (mc1 cs h q), (q 2, .inl (cs 0, 432, .inl g1)), (mc3 cs h q)] H → va_D A [(mc0 cs h q), (mc1 cs h q), (q 2, .inl (cs 0, 432, .inl g1)), (mc3 cs h q)] → va_S A s.heap H locs → lv_has ls 3 [(2, .int (nI i)), (0, .ref h), (1, .int 1)] → W p l e (rmk 1 0 0) s m args below meth c H locs 0 0 (MQ below ((QDi G (fun (r : Int32) (_ : Unit) => r = (spk 3 1 0 (-2))) (fun _ : Unit => [])) A) args s 0 0 A) (F0 m 17 ls []) := by
      intro k
      induction k with
      | zero =>
        intro i g1 H locs ls hi hP hD hS hl
        refine lv_iload_n hx hb dX11_image_17 rfl (lv_at hl 0 rfl) ?_
        refine lv_sipush (v := 144) hx hb dX11_image_18 (by decide) ?_
        refine lv_icmp_ge (tgt := 48) hx hb dX11_image_21 (by decide) (fun _ => ?_) (fun c9 => False.elim (c9 (by obtain rfl : i = 144 := (by omega); decide)))
        refine lv_aload_n hx hb dX11_image_48 rfl (lv_at hl 1 rfl) ?_
        refine getF hx hb ht hown hK hP iTX11 0 3 rfl rfl (by decide) fl_RX11_16 rfl dX11_image_49 ?_
        refine lv_iload_n hx hb dX11_image_52 rfl (lv_at hl 2 rfl) ?_
        refine lv_iconst (v := 1) hx hb dX11_image_53 (by decide) ?_
        refine va_zast hx hb hK.1 hP hD hS 3 3 rfl rfl (show ¬ (_ ∨ _) by decide) dX11_image_54 (fun H locs hP hD hS => ?_)
        obtain ⟨f5, hP, hD⟩ : ∃ f5 : Nat → Int32, va_P G vwCl [(mc0 cs h q), (mc1 cs h q), (q 2, .inl (cs 0, 432, .inl g1)), (q 3, .inl (cs 3, 3, .inl f5))] H ∧ va_D A [(mc0 cs h q), (mc1 cs h q), (q 2, .inl (cs 0, 432, .inl g1)), (q 3, .inl (cs 3, 3, .inl f5))] := ⟨_, hP, hD⟩
        refine lv_iconst (v := 0) hx hb dX11_image_55 (by decide) ?_
        exact retDi () hx hb hr hlk (hP.sub [] rfl) (hD.sub [] (by decide) rfl) hS dX11_image_56 (by decide) (Nat.le_of_ble_eq_true rfl) (Nat.le_of_ble_eq_true rfl)
      | succ k ih =>
        intro i g1 H locs ls hi hP hD hS hl
        refine lv_iload_n hx hb dX11_image_17 rfl (lv_at hl 0 rfl) ?_
        refine lv_sipush (v := 144) hx hb dX11_image_18 (by decide) ?_
        refine lv_icmp_ge (tgt := 48) hx hb dX11_image_21 (by decide) (fun c9 => absurd c9 (nI_ge (b := 144) (by omega) (by decide))) (fun _ => ?_)
        refine lv_aload_n hx hb dX11_image_24 rfl (lv_at hl 1 rfl) ?_
        refine getF hx hb ht hown hK hP iTX11 0 2 rfl rfl (by decide) fl_RX11_13 rfl dX11_image_25 ?_
        refine lv_sipush (v := 144) hx hb dX11_image_28 (by decide) ?_
        refine lv_iload_n hx hb dX11_image_31 rfl (lv_at hl 2 rfl) ?_
        refine lv_imul hx hb dX11_image_32 ?_
        refine lv_topi (fun v6 ev6 => ?_)
        obtain rfl : v6 = 144 := ev6.trans (by decide)
        refine lv_iload_n hx hb dX11_image_33 rfl (lv_at hl 0 rfl) ?_
        refine lv_iadd hx hb dX11_image_34 ?_
        refine lv_topi (fun v7 ev7 => ?_)
        obtain rfl : v7 = (nI (144 + i)) := ev7.trans (nI_add 144 i)
        refine lv_aload_n hx hb dX11_image_35 rfl (lv_at hl 1 rfl) ?_
        refine getF hx hb ht hown hK hP iTX11 0 1 rfl rfl (by decide) fl_RX11_9 rfl dX11_image_36 ?_
        refine lv_iload_n hx hb dX11_image_39 rfl (lv_at hl 0 rfl) ?_
        refine va_iald hx hb hK.1 hP 1 0 rfl rfl (vp_in_nI (by omega) (by decide)) dX11_image_40 ?_
        refine lv_topi (fun v8 ev8 => ?_)
        obtain rfl : v8 = 0 := ev8.trans rfl
        refine va_iast hx hb hK.1 hP hD hS 2 0 rfl rfl (vp_in_nI (by omega) (by decide)) dX11_image_41 (fun H locs hP hD hS => ?_)
        obtain ⟨f9, hP, hD⟩ : ∃ f9 : Nat → Int32, va_P G vwCl [(mc0 cs h q), (mc1 cs h q), (q 2, .inl (cs 0, 432, .inl f9)), (mc3 cs h q)] H ∧ va_D A [(mc0 cs h q), (mc1 cs h q), (q 2, .inl (cs 0, 432, .inl f9)), (mc3 cs h q)] := ⟨_, hP, hD⟩
        refine lv_iinc (v := (nI (i + 1))) (lv' := [(2, .int (nI (i + 1))), (0, .ref h), (1, .int 1)]) hx hb dX11_image_42 hl (k := 0) rfl (nI_1 _) (by decide) rfl (fun ls hl => ?_)
        refine lv_goto (tgt := 17) hx hb dX11_image_45 (by decide) ?_
        exact ih (i + 1) f9 H locs ls (by omega) hP hD hS (lv_sub hl [0, 1, 2] rfl)
    exact loop4 144 0 (fun _ => 0) H locs ls (by omega) hP hD hS (lv_sub hl [0, 1, 2] rfl)
  · refine mkD (Qc := (QDi G (fun (r : Int32) (_ : Unit) => r = (spk 3 2 0 (-2))) (fun _ : Unit => []))) (by decide) (by simp [lg_sl, Value.category]) ?_
    intro p e s m args below meth c ls A hx hb hml hr hlk hown hmn ht hK hP hD hS hA hl
    have hl : lv_has ls 3 [(0, .ref h), (1, .int 2)] := hl
    refine lv_iload_n hx hb dX11_image_0 rfl (lv_at hl 1 rfl) ?_
    refine lv_i2l (v := 2) hx hb dX11_image_1 (by decide) ?_
    refine lv_lconst (v := 0) hx hb dX11_image_2 (by decide) ?_
    refine lv_ldc2 hx hb hown (ht _ kl_RX11_77) dX11_image_3 ?_
    refine behI (runSP (As := [.long 2, .long 0, .long 2]) (rest := []) ⟨hx, hb, hml, hown, ht⟩ (pX11_in l G cs h q 2 0 2) okS_RX11_79 ⟨by decide, by decide⟩ hK hP [] rfl hl.1 rfl (Nat.le_of_ble_eq_true rfl) dX11_image_6 ⟨by decide, by decide⟩) hP hS hA (fun H locs hP hS => ?_)
    refine lv_topi (fun v1 ev1 => ?_)
    obtain rfl : v1 = 1 := ev1.trans (by decide)
    refine lv_if_ne (tgt := 15) hx hb dX11_image_9 (by decide) (fun c3 => ?_) (fun c2 => False.elim (by revert c2; decide))
    refine lv_iconst (v := 0) hx hb dX11_image_15 (by decide) ?_
    refine lv_istore_n (lv' := [(2, .int 0), (0, .ref h), (1, .int 2)]) hx hb dX11_image_16 rfl hl (by decide) rfl (fun ls hl => ?_)
    have loop4 : ∀ (k i : Nat) (g1 : Nat → Int32) (H : Heap) (locs : List Loc) (ls : Array Slot), i + k = 144 → va_P G vwCl [(mc0 cs h q), (mc1 cs h q), (q 2, .inl (cs 0, 432, .inl g1)), (mc3 cs h q)] H → va_D A [(mc0 cs h q), (mc1 cs h q), (q 2, .inl (cs 0, 432, .inl g1)), (mc3 cs h q)] → va_S A s.heap H locs → lv_has ls 3 [(2, .int (nI i)), (0, .ref h), (1, .int 2)] → W p l e (rmk 1 0 0) s m args below meth c H locs 0 0 (MQ below ((QDi G (fun (r : Int32) (_ : Unit) => r = (spk 3 2 0 (-2))) (fun _ : Unit => [])) A) args s 0 0 A) (F0 m 17 ls []) := by
      intro k
      induction k with
      | zero =>
        intro i g1 H locs ls hi hP hD hS hl
        refine lv_iload_n hx hb dX11_image_17 rfl (lv_at hl 0 rfl) ?_
        refine lv_sipush (v := 144) hx hb dX11_image_18 (by decide) ?_
        refine lv_icmp_ge (tgt := 48) hx hb dX11_image_21 (by decide) (fun _ => ?_) (fun c9 => False.elim (c9 (by obtain rfl : i = 144 := (by omega); decide)))
        refine lv_aload_n hx hb dX11_image_48 rfl (lv_at hl 1 rfl) ?_
        refine getF hx hb ht hown hK hP iTX11 0 3 rfl rfl (by decide) fl_RX11_16 rfl dX11_image_49 ?_
        refine lv_iload_n hx hb dX11_image_52 rfl (lv_at hl 2 rfl) ?_
        refine lv_iconst (v := 1) hx hb dX11_image_53 (by decide) ?_
        refine va_zast hx hb hK.1 hP hD hS 3 3 rfl rfl (show ¬ (_ ∨ _) by decide) dX11_image_54 (fun H locs hP hD hS => ?_)
        obtain ⟨f5, hP, hD⟩ : ∃ f5 : Nat → Int32, va_P G vwCl [(mc0 cs h q), (mc1 cs h q), (q 2, .inl (cs 0, 432, .inl g1)), (q 3, .inl (cs 3, 3, .inl f5))] H ∧ va_D A [(mc0 cs h q), (mc1 cs h q), (q 2, .inl (cs 0, 432, .inl g1)), (q 3, .inl (cs 3, 3, .inl f5))] := ⟨_, hP, hD⟩
        refine lv_iconst (v := 0) hx hb dX11_image_55 (by decide) ?_
        exact retDi () hx hb hr hlk (hP.sub [] rfl) (hD.sub [] (by decide) rfl) hS dX11_image_56 (by decide) (Nat.le_of_ble_eq_true rfl) (Nat.le_of_ble_eq_true rfl)
      | succ k ih =>
        intro i g1 H locs ls hi hP hD hS hl
        refine lv_iload_n hx hb dX11_image_17 rfl (lv_at hl 0 rfl) ?_
        refine lv_sipush (v := 144) hx hb dX11_image_18 (by decide) ?_
        refine lv_icmp_ge (tgt := 48) hx hb dX11_image_21 (by decide) (fun c9 => absurd c9 (nI_ge (b := 144) (by omega) (by decide))) (fun _ => ?_)
        refine lv_aload_n hx hb dX11_image_24 rfl (lv_at hl 1 rfl) ?_
        refine getF hx hb ht hown hK hP iTX11 0 2 rfl rfl (by decide) fl_RX11_13 rfl dX11_image_25 ?_
        refine lv_sipush (v := 144) hx hb dX11_image_28 (by decide) ?_
        refine lv_iload_n hx hb dX11_image_31 rfl (lv_at hl 2 rfl) ?_
        refine lv_imul hx hb dX11_image_32 ?_
        refine lv_topi (fun v6 ev6 => ?_)
        obtain rfl : v6 = 288 := ev6.trans (by decide)
        refine lv_iload_n hx hb dX11_image_33 rfl (lv_at hl 0 rfl) ?_
        refine lv_iadd hx hb dX11_image_34 ?_
        refine lv_topi (fun v7 ev7 => ?_)
        obtain rfl : v7 = (nI (288 + i)) := ev7.trans (nI_add 288 i)
        refine lv_aload_n hx hb dX11_image_35 rfl (lv_at hl 1 rfl) ?_
        refine getF hx hb ht hown hK hP iTX11 0 1 rfl rfl (by decide) fl_RX11_9 rfl dX11_image_36 ?_
        refine lv_iload_n hx hb dX11_image_39 rfl (lv_at hl 0 rfl) ?_
        refine va_iald hx hb hK.1 hP 1 0 rfl rfl (vp_in_nI (by omega) (by decide)) dX11_image_40 ?_
        refine lv_topi (fun v8 ev8 => ?_)
        obtain rfl : v8 = 0 := ev8.trans rfl
        refine va_iast hx hb hK.1 hP hD hS 2 0 rfl rfl (vp_in_nI (by omega) (by decide)) dX11_image_41 (fun H locs hP hD hS => ?_)
        obtain ⟨f9, hP, hD⟩ : ∃ f9 : Nat → Int32, va_P G vwCl [(mc0 cs h q), (mc1 cs h q), (q 2, .inl (cs 0, 432, .inl f9)), (mc3 cs h q)] H ∧ va_D A [(mc0 cs h q), (mc1 cs h q), (q 2, .inl (cs 0, 432, .inl f9)), (mc3 cs h q)] := ⟨_, hP, hD⟩
        refine lv_iinc (v := (nI (i + 1))) (lv' := [(2, .int (nI (i + 1))), (0, .ref h), (1, .int 2)]) hx hb dX11_image_42 hl (k := 0) rfl (nI_1 _) (by decide) rfl (fun ls hl => ?_)
        refine lv_goto (tgt := 17) hx hb dX11_image_45 (by decide) ?_
        exact ih (i + 1) f9 H locs ls (by omega) hP hD hS (lv_sub hl [0, 1, 2] rfl)
    exact loop4 144 0 (fun _ => 0) H locs ls (by omega) hP hD hS (lv_sub hl [0, 1, 2] rfl)
