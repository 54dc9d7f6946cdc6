set_option maxRecDepth 100000 in
set_option maxHeartbeats 8000000 in
theorem dX9_push16 (l : Launch) (G : va_G) (cs : Nat → ClassId) (q : Nat → Nat) (f : Nat → Int32) (a1 : Int32) : ImpV l yX9_push cX9_push 3 0 0 0 G (TY cs) [.ref (q 2), .int a1] [(q 2, .inr (9, [.ref (q 3), .int 16])), (q 3, .inl (cs 1, 900, .inl f))] (fun u : (Nat → Int32) => [(q 2, .inr (9, [.ref (q 3), .int 20])), (q 3, .inl (cs 1, 900, .inl u))]) := by
  refine mkD (Qc := (QDv G (fun u : (Nat → Int32) => [(q 2, .inr (9, [.ref (q 3), .int 20])), (q 3, .inl (cs 1, 900, .inl u))]))) (by decide) (by simp [lg_sl, Value.category]) ?_
  intro p e s m args below meth c ls A hx hb hml hr hlk hown hmn ht hK hP hD hS hA hl
  have hl : lv_has ls 3 [(0, .ref (q 2)), (1, .int a1)] := hl
  refine lv_bipush (v := 24) hx hb dX9_push_0 (by decide) ?_
  refine lv_istore_n (lv' := [(2, .int 24), (0, .ref (q 2)), (1, .int a1)]) hx hb dX9_push_2 rfl hl (by decide) rfl (fun ls hl => ?_)
  refine lv_iload_n hx hb dX9_push_3 rfl (lv_at hl 0 rfl) ?_
  refine lv_if_lt (tgt := 46) hx hb dX9_push_4 (by decide) (fun c1 => False.elim (by revert c1; decide)) (fun c2 => ?_)
  refine lv_aload_n hx hb dX9_push_7 rfl (lv_at hl 1 rfl) ?_
  refine getF hx hb ht hown hK hP iTX9 0 1 rfl rfl (by decide) fl_RX9_15 rfl dX9_push_8 ?_
  refine lv_sipush (v := 900) hx hb dX9_push_11 (by decide) ?_
  refine lv_icmp_ge (tgt := 46) hx hb dX9_push_14 (by decide) (fun c3 => False.elim (by revert c3; decide)) (fun c4 => ?_)
  refine lv_aload_n hx hb dX9_push_17 rfl (lv_at hl 1 rfl) ?_
  refine getF hx hb ht hown hK hP iTX9 0 0 rfl rfl (by decide) fl_RX9_9 rfl dX9_push_18 ?_
  refine lv_aload_n hx hb dX9_push_21 rfl (lv_at hl 1 rfl) ?_
  refine getF hx hb ht hown hK hP iTX9 0 1 rfl rfl (by decide) fl_RX9_15 rfl dX9_push_22 ?_
  refine lv_iload_n hx hb dX9_push_25 rfl (lv_at hl 2 rfl) ?_
  refine lv_iload_n hx hb dX9_push_26 rfl (lv_at hl 0 rfl) ?_
  refine lv_ishr hx hb dX9_push_27 ?_
  refine lv_i2b hx hb dX9_push_28 rfl ?_
  refine lv_topi (fun v5 ev5 => ?_)
  refine va_bast hx hb hK.1 hP hD hS 1 1 rfl rfl (show ¬ (_ ∨ _) by decide) dX9_push_29 (fun H locs hP hD hS => ?_)
  obtain ⟨f6, hP, hD⟩ : ∃ f6 : Nat → Int32, va_P G vwCl [(q 2, .inr (9, [.ref (q 3), .int 16])), (q 3, .inl (cs 1, 900, .inl f6))] H ∧ va_D A [(q 2, .inr (9, [.ref (q 3), .int 16])), (q 3, .inl (cs 1, 900, .inl f6))] := ⟨_, hP, hD⟩
  refine lv_aload_n hx hb dX9_push_30 rfl (lv_at hl 1 rfl) ?_
  refine lv_dup hx hb dX9_push_31 rfl ?_
  refine getF hx hb ht hown hK hP iTX9 0 1 rfl rfl (by decide) fl_RX9_15 rfl dX9_push_32 ?_
  refine lv_iconst (v := 1) hx hb dX9_push_35 (by decide) ?_
  refine lv_iadd hx hb dX9_push_36 ?_
  refine lv_topi (fun v7 ev7 => ?_)
  obtain rfl : v7 = 17 := ev7.trans (by decide)
  refine putD hx hb ht hown hK hP hD hS iTX9 tyX9 tyX9_ok nmX9 0 1 rfl rfl (by decide) fl_RX9_15 rfl rfl rfl (Nat.le_of_ble_eq_true rfl) dX9_push_37 (fun H locs hP hD hS => ?_)
  have hP : va_P G vwCl [(q 2, .inr (9, [.ref (q 3), .int 17])), (q 3, .inl (cs 1, 900, .inl f6))] H := hP
  have hD : va_D A [(q 2, .inr (9, [.ref (q 3), .int 17])), (q 3, .inl (cs 1, 900, .inl f6))] := hD
  refine lv_iinc (v := 16) (lv' := [(2, .int 16), (0, .ref (q 2)), (1, .int a1)]) hx hb dX9_push_40 hl (k := 0) rfl (by decide) (by decide) rfl (fun ls hl => ?_)
  refine lv_goto (tgt := 3) hx hb dX9_push_43 (by decide) ?_
  refine lv_iload_n hx hb dX9_push_3 rfl (lv_at hl 0 rfl) ?_
  refine lv_if_lt (tgt := 46) hx hb dX9_push_4 (by decide) (fun c8 => False.elim (by revert c8; decide)) (fun c9 => ?_)
  refine lv_aload_n hx hb dX9_push_7 rfl (lv_at hl 1 rfl) ?_
  refine getF hx hb ht hown hK hP iTX9 0 1 rfl rfl (by decide) fl_RX9_15 rfl dX9_push_8 ?_
  refine lv_sipush (v := 900) hx hb dX9_push_11 (by decide) ?_
  refine lv_icmp_ge (tgt := 46) hx hb dX9_push_14 (by decide) (fun c10 => False.elim (by revert c10; decide)) (fun c11 => ?_)
  refine lv_aload_n hx hb dX9_push_17 rfl (lv_at hl 1 rfl) ?_
  refine getF hx hb ht hown hK hP iTX9 0 0 rfl rfl (by decide) fl_RX9_9 rfl dX9_push_18 ?_
  refine lv_aload_n hx hb dX9_push_21 rfl (lv_at hl 1 rfl) ?_
  refine getF hx hb ht hown hK hP iTX9 0 1 rfl rfl (by decide) fl_RX9_15 rfl dX9_push_22 ?_
  refine lv_iload_n hx hb dX9_push_25 rfl (lv_at hl 2 rfl) ?_
  refine lv_iload_n hx hb dX9_push_26 rfl (lv_at hl 0 rfl) ?_
  refine lv_ishr hx hb dX9_push_27 ?_
  refine lv_i2b hx hb dX9_push_28 rfl ?_
  refine lv_topi (fun v12 ev12 => ?_)
  refine va_bast hx hb hK.1 hP hD hS 1 1 rfl rfl (show ¬ (_ ∨ _) by decide) dX9_push_29 (fun H locs hP hD hS => ?_)
  obtain ⟨f13, hP, hD⟩ : ∃ f13 : Nat → Int32, va_P G vwCl [(q 2, .inr (9, [.ref (q 3), .int 17])), (q 3, .inl (cs 1, 900, .inl f13))] H ∧ va_D A [(q 2, .inr (9, [.ref (q 3), .int 17])), (q 3, .inl (cs 1, 900, .inl f13))] := ⟨_, hP, hD⟩
  refine lv_aload_n hx hb dX9_push_30 rfl (lv_at hl 1 rfl) ?_
  refine lv_dup hx hb dX9_push_31 rfl ?_
  refine getF hx hb ht hown hK hP iTX9 0 1 rfl rfl (by decide) fl_RX9_15 rfl dX9_push_32 ?_
  refine lv_iconst (v := 1) hx hb dX9_push_35 (by decide) ?_
  refine lv_iadd hx hb dX9_push_36 ?_
  refine lv_topi (fun v14 ev14 => ?_)
  obtain rfl : v14 = 18 := ev14.trans (by decide)
  refine putD hx hb ht hown hK hP hD hS iTX9 tyX9 tyX9_ok nmX9 0 1 rfl rfl (by decide) fl_RX9_15 rfl rfl rfl (Nat.le_of_ble_eq_true rfl) dX9_push_37 (fun H locs hP hD hS => ?_)
  have hP : va_P G vwCl [(q 2, .inr (9, [.ref (q 3), .int 18])), (q 3, .inl (cs 1, 900, .inl f13))] H := hP
  have hD : va_D A [(q 2, .inr (9, [.ref (q 3), .int 18])), (q 3, .inl (cs 1, 900, .inl f13))] := hD
  refine lv_iinc (v := 8) (lv' := [(2, .int 8), (0, .ref (q 2)), (1, .int a1)]) hx hb dX9_push_40 hl (k := 0) rfl (by decide) (by decide) rfl (fun ls hl => ?_)
  refine lv_goto (tgt := 3) hx hb dX9_push_43 (by decide) ?_
  refine lv_iload_n hx hb dX9_push_3 rfl (lv_at hl 0 rfl) ?_
  refine lv_if_lt (tgt := 46) hx hb dX9_push_4 (by decide) (fun c15 => False.elim (by revert c15; decide)) (fun c16 => ?_)
  refine lv_aload_n hx hb dX9_push_7 rfl (lv_at hl 1 rfl) ?_
  refine getF hx hb ht hown hK hP iTX9 0 1 rfl rfl (by decide) fl_RX9_15 rfl dX9_push_8 ?_
  refine lv_sipush (v := 900) hx hb dX9_push_11 (by decide) ?_
  refine lv_icmp_ge (tgt := 46) hx hb dX9_push_14 (by decide) (fun c17 => False.elim (by revert c17; decide)) (fun c18 => ?_)
  refine lv_aload_n hx hb dX9_push_17 rfl (lv_at hl 1 rfl) ?_
  refine getF hx hb ht hown hK hP iTX9 0 0 rfl rfl (by decide) fl_RX9_9 rfl dX9_push_18 ?_
  refine lv_aload_n hx hb dX9_push_21 rfl (lv_at hl 1 rfl) ?_
  refine getF hx hb ht hown hK hP iTX9 0 1 rfl rfl (by decide) fl_RX9_15 rfl dX9_push_22 ?_
  refine lv_iload_n hx hb dX9_push_25 rfl (lv_at hl 2 rfl) ?_
  refine lv_iload_n hx hb dX9_push_26 rfl (lv_at hl 0 rfl) ?_
  refine lv_ishr hx hb dX9_push_27 ?_
  refine lv_i2b hx hb dX9_push_28 rfl ?_
  refine lv_topi (fun v19 ev19 => ?_)
  refine va_bast hx hb hK.1 hP hD hS 1 1 rfl rfl (show ¬ (_ ∨ _) by decide) dX9_push_29 (fun H locs hP hD hS => ?_)
  obtain ⟨f20, hP, hD⟩ : ∃ f20 : Nat → Int32, va_P G vwCl [(q 2, .inr (9, [.ref (q 3), .int 18])), (q 3, .inl (cs 1, 900, .inl f20))] H ∧ va_D A [(q 2, .inr (9, [.ref (q 3), .int 18])), (q 3, .inl (cs 1, 900, .inl f20))] := ⟨_, hP, hD⟩
  refine lv_aload_n hx hb dX9_push_30 rfl (lv_at hl 1 rfl) ?_
  refine lv_dup hx hb dX9_push_31 rfl ?_
  refine getF hx hb ht hown hK hP iTX9 0 1 rfl rfl (by decide) fl_RX9_15 rfl dX9_push_32 ?_
  refine lv_iconst (v := 1) hx hb dX9_push_35 (by decide) ?_
  refine lv_iadd hx hb dX9_push_36 ?_
  refine lv_topi (fun v21 ev21 => ?_)
  obtain rfl : v21 = 19 := ev21.trans (by decide)
  refine putD hx hb ht hown hK hP hD hS iTX9 tyX9 tyX9_ok nmX9 0 1 rfl rfl (by decide) fl_RX9_15 rfl rfl rfl (Nat.le_of_ble_eq_true rfl) dX9_push_37 (fun H locs hP hD hS => ?_)
  have hP : va_P G vwCl [(q 2, .inr (9, [.ref (q 3), .int 19])), (q 3, .inl (cs 1, 900, .inl f20))] H := hP
  have hD : va_D A [(q 2, .inr (9, [.ref (q 3), .int 19])), (q 3, .inl (cs 1, 900, .inl f20))] := hD
  refine lv_iinc (v := 0) (lv' := [(2, .int 0), (0, .ref (q 2)), (1, .int a1)]) hx hb dX9_push_40 hl (k := 0) rfl (by decide) (by decide) rfl (fun ls hl => ?_)
  refine lv_goto (tgt := 3) hx hb dX9_push_43 (by decide) ?_
  refine lv_iload_n hx hb dX9_push_3 rfl (lv_at hl 0 rfl) ?_
  refine lv_if_lt (tgt := 46) hx hb dX9_push_4 (by decide) (fun c22 => False.elim (by revert c22; decide)) (fun c23 => ?_)
  refine lv_aload_n hx hb dX9_push_7 rfl (lv_at hl 1 rfl) ?_
  refine getF hx hb ht hown hK hP iTX9 0 1 rfl rfl (by decide) fl_RX9_15 rfl dX9_push_8 ?_
  refine lv_sipush (v := 900) hx hb dX9_push_11 (by decide) ?_
  refine lv_icmp_ge (tgt := 46) hx hb dX9_push_14 (by decide) (fun c24 => False.elim (by revert c24; decide)) (fun c25 => ?_)
  refine lv_aload_n hx hb dX9_push_17 rfl (lv_at hl 1 rfl) ?_
  refine getF hx hb ht hown hK hP iTX9 0 0 rfl rfl (by decide) fl_RX9_9 rfl dX9_push_18 ?_
  refine lv_aload_n hx hb dX9_push_21 rfl (lv_at hl 1 rfl) ?_
  refine getF hx hb ht hown hK hP iTX9 0 1 rfl rfl (by decide) fl_RX9_15 rfl dX9_push_22 ?_
  refine lv_iload_n hx hb dX9_push_25 rfl (lv_at hl 2 rfl) ?_
  refine lv_iload_n hx hb dX9_push_26 rfl (lv_at hl 0 rfl) ?_
  refine lv_ishr hx hb dX9_push_27 ?_
  refine lv_i2b hx hb dX9_push_28 rfl ?_
  refine lv_topi (fun v26 ev26 => ?_)
  refine va_bast hx hb hK.1 hP hD hS 1 1 rfl rfl (show ¬ (_ ∨ _) by decide) dX9_push_29 (fun H locs hP hD hS => ?_)
  obtain ⟨f27, hP, hD⟩ : ∃ f27 : Nat → Int32, va_P G vwCl [(q 2, .inr (9, [.ref (q 3), .int 19])), (q 3, .inl (cs 1, 900, .inl f27))] H ∧ va_D A [(q 2, .inr (9, [.ref (q 3), .int 19])), (q 3, .inl (cs 1, 900, .inl f27))] := ⟨_, hP, hD⟩
  refine lv_aload_n hx hb dX9_push_30 rfl (lv_at hl 1 rfl) ?_
  refine lv_dup hx hb dX9_push_31 rfl ?_
  refine getF hx hb ht hown hK hP iTX9 0 1 rfl rfl (by decide) fl_RX9_15 rfl dX9_push_32 ?_
  refine lv_iconst (v := 1) hx hb dX9_push_35 (by decide) ?_
  refine lv_iadd hx hb dX9_push_36 ?_
  refine lv_topi (fun v28 ev28 => ?_)
  obtain rfl : v28 = 20 := ev28.trans (by decide)
  refine putD hx hb ht hown hK hP hD hS iTX9 tyX9 tyX9_ok nmX9 0 1 rfl rfl (by decide) fl_RX9_15 rfl rfl rfl (Nat.le_of_ble_eq_true rfl) dX9_push_37 (fun H locs hP hD hS => ?_)
  have hP : va_P G vwCl [(q 2, .inr (9, [.ref (q 3), .int 20])), (q 3, .inl (cs 1, 900, .inl f27))] H := hP
  have hD : va_D A [(q 2, .inr (9, [.ref (q 3), .int 20])), (q 3, .inl (cs 1, 900, .inl f27))] := hD
  refine lv_iinc (v := (-8)) (lv' := [(2, .int (-8)), (0, .ref (q 2)), (1, .int a1)]) hx hb dX9_push_40 hl (k := 0) rfl (by decide) (by decide) rfl (fun ls hl => ?_)
  refine lv_goto (tgt := 3) hx hb dX9_push_43 (by decide) ?_
  refine lv_iload_n hx hb dX9_push_3 rfl (lv_at hl 0 rfl) ?_
  refine lv_if_lt (tgt := 46) hx hb dX9_push_4 (by decide) (fun c30 => ?_) (fun c29 => False.elim (by revert c29; decide))
  exact retDv f27 hx hb hr hlk (hP.sub [0, 1] rfl) (hD.sub [0, 1] (by decide) rfl) hS dX9_push_46 (Nat.le_of_ble_eq_true rfl) (Nat.le_of_ble_eq_true rfl)
