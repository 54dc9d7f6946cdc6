set_option maxRecDepth 100000 in
set_option maxHeartbeats 8000000 in
theorem dX5_begin (l : Launch) (G : va_G) (cs : Nat → ClassId) (h : Nat) (q : Nat → Nat) : ImpV l yX5_begin cX5_begin 5 1 0 0 G (TY cs) [.ref (q 62), .ref (q 13)] [(xc13 cs h q), (xc62 cs h q), (xc63 cs h q)] (fun _ : Unit => [(xc13 cs h q)]) := by
  refine mkD (Qc := (QDv G (fun _ : Unit => [(xc13 cs h q)]))) (by decide) (by simp [lg_sl, Value.category]) ?_
  intro p e s m args below meth c ls A hx hb hml hr hlk hown hmn ht hK hP hD hS hA hl
  have hl : lv_has ls 5 [(0, .ref (q 62)), (1, .ref (q 13))] := hl
  refine lv_aload_n hx hb dX5_begin_0 rfl (lv_at hl 1 rfl) ?_
  refine behI (runVP (As := []) (rest := []) ⟨hx, hb, hml, hown, ht⟩ (pX3_allSits l G cs h q ) okV_RX5_18 ⟨by decide, by decide⟩ hK hP [0] rfl 0 rfl rfl hl.1 rfl (Nat.le_of_ble_eq_true rfl) dX5_begin_1 ⟨by decide, by decide⟩) hP hS hA (fun H locs hP hS => ?_)
  refine lv_istore_n (lv' := [(2, .int 0), (0, .ref (q 62)), (1, .ref (q 13))]) hx hb dX5_begin_4 rfl hl (by decide) rfl (fun ls hl => ?_)
  refine lv_ldc hx hb hown (ht _ ki_RX5_24) dX5_begin_5 ?_
  refine lv_istore_n (lv' := [(3, .int 1000000), (2, .int 0), (0, .ref (q 62)), (1, .ref (q 13))]) hx hb dX5_begin_7 rfl hl (by decide) rfl (fun ls hl => ?_)
  refine lv_aload_n hx hb dX5_begin_8 rfl (lv_at hl 2 rfl) ?_
  refine getF hx hb ht hown hK hP iTX5 1 0 rfl rfl (by decide) fl_RX5_9 rfl dX5_begin_9 ?_
  refine lv_iconst (v := 0) hx hb dX5_begin_12 (by decide) ?_
  refine behDv (wr := [(xc13 cs h q), (xc62 cs h q)]) (runTD (As := [.ref (q 63), .int 0]) (rest := []) ⟨hx, hb, hml, hown, ht⟩ (dJ7_fill_53178 l G cs (q 63) 7 (by decide) 0 (fun _ => 0)) okT_RX5_25 ⟨by decide, by decide⟩ hK hP hD [2] rfl (by decide) rfl hl.1 rfl (Nat.le_of_ble_eq_true rfl) dX5_begin_13 ⟨Nat.le_of_ble_eq_true rfl, Nat.le_of_ble_eq_true rfl⟩) hP hD hS hA [2] [0, 1] rfl rfl (by decide) (by decide) (fun u H locs hP hD hS => ?_)
  obtain ⟨f1, rfl⟩ : ∃ z, z = u := ⟨_, rfl⟩
  have hP : va_P G vwCl [(xc13 cs h q), (xc62 cs h q), (q 63, .inl (cs 0, 7, .inl f1))] H := hP
  have hD : va_D A [(xc13 cs h q), (xc62 cs h q), (q 63, .inl (cs 0, 7, .inl f1))] := hD
  refine lv_iconst (v := 0) hx hb dX5_begin_16 (by decide) ?_
  refine lv_istore (lv' := [(4, .int 0), (3, .int 1000000), (2, .int 0), (0, .ref (q 62)), (1, .ref (q 13))]) hx hb dX5_begin_17 hl (by decide) rfl (fun ls hl => ?_)
  refine lv_iload hx hb dX5_begin_19 (lv_at hl 0 rfl) ?_
  refine lv_aload_n hx hb dX5_begin_21 rfl (lv_at hl 4 rfl) ?_
  refine getF hx hb ht hown hK hP iTX3 0 5 rfl rfl (by decide) fl_RX5_31 rfl dX5_begin_22 ?_
  refine lv_icmp_ge (tgt := 77) hx hb dX5_begin_25 (by decide) (fun c3 => ?_) (fun c2 => False.elim (by revert c2; decide))
  refine lv_aload_n hx hb dX5_begin_77 rfl (lv_at hl 3 rfl) ?_
  refine lv_iload_n hx hb dX5_begin_78 rfl (lv_at hl 1 rfl) ?_
  refine putD hx hb ht hown hK hP hD hS iTX5 tyX5 tyX5_ok nmX5 1 2 rfl rfl (by decide) fl_RX5_41 rfl rfl rfl (Nat.le_of_ble_eq_true rfl) dX5_begin_79 (fun H locs hP hD hS => ?_)
  have hP : va_P G vwCl [(xc13 cs h q), (q 62, .inr (5, [.ref (q 63), .ref (q 69), .int 1000000, .int 0])), (q 63, .inl (cs 0, 7, .inl f1))] H := hP
  have hD : va_D A [(xc13 cs h q), (q 62, .inr (5, [.ref (q 63), .ref (q 69), .int 1000000, .int 0])), (q 63, .inl (cs 0, 7, .inl f1))] := hD
  refine lv_aload_n hx hb dX5_begin_82 rfl (lv_at hl 3 rfl) ?_
  refine lv_iconst (v := 0) hx hb dX5_begin_83 (by decide) ?_
  refine putD hx hb ht hown hK hP hD hS iTX5 tyX5 tyX5_ok nmX5 1 3 rfl rfl (by decide) fl_RX5_44 rfl rfl rfl (Nat.le_of_ble_eq_true rfl) dX5_begin_84 (fun H locs hP hD hS => ?_)
  have hP : va_P G vwCl [(xc13 cs h q), (q 62, .inr (5, [.ref (q 63), .ref (q 69), .int 1000000, .int 0])), (q 63, .inl (cs 0, 7, .inl f1))] H := hP
  have hD : va_D A [(xc13 cs h q), (q 62, .inr (5, [.ref (q 63), .ref (q 69), .int 1000000, .int 0])), (q 63, .inl (cs 0, 7, .inl f1))] := hD
  exact retDv () hx hb hr hlk (hP.sub [0] rfl) (hD.sub [0] (by decide) rfl) hS dX5_begin_87 (Nat.le_of_ble_eq_true rfl) (Nat.le_of_ble_eq_true rfl)
