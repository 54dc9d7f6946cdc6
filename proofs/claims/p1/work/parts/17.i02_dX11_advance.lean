set_option maxRecDepth 100000 in
set_option maxHeartbeats 8000000 in
theorem dX11_advance (l : Launch) (G : va_G) (cs : Nat → ClassId) (h : Nat) (q : Nat → Nat) : ImpV l yX11_advance cX11_advance 2 1 0 0 G (TY cs) [.ref h] [(mc0 cs h q)] (fun _ : Unit => [(mc0 cs h q)]) := by
  refine mkD (Qc := (QDv G (fun _ : Unit => [(mc0 cs h q)]))) (by decide) (by simp [lg_sl, Value.category]) ?_
  intro p e s m args below meth c ls A hx hb hml hr hlk hown hmn ht hK hP hD hS hA hl
  have hl : lv_has ls 2 [(0, .ref h)] := hl
  refine lv_aload_n hx hb dX11_advance_0 rfl (lv_at hl 0 rfl) ?_
  refine lv_aload_n hx hb dX11_advance_1 rfl (lv_at hl 0 rfl) ?_
  refine getF hx hb ht hown hK hP iTX11 0 8 rfl rfl (by decide) fl_RX11_99 rfl dX11_advance_2 ?_
  refine behI (runVP (As := [.int 0]) (rest := []) ⟨hx, hb, hml, hown, ht⟩ (pX11_see l G cs h q) okV_RX11_102 ⟨by decide, by decide⟩ hK hP [0] rfl 0 rfl rfl hl.1 rfl (Nat.le_of_ble_eq_true rfl) dX11_advance_5 ⟨by decide, by decide⟩) hP hS hA (fun H locs hP hS => ?_)
  refine lv_bipush (v := 32) hx hb dX11_advance_8 (by decide) ?_
  refine lv_icmp_eq (tgt := 26) hx hb dX11_advance_10 (by decide) (fun c1 => False.elim (by revert c1; decide)) (fun c2 => ?_)
  refine lv_aload_n hx hb dX11_advance_13 rfl (lv_at hl 0 rfl) ?_
  refine lv_aload_n hx hb dX11_advance_14 rfl (lv_at hl 0 rfl) ?_
  refine getF hx hb ht hown hK hP iTX11 0 8 rfl rfl (by decide) fl_RX11_99 rfl dX11_advance_15 ?_
  refine behI (runVP (As := [.int 0]) (rest := []) ⟨hx, hb, hml, hown, ht⟩ (pX11_see l G cs h q) okV_RX11_102 ⟨by decide, by decide⟩ hK hP [0] rfl 0 rfl rfl hl.1 rfl (Nat.le_of_ble_eq_true rfl) dX11_advance_18 ⟨by decide, by decide⟩) hP hS hA (fun H locs hP hS => ?_)
  refine lv_bipush (v := 10) hx hb dX11_advance_21 (by decide) ?_
  refine lv_icmp_ne (tgt := 39) hx hb dX11_advance_23 (by decide) (fun c4 => ?_) (fun c3 => False.elim (by revert c3; decide))
  refine lv_aload_n hx hb dX11_advance_39 rfl (lv_at hl 0 rfl) ?_
  refine lv_aload_n hx hb dX11_advance_40 rfl (lv_at hl 0 rfl) ?_
  refine getF hx hb ht hown hK hP iTX11 0 8 rfl rfl (by decide) fl_RX11_99 rfl dX11_advance_41 ?_
  refine putD hx hb ht hown hK hP hD hS iTX11 tyX11 tyX11_ok nmX11 0 9 rfl rfl (by decide) fl_RX11_106 rfl rfl rfl (Nat.le_of_ble_eq_true rfl) dX11_advance_44 (fun H locs hP hD hS => ?_)
  have hP : va_P G vwCl [(mc0 cs h q)] H := hP
  have hD : va_D A [(mc0 cs h q)] := hD
  refine lv_aload_n hx hb dX11_advance_47 rfl (lv_at hl 0 rfl) ?_
  refine lv_aload_n hx hb dX11_advance_48 rfl (lv_at hl 0 rfl) ?_
  refine getF hx hb ht hown hK hP iTX11 0 8 rfl rfl (by decide) fl_RX11_99 rfl dX11_advance_49 ?_
  refine behI (runVP (As := [.int 0]) (rest := []) ⟨hx, hb, hml, hown, ht⟩ (pX11_see l G cs h q) okV_RX11_102 ⟨by decide, by decide⟩ hK hP [0] rfl 0 rfl rfl hl.1 rfl (Nat.le_of_ble_eq_true rfl) dX11_advance_52 ⟨by decide, by decide⟩) hP hS hA (fun H locs hP hS => ?_)
  refine lv_istore_n (lv' := [(1, .int (-1)), (0, .ref h)]) hx hb dX11_advance_55 rfl hl (by decide) rfl (fun ls hl => ?_)
  refine lv_iload_n hx hb dX11_advance_56 rfl (lv_at hl 0 rfl) ?_
  refine lv_iconst (v := (-1)) hx hb dX11_advance_57 (by decide) ?_
  refine lv_icmp_ne (tgt := 69) hx hb dX11_advance_58 (by decide) (fun c5 => False.elim (by revert c5; decide)) (fun c6 => ?_)
  refine lv_aload_n hx hb dX11_advance_61 rfl (lv_at hl 1 rfl) ?_
  refine lv_iconst (v := 0) hx hb dX11_advance_62 (by decide) ?_
  refine putD hx hb ht hown hK hP hD hS iTX11 tyX11 tyX11_ok nmX11 0 10 rfl rfl (by decide) fl_RX11_109 rfl rfl rfl (Nat.le_of_ble_eq_true rfl) dX11_advance_63 (fun H locs hP hD hS => ?_)
  have hP : va_P G vwCl [(mc0 cs h q)] H := hP
  have hD : va_D A [(mc0 cs h q)] := hD
  refine lv_goto (tgt := 239) hx hb dX11_advance_66 (by decide) ?_
  exact retDv () hx hb hr hlk (hP.sub [0] rfl) (hD.sub [0] (by decide) rfl) hS dX11_advance_239 (Nat.le_of_ble_eq_true rfl) (Nat.le_of_ble_eq_true rfl)
