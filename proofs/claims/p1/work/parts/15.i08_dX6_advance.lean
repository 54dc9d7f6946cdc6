set_option maxRecDepth 100000 in
set_option maxHeartbeats 8000000 in
theorem dX6_advance (l : Launch) (G : va_G) (cs : Nat → ClassId) (h : Nat) (q : Nat → Nat) : ImpV l yX6_advance cX6_advance 1 0 0 0 G (TY cs) [.ref (q 1)] [(xc1 cs h q), (xc2 cs h q)] (fun _ : Unit => [(xc1 cs h q), (xc2 cs h q)]) := by
  refine mkD (Qc := (QDv G (fun _ : Unit => [(xc1 cs h q), (xc2 cs h q)]))) (by decide) (by simp [lg_sl, Value.category]) ?_
  intro p e s m args below meth c ls A hx hb hml hr hlk hown hmn ht hK hP hD hS hA hl
  have hl : lv_has ls 1 [(0, .ref (q 1))] := hl
  refine lv_aload_n hx hb dX6_advance_0 rfl (lv_at hl 0 rfl) ?_
  refine getF hx hb ht hown hK hP iTX6 0 1 rfl rfl (by decide) fl_RX6_30 rfl dX6_advance_1 ?_
  refine lv_aload_n hx hb dX6_advance_4 rfl (lv_at hl 0 rfl) ?_
  refine getF hx hb ht hown hK hP iTX6 0 0 rfl rfl (by decide) fl_RX6_12 rfl dX6_advance_5 ?_
  refine getF hx hb ht hown hK hP iTX9 1 1 rfl rfl (by decide) fl_RX6_165 rfl dX6_advance_8 ?_
  refine lv_icmp_ge (tgt := 45) hx hb dX6_advance_11 (by decide) (fun c2 => ?_) (fun c1 => False.elim (by revert c1; decide))
  refine lv_aload_n hx hb dX6_advance_45 rfl (lv_at hl 0 rfl) ?_
  refine lv_aload_n hx hb dX6_advance_46 rfl (lv_at hl 0 rfl) ?_
  refine getF hx hb ht hown hK hP iTX6 0 1 rfl rfl (by decide) fl_RX6_30 rfl dX6_advance_47 ?_
  refine putD hx hb ht hown hK hP hD hS iTX6 tyX6 tyX6_ok nmX6 0 3 rfl rfl (by decide) fl_RX6_150 rfl rfl rfl (Nat.le_of_ble_eq_true rfl) dX6_advance_50 (fun H locs hP hD hS => ?_)
  have hP : va_P G vwCl [(xc1 cs h q), (xc2 cs h q)] H := hP
  have hD : va_D A [(xc1 cs h q), (xc2 cs h q)] := hD
  refine lv_aload_n hx hb dX6_advance_53 rfl (lv_at hl 0 rfl) ?_
  refine lv_iconst (v := 0) hx hb dX6_advance_54 (by decide) ?_
  refine putD hx hb ht hown hK hP hD hS iTX6 tyX6 tyX6_ok nmX6 0 4 rfl rfl (by decide) fl_RX6_147 rfl rfl rfl (Nat.le_of_ble_eq_true rfl) dX6_advance_55 (fun H locs hP hD hS => ?_)
  have hP : va_P G vwCl [(xc1 cs h q), (xc2 cs h q)] H := hP
  have hD : va_D A [(xc1 cs h q), (xc2 cs h q)] := hD
  refine lv_aload_n hx hb dX6_advance_58 rfl (lv_at hl 0 rfl) ?_
  refine lv_aload_n hx hb dX6_advance_59 rfl (lv_at hl 0 rfl) ?_
  refine getF hx hb ht hown hK hP iTX6 0 1 rfl rfl (by decide) fl_RX6_30 rfl dX6_advance_60 ?_
  refine lv_aload_n hx hb dX6_advance_63 rfl (lv_at hl 0 rfl) ?_
  refine getF hx hb ht hown hK hP iTX6 0 0 rfl rfl (by decide) fl_RX6_12 rfl dX6_advance_64 ?_
  refine getF hx hb ht hown hK hP iTX9 1 1 rfl rfl (by decide) fl_RX6_165 rfl dX6_advance_67 ?_
  refine lv_icmp_ge (tgt := 91) hx hb dX6_advance_70 (by decide) (fun c4 => ?_) (fun c3 => False.elim (by revert c3; decide))
  refine lv_iconst (v := 0) hx hb dX6_advance_91 (by decide) ?_
  refine putD hx hb ht hown hK hP hD hS iTX6 tyX6 tyX6_ok nmX6 0 2 rfl rfl (by decide) fl_RX6_36 rfl rfl rfl (Nat.le_of_ble_eq_true rfl) dX6_advance_92 (fun H locs hP hD hS => ?_)
  have hP : va_P G vwCl [(xc1 cs h q), (xc2 cs h q)] H := hP
  have hD : va_D A [(xc1 cs h q), (xc2 cs h q)] := hD
  refine lv_aload_n hx hb dX6_advance_95 rfl (lv_at hl 0 rfl) ?_
  refine getF hx hb ht hown hK hP iTX6 0 2 rfl rfl (by decide) fl_RX6_36 rfl dX6_advance_96 ?_
  refine lv_iconst (v := 3) hx hb dX6_advance_99 (by decide) ?_
  refine lv_icmp_eq (tgt := 111) hx hb dX6_advance_100 (by decide) (fun c5 => False.elim (by revert c5; decide)) (fun c6 => ?_)
  refine lv_aload_n hx hb dX6_advance_103 rfl (lv_at hl 0 rfl) ?_
  refine getF hx hb ht hown hK hP iTX6 0 2 rfl rfl (by decide) fl_RX6_36 rfl dX6_advance_104 ?_
  refine lv_iconst (v := 4) hx hb dX6_advance_107 (by decide) ?_
  refine lv_icmp_ne (tgt := 122) hx hb dX6_advance_108 (by decide) (fun c8 => ?_) (fun c7 => False.elim (by revert c7; decide))
  refine lv_aload_n hx hb dX6_advance_122 rfl (lv_at hl 0 rfl) ?_
  refine getF hx hb ht hown hK hP iTX6 0 1 rfl rfl (by decide) fl_RX6_30 rfl dX6_advance_123 ?_
  refine lv_aload_n hx hb dX6_advance_126 rfl (lv_at hl 0 rfl) ?_
  refine getF hx hb ht hown hK hP iTX6 0 0 rfl rfl (by decide) fl_RX6_12 rfl dX6_advance_127 ?_
  refine getF hx hb ht hown hK hP iTX9 1 1 rfl rfl (by decide) fl_RX6_165 rfl dX6_advance_130 ?_
  refine lv_icmp_ge (tgt := 214) hx hb dX6_advance_133 (by decide) (fun c10 => ?_) (fun c9 => False.elim (by revert c9; decide))
  exact retDv () hx hb hr hlk (hP.sub [0, 1] rfl) (hD.sub [0, 1] (by decide) rfl) hS dX6_advance_214 (Nat.le_of_ble_eq_true rfl) (Nat.le_of_ble_eq_true rfl)
