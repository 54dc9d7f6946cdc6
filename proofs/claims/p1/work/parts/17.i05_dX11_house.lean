set_option maxRecDepth 100000 in
set_option maxHeartbeats 8000000 in
theorem dX11_house (l : Launch) (G : va_G) (cs : Nat → ClassId) (h : Nat) (q : Nat → Nat) : ImpI l yX11_house cX11_house 2 (some .int) 2 0 0 G (TY cs) [.ref h] [(mc0 cs h q), (mc1 cs h q), (mc14 cs h q)] (fun (r : Int32) (_ : Unit) => r = 0) (fun _ : Unit => []) := by
  refine mkD (Qc := (QDi G (fun (r : Int32) (_ : Unit) => r = 0) (fun _ : Unit => []))) (by decide) (by simp [lg_sl, Value.category]) ?_
  intro p e s m args below meth c ls A hx hb hml hr hlk hown hmn ht hK hP hD hS hA hl
  have hl : lv_has ls 2 [(0, .ref h)] := hl
  refine lv_aload_n hx hb dX11_house_0 rfl (lv_at hl 0 rfl) ?_
  refine lv_aload_n hx hb dX11_house_1 rfl (lv_at hl 0 rfl) ?_
  refine getF hx hb ht hown hK hP iTX11 0 5 rfl rfl (by decide) fl_RX11_93 rfl dX11_house_2 ?_
  refine putD hx hb ht hown hK hP hD hS iTX11 tyX11 tyX11_ok nmX11 0 7 rfl rfl (by decide) fl_RX11_96 rfl rfl rfl (Nat.le_of_ble_eq_true rfl) dX11_house_5 (fun H locs hP hD hS => ?_)
  have hP : va_P G vwCl [(mc0 cs h q), (mc1 cs h q), (mc14 cs h q)] H := hP
  have hD : va_D A [(mc0 cs h q), (mc1 cs h q), (mc14 cs h q)] := hD
  refine lv_aload_n hx hb dX11_house_8 rfl (lv_at hl 0 rfl) ?_
  refine lv_iconst (v := 0) hx hb dX11_house_9 (by decide) ?_
  refine putD hx hb ht hown hK hP hD hS iTX11 tyX11 tyX11_ok nmX11 0 5 rfl rfl (by decide) fl_RX11_93 rfl rfl rfl (Nat.le_of_ble_eq_true rfl) dX11_house_10 (fun H locs hP hD hS => ?_)
  have hP : va_P G vwCl [(mc0 cs h q), (mc1 cs h q), (mc14 cs h q)] H := hP
  have hD : va_D A [(mc0 cs h q), (mc1 cs h q), (mc14 cs h q)] := hD
  refine lv_aload_n hx hb dX11_house_13 rfl (lv_at hl 0 rfl) ?_
  refine lv_iconst (v := 0) hx hb dX11_house_14 (by decide) ?_
  refine putD hx hb ht hown hK hP hD hS iTX11 tyX11 tyX11_ok nmX11 0 8 rfl rfl (by decide) fl_RX11_99 rfl rfl rfl (Nat.le_of_ble_eq_true rfl) dX11_house_15 (fun H locs hP hD hS => ?_)
  have hP : va_P G vwCl [(mc0 cs h q), (mc1 cs h q), (mc14 cs h q)] H := hP
  have hD : va_D A [(mc0 cs h q), (mc1 cs h q), (mc14 cs h q)] := hD
  refine lv_aload_n hx hb dX11_house_18 rfl (lv_at hl 0 rfl) ?_
  refine lv_iconst (v := 0) hx hb dX11_house_19 (by decide) ?_
  refine putD hx hb ht hown hK hP hD hS iTX11 tyX11 tyX11_ok nmX11 0 12 rfl rfl (by decide) fl_RX11_130 rfl rfl rfl (Nat.le_of_ble_eq_true rfl) dX11_house_20 (fun H locs hP hD hS => ?_)
  have hP : va_P G vwCl [(mc0 cs h q), (mc1 cs h q), (mc14 cs h q)] H := hP
  have hD : va_D A [(mc0 cs h q), (mc1 cs h q), (mc14 cs h q)] := hD
  refine lv_aload_n hx hb dX11_house_23 rfl (lv_at hl 0 rfl) ?_
  refine lv_iconst (v := (-1)) hx hb dX11_house_24 (by decide) ?_
  refine putD hx hb ht hown hK hP hD hS iTX11 tyX11 tyX11_ok nmX11 0 13 rfl rfl (by decide) fl_RX11_27 rfl rfl rfl (Nat.le_of_ble_eq_true rfl) dX11_house_25 (fun H locs hP hD hS => ?_)
  have hP : va_P G vwCl [(mc0 cs h q), (mc1 cs h q), (mc14 cs h q)] H := hP
  have hD : va_D A [(mc0 cs h q), (mc1 cs h q), (mc14 cs h q)] := hD
  refine lv_iconst (v := 0) hx hb dX11_house_28 (by decide) ?_
  refine lv_istore_n (lv' := [(1, .int 0), (0, .ref h)]) hx hb dX11_house_29 rfl hl (by decide) rfl (fun ls hl => ?_)
  have loop1 : ∀ (k i : Nat) (H : Heap) (locs : List Loc) (ls : Array Slot), i + k = 144 → va_P G vwCl [(mc0 cs h q), (mc1 cs h q), (mc14 cs h q)] H → va_D A [(mc0 cs h q), (mc1 cs h q), (mc14 cs h q)] → va_S A s.heap H locs → lv_has ls 2 [(1, .int (nI i)), (0, .ref h)] → W p l e (rmk 2 0 0) s m args below meth c H locs 0 0 (MQ below ((QDi G (fun (r : Int32) (_ : Unit) => r = 0) (fun _ : Unit => [])) A) args s 0 0 A) (F0 m 30 ls []) := by
    intro k
    induction k with
    | zero =>
      intro i H locs ls hi hP hD hS hl
      refine lv_iload_n hx hb dX11_house_30 rfl (lv_at hl 0 rfl) ?_
      refine lv_sipush (v := 144) hx hb dX11_house_31 (by decide) ?_
      refine lv_icmp_ge (tgt := 50) hx hb dX11_house_34 (by decide) (fun _ => ?_) (fun c9 => False.elim (c9 (by obtain rfl : i = 144 := (by omega); decide)))
      refine lv_aload_n hx hb dX11_house_50 rfl (lv_at hl 1 rfl) ?_
      refine behDv (wr := [(mc1 cs h q), (mc14 cs h q)]) (runVD (As := []) (rest := []) ⟨hx, hb, hml, hown, ht⟩ (dX11_advance l G cs h q) okV_RX11_150 ⟨by decide, by decide⟩ hK hP hD [0] rfl (by decide) rfl 0 rfl rfl hl.1 rfl (Nat.le_of_ble_eq_true rfl) dX11_house_51 ⟨Nat.le_of_ble_eq_true rfl, Nat.le_of_ble_eq_true rfl⟩) hP hD hS hA [0] [1, 2] rfl rfl (by decide) (by decide) (fun u H locs hP hD hS => ?_)
      have hP : va_P G vwCl [(mc1 cs h q), (mc14 cs h q), (mc0 cs h q)] H := hP
      have hD : va_D A [(mc1 cs h q), (mc14 cs h q), (mc0 cs h q)] := hD
      refine lv_aload_n hx hb dX11_house_54 rfl (lv_at hl 1 rfl) ?_
      refine behI (runVP (As := []) (rest := []) ⟨hx, hb, hml, hown, ht⟩ (pX11_good l G cs h q ) okV_RX11_133 ⟨by decide, by decide⟩ hK hP [2] rfl 2 rfl rfl hl.1 rfl (Nat.le_of_ble_eq_true rfl) dX11_house_55 ⟨by decide, by decide⟩) hP hS hA (fun H locs hP hS => ?_)
      refine lv_if_eq (tgt := 75) hx hb dX11_house_58 (by decide) (fun c2 => False.elim (by revert c2; decide)) (fun c3 => ?_)
      refine lv_aload_n hx hb dX11_house_61 rfl (lv_at hl 1 rfl) ?_
      refine getF hx hb ht hown hK hP iTX11 2 10 rfl rfl (by decide) fl_RX11_109 rfl dX11_house_62 ?_
      refine lv_if_eq (tgt := 75) hx hb dX11_house_65 (by decide) (fun c5 => ?_) (fun c4 => False.elim (by revert c4; decide))
      refine lv_aload_n hx hb dX11_house_75 rfl (lv_at hl 1 rfl) ?_
      refine behI (runVP (As := []) (rest := []) ⟨hx, hb, hml, hown, ht⟩ (pX11_good l G cs h q ) okV_RX11_133 ⟨by decide, by decide⟩ hK hP [2] rfl 2 rfl rfl hl.1 rfl (Nat.le_of_ble_eq_true rfl) dX11_house_76 ⟨by decide, by decide⟩) hP hS hA (fun H locs hP hS => ?_)
      refine lv_if_ne (tgt := 85) hx hb dX11_house_79 (by decide) (fun c7 => ?_) (fun c6 => False.elim (by revert c6; decide))
      refine lv_iconst (v := 0) hx hb dX11_house_85 (by decide) ?_
      refine lv_istore_n (lv' := [(1, .int 0), (0, .ref h)]) hx hb dX11_house_86 rfl hl (by decide) rfl (fun ls hl => ?_)
      have loop8 : ∀ (k i : Nat) (H : Heap) (locs : List Loc) (ls : Array Slot), i + k = 144 → va_P G vwCl [(mc1 cs h q), (mc14 cs h q), (mc0 cs h q)] H → va_D A [(mc1 cs h q), (mc14 cs h q), (mc0 cs h q)] → va_S A s.heap H locs → lv_has ls 2 [(1, .int (nI i)), (0, .ref h)] → W p l e (rmk 2 0 0) s m args below meth c H locs 0 0 (MQ below ((QDi G (fun (r : Int32) (_ : Unit) => r = 0) (fun _ : Unit => [])) A) args s 0 0 A) (F0 m 87 ls []) := by
        intro k
        induction k with
        | zero =>
          intro i H locs ls hi hP hD hS hl
          refine lv_iload_n hx hb dX11_house_87 rfl (lv_at hl 0 rfl) ?_
          refine lv_sipush (v := 144) hx hb dX11_house_88 (by decide) ?_
          refine lv_icmp_ge (tgt := 112) hx hb dX11_house_91 (by decide) (fun _ => ?_) (fun c9 => False.elim (c9 (by obtain rfl : i = 144 := (by omega); decide)))
          refine lv_aload_n hx hb dX11_house_112 rfl (lv_at hl 1 rfl) ?_
          refine getF hx hb ht hown hK hP iTX11 2 1 rfl rfl (by decide) fl_RX11_9 rfl dX11_house_113 ?_
          refine lv_bipush (v := 6) hx hb dX11_house_116 (by decide) ?_
          refine va_iald hx hb hK.1 hP 0 0 rfl rfl (show ¬ (_ ∨ _) by decide) dX11_house_118 ?_
          refine lv_topi (fun v9 ev9 => ?_)
          obtain rfl : v9 = 0 := ev9.trans rfl
          exact retDi () hx hb hr hlk (hP.sub [] rfl) (hD.sub [] (by decide) rfl) hS dX11_house_119 (rfl) (Nat.le_of_ble_eq_true rfl) (Nat.le_of_ble_eq_true rfl)
        | succ k ih =>
          intro i H locs ls hi hP hD hS hl
          refine lv_iload_n hx hb dX11_house_87 rfl (lv_at hl 0 rfl) ?_
          refine lv_sipush (v := 144) hx hb dX11_house_88 (by decide) ?_
          refine lv_icmp_ge (tgt := 112) hx hb dX11_house_91 (by decide) (fun c9 => absurd c9 (nI_ge (b := 144) (by omega) (by decide))) (fun _ => ?_)
          refine lv_aload_n hx hb dX11_house_94 rfl (lv_at hl 1 rfl) ?_
          refine getF hx hb ht hown hK hP iTX11 2 1 rfl rfl (by decide) fl_RX11_9 rfl dX11_house_95 ?_
          refine lv_iload_n hx hb dX11_house_98 rfl (lv_at hl 0 rfl) ?_
          refine lv_aload_n hx hb dX11_house_99 rfl (lv_at hl 1 rfl) ?_
          refine getF hx hb ht hown hK hP iTX11 2 14 rfl rfl (by decide) fl_RX11_31 rfl dX11_house_100 ?_
          refine lv_iload_n hx hb dX11_house_103 rfl (lv_at hl 0 rfl) ?_
          refine va_iald hx hb hK.1 hP 1 0 rfl rfl (vp_in_nI (by omega) (by decide)) dX11_house_104 ?_
          refine lv_topi (fun v10 ev10 => ?_)
          obtain rfl : v10 = 0 := ev10.trans rfl
          refine va_iast hx hb hK.1 hP hD hS 0 0 rfl rfl (vp_in_nI (by omega) (by decide)) dX11_house_105 (fun H locs hP hD hS => ?_)
          have hP : va_P G vwCl [(q 1, .inl (cs 0, 144, .inl (upd (fun _ => 0) (nI i).toNatClampNeg 0))), (mc14 cs h q), (mc0 cs h q)] H := hP
          have hD : va_D A [(q 1, .inl (cs 0, 144, .inl (upd (fun _ => 0) (nI i).toNatClampNeg 0))), (mc14 cs h q), (mc0 cs h q)] := hD
          rw [upd_zero] at hP hD
          have hP : va_P G vwCl [(mc1 cs h q), (mc14 cs h q), (mc0 cs h q)] H := hP
          have hD : va_D A [(mc1 cs h q), (mc14 cs h q), (mc0 cs h q)] := hD
          refine lv_iinc (v := (nI (i + 1))) (lv' := [(1, .int (nI (i + 1))), (0, .ref h)]) hx hb dX11_house_106 hl (k := 0) rfl (nI_1 _) (by decide) rfl (fun ls hl => ?_)
          refine lv_goto (tgt := 87) hx hb dX11_house_109 (by decide) ?_
          exact ih (i + 1) H locs ls (by omega) hP hD hS (lv_sub hl [0, 1] rfl)
      exact loop8 144 0 H locs ls (by omega) hP hD hS (lv_sub hl [0, 1] rfl)
    | succ k ih =>
      intro i H locs ls hi hP hD hS hl
      refine lv_iload_n hx hb dX11_house_30 rfl (lv_at hl 0 rfl) ?_
      refine lv_sipush (v := 144) hx hb dX11_house_31 (by decide) ?_
      refine lv_icmp_ge (tgt := 50) hx hb dX11_house_34 (by decide) (fun c9 => absurd c9 (nI_ge (b := 144) (by omega) (by decide))) (fun _ => ?_)
      refine lv_aload_n hx hb dX11_house_37 rfl (lv_at hl 1 rfl) ?_
      refine getF hx hb ht hown hK hP iTX11 0 14 rfl rfl (by decide) fl_RX11_31 rfl dX11_house_38 ?_
      refine lv_iload_n hx hb dX11_house_41 rfl (lv_at hl 0 rfl) ?_
      refine lv_iconst (v := 0) hx hb dX11_house_42 (by decide) ?_
      refine va_iast hx hb hK.1 hP hD hS 2 0 rfl rfl (vp_in_nI (by omega) (by decide)) dX11_house_43 (fun H locs hP hD hS => ?_)
      have hP : va_P G vwCl [(mc0 cs h q), (mc1 cs h q), (q 14, .inl (cs 0, 144, .inl (upd (fun _ => 0) (nI i).toNatClampNeg 0)))] H := hP
      have hD : va_D A [(mc0 cs h q), (mc1 cs h q), (q 14, .inl (cs 0, 144, .inl (upd (fun _ => 0) (nI i).toNatClampNeg 0)))] := hD
      rw [upd_zero] at hP hD
      have hP : va_P G vwCl [(mc0 cs h q), (mc1 cs h q), (mc14 cs h q)] H := hP
      have hD : va_D A [(mc0 cs h q), (mc1 cs h q), (mc14 cs h q)] := hD
      refine lv_iinc (v := (nI (i + 1))) (lv' := [(1, .int (nI (i + 1))), (0, .ref h)]) hx hb dX11_house_44 hl (k := 0) rfl (nI_1 _) (by decide) rfl (fun ls hl => ?_)
      refine lv_goto (tgt := 30) hx hb dX11_house_47 (by decide) ?_
      exact ih (i + 1) H locs ls (by omega) hP hD hS (lv_sub hl [0, 1] rfl)
  exact loop1 144 0 H locs ls (by omega) hP hD hS (lv_sub hl [0, 1] rfl)
