set_option maxRecDepth 100000 in
set_option maxHeartbeats 8000000 in
theorem sX11_good (l : Launch) (G : va_G) (cs : Nat → ClassId) (h : Nat) (q : Nat → Nat) (F : Nat → Int32) (A : Nat → Nat → Int32) (D : Int64) (B : Nat → Nat → Int64) (hI : IM F A) : SafeR l yX11_good cX11_good 1 (some .boolean) 0 G (TY cs) [.ref h] (mS cs h q F A D B) (fun r : Int32 => (r.toInt = 1 ∧ (F 12).toInt = 0) ∨ (r.toInt = 0 ∧ ¬ (F 12).toInt = 0)) := by
  refine mkP (Qc := QRi (fun r : Int32 => (r.toInt = 1 ∧ (F 12).toInt = 0) ∨ (r.toInt = 0 ∧ ¬ (F 12).toInt = 0))) (by decide) (by simp [lg_sl, Value.category]) ?_
  intro p e s m args below meth c ls hx hb hml hr hlk hown ht hK hP hS hl
  have hl : lv_has ls 1 [(0, .ref h)] := hl
  refine lv_aload_n hx hb dX11_good_0 rfl (lv_at hl 0 rfl) ?_
  refine getF (v := .int (F 12)) hx hb ht hown hK hP iTX11 0 12 rfl rfl (by decide) fl_RX11_130 rfl dX11_good_1 ?_
  have zf1 : (0 : Int) ≤ (F 12).toInt ∧ (F 12).toInt ≤ 3 := hI.1 12
  refine lv_if_ne (tgt := 11) hx hb dX11_good_4 (by decide) (fun c2 => ?_) (fun c2 => ?_)
  · have zc2 := neK rfl (show (0 : Int32).toInt = 0 by decide) c2
    refine lv_iconst (v := 0) hx hb dX11_good_11 (by decide) ?_
    exact retRz hx hb hr hlk hS dX11_good_12 (rfl) (show ((0 : Int32).toInt = 1 ∧ (F 12).toInt = 0) ∨ ((0 : Int32).toInt = 0 ∧ ¬ (F 12).toInt = 0) by have kk : (0 : Int32).toInt = 0 := (by decide); omega)
  · have zc2 := eqK rfl (show (0 : Int32).toInt = 0 by decide) c2
    refine lv_iconst (v := 1) hx hb dX11_good_7 (by decide) ?_
    refine lv_goto (tgt := 12) hx hb dX11_good_8 (by decide) ?_
    exact retRz hx hb hr hlk hS dX11_good_12 (rfl) (show ((1 : Int32).toInt = 1 ∧ (F 12).toInt = 0) ∨ ((1 : Int32).toInt = 0 ∧ ¬ (F 12).toInt = 0) by have kk : (1 : Int32).toInt = 1 := (by decide); omega)

set_option maxRecDepth 100000 in
set_option maxHeartbeats 8000000 in
theorem sX11_errs (l : Launch) (G : va_G) (cs : Nat → ClassId) (h : Nat) (q : Nat → Nat) (F : Nat → Int32) (A : Nat → Nat → Int32) (D : Int64) (B : Nat → Nat → Int64) (hI : IM F A) (a1 : Int32) (ha1 : (1 : Int) ≤ a1.toInt ∧ a1.toInt ≤ 3) : ImpW l yX11_errs cX11_errs 2 1 0 0 G (TY cs) [.ref h, .int a1] (mS cs h q F A D B) (fun u : Int32 × Int32 => ((0 : Int) ≤ u.1.toInt ∧ u.1.toInt ≤ 3) ∧ ((-1 : Int) ≤ u.2.toInt ∧ u.2.toInt ≤ 900) ∧ (¬ u.1.toInt = 0)) (fun u : Int32 × Int32 => (mS cs h q (upd (upd F 12 u.1) 13 u.2) A D B)) := by
  refine mkD (Qc := (QDw G (fun u : Int32 × Int32 => ((0 : Int) ≤ u.1.toInt ∧ u.1.toInt ≤ 3) ∧ ((-1 : Int) ≤ u.2.toInt ∧ u.2.toInt ≤ 900) ∧ (¬ u.1.toInt = 0)) (fun u : Int32 × Int32 => (mS cs h q (upd (upd F 12 u.1) 13 u.2) A D B)))) (by decide) (by simp [lg_sl, Value.category]) ?_
  intro p e s m args below meth c ls A0 hx hb hml hr hlk hown hmn ht hK hP hD hS hA hl
  have hl : lv_has ls 2 [(0, .ref h), (1, .int a1)] := hl
  refine lv_aload_n hx hb dX11_errs_0 rfl (lv_at hl 0 rfl) ?_
  refine behR (runVP (As := []) (rest := []) ⟨hx, hb, hml, hown, ht⟩ (sX11_good l G cs h q F A D B hI  ) okV_RX11_133 ⟨by decide, by decide⟩ hK hP [0, 1, 2, 3, 4, 5, 6, 7, 8, 9, 10, 11, 12, 13, 14, 15, 16, 17, 18, 19] rfl 0 rfl rfl hl.1 rfl (Nat.le_of_ble_eq_true rfl) dX11_errs_1 ⟨by decide, by decide⟩) hP hS hA (fun r1 H locs hr1 hP hS => ?_)
  have hr1 : (r1.toInt = 1 ∧ (F 12).toInt = 0) ∨ (r1.toInt = 0 ∧ ¬ (F 12).toInt = 0) := hr1
  refine lv_if_ne (tgt := 8) hx hb dX11_errs_4 (by decide) (fun c2 => ?_) (fun c2 => ?_)
  · have zc2 := neK rfl (show (0 : Int32).toInt = 0 by decide) c2
    refine lv_aload_n hx hb dX11_errs_8 rfl (lv_at hl 0 rfl) ?_
    refine lv_iload_n hx hb dX11_errs_9 rfl (lv_at hl 1 rfl) ?_
    refine putD hx hb ht hown hK hP hD hS iTX11 tyX11 tyX11_ok nmX11 0 12 rfl rfl (by decide) fl_RX11_130 rfl rfl rfl (Nat.le_of_ble_eq_true rfl) dX11_errs_10 (fun H locs hP hD hS => ?_)
    have hP : va_P G vwCl (mS cs h q (upd F 12 a1) A D B) H := hP
    have hD : va_D A0 (mS cs h q (upd F 12 a1) A D B) := hD
    refine lv_aload_n hx hb dX11_errs_13 rfl (lv_at hl 0 rfl) ?_
    refine lv_aload_n hx hb dX11_errs_14 rfl (lv_at hl 0 rfl) ?_
    refine getF (v := .int (F 9)) hx hb ht hown hK hP iTX11 0 9 rfl rfl (by decide) fl_RX11_106 rfl dX11_errs_15 ?_
    have zf3 : (0 : Int) ≤ (F 9).toInt ∧ (F 9).toInt ≤ 900 := hI.1 9
    refine putD hx hb ht hown hK hP hD hS iTX11 tyX11 tyX11_ok nmX11 0 13 rfl rfl (by decide) fl_RX11_27 rfl rfl rfl (Nat.le_of_ble_eq_true rfl) dX11_errs_18 (fun H locs hP hD hS => ?_)
    have hP : va_P G vwCl (mS cs h q (upd (upd F 12 a1) 13 (F 9)) A D B) H := hP
    have hD : va_D A0 (mS cs h q (upd (upd F 12 a1) 13 (F 9)) A D B) := hD
    exact retDw (a1, (F 9)) hx hb hr hlk hP hD hS dX11_errs_21 (⟨show (0 : Int) ≤ a1.toInt ∧ a1.toInt ≤ 3 by omega, show (-1 : Int) ≤ (F 9).toInt ∧ (F 9).toInt ≤ 900 by omega, show ¬ a1.toInt = 0 by omega⟩) (Nat.le_of_ble_eq_true rfl) (Nat.le_of_ble_eq_true rfl)
  · have zc2 := eqK rfl (show (0 : Int32).toInt = 0 by decide) c2
    exact retDw ((F 12), (F 13)) hx hb hr hlk hP hD hS dX11_errs_7 (⟨hI.1 12, hI.1 13, show ¬ (F 12).toInt = 0 by omega⟩) (Nat.le_of_ble_eq_true rfl) (Nat.le_of_ble_eq_true rfl)

set_option maxRecDepth 100000 in
set_option maxHeartbeats 8000000 in
theorem sX11_fault (l : Launch) (G : va_G) (cs : Nat → ClassId) (h : Nat) (q : Nat → Nat) (F : Nat → Int32) (A : Nat → Nat → Int32) (D : Int64) (B : Nat → Nat → Int64) (hI : IM F A) (a1 : Int32) : SafeR l yX11_fault cX11_fault 2 (some .int) 0 G (TY cs) [.ref h, .int a1] (mS cs h q F A D B) (fun r : Int32 => True) := by
  refine mkP (Qc := QRi (fun r : Int32 => True)) (by decide) (by simp [lg_sl, Value.category]) ?_
  intro p e s m args below meth c ls hx hb hml hr hlk hown ht hK hP hS hl
  have hl : lv_has ls 2 [(0, .ref h), (1, .int a1)] := hl
  refine lv_iload_n hx hb dX11_fault_0 rfl (lv_at hl 1 rfl) ?_
  refine lv_if_ne (tgt := 11) hx hb dX11_fault_1 (by decide) (fun c1 => ?_) (fun c1 => ?_)
  · have zc1 := neK rfl (show (0 : Int32).toInt = 0 by decide) c1
    refine lv_iload_n hx hb dX11_fault_11 rfl (lv_at hl 1 rfl) ?_
    refine lv_iconst (v := 1) hx hb dX11_fault_12 (by decide) ?_
    refine lv_icmp_ne (tgt := 23) hx hb dX11_fault_13 (by decide) (fun c2 => ?_) (fun c2 => ?_)
    · have zc2 := neK rfl (show (1 : Int32).toInt = 1 by decide) c2
      refine lv_iconst (v := (-1)) hx hb dX11_fault_23 (by decide) ?_
      exact retRi hx hb hr hlk hS dX11_fault_24 (trivial)
    · have zc2 := eqK rfl (show (1 : Int32).toInt = 1 by decide) c2
      refine lv_aload_n hx hb dX11_fault_16 rfl (lv_at hl 0 rfl) ?_
      refine getF (v := .int (F 13)) hx hb ht hown hK hP iTX11 0 13 rfl rfl (by decide) fl_RX11_27 rfl dX11_fault_17 ?_
      have zf3 : (-1 : Int) ≤ (F 13).toInt ∧ (F 13).toInt ≤ 900 := hI.1 13
      refine lv_goto (tgt := 24) hx hb dX11_fault_20 (by decide) ?_
      exact retRi hx hb hr hlk hS dX11_fault_24 (trivial)
  · have zc1 := eqK rfl (show (0 : Int32).toInt = 0 by decide) c1
    refine lv_aload_n hx hb dX11_fault_4 rfl (lv_at hl 0 rfl) ?_
    refine getF (v := .int (F 12)) hx hb ht hown hK hP iTX11 0 12 rfl rfl (by decide) fl_RX11_130 rfl dX11_fault_5 ?_
    have zf4 : (0 : Int) ≤ (F 12).toInt ∧ (F 12).toInt ≤ 3 := hI.1 12
    refine lv_goto (tgt := 24) hx hb dX11_fault_8 (by decide) ?_
    exact retRi hx hb hr hlk hS dX11_fault_24 (trivial)

set_option maxRecDepth 100000 in
set_option maxHeartbeats 8000000 in
theorem sX11_room (l : Launch) (G : va_G) (cs : Nat → ClassId) (h : Nat) (q : Nat → Nat) (F : Nat → Int32) (A : Nat → Nat → Int32) (D : Int64) (B : Nat → Nat → Int64) (hI : IM F A) (a1 : Int32) (a2 : Int32) : SafeR l yX11_room cX11_room 3 (some .int) 2 G (TY cs) [.ref h, .int a1, .int a2] (mS cs h q F A D B) (fun r : Int32 => True) := by
  refine mkP (Qc := QRi (fun r : Int32 => True)) (by decide) (by simp [lg_sl, Value.category]) ?_
  intro p e s m args below meth c ls hx hb hml hr hlk hown ht hK hP hS hl
  have hl : lv_has ls 3 [(0, .ref h), (1, .int a1), (2, .int a2)] := hl
  refine lv_aload_n hx hb dX11_room_0 rfl (lv_at hl 0 rfl) ?_
  refine lv_iload_n hx hb dX11_room_1 rfl (lv_at hl 1 rfl) ?_
  refine lv_i2l hx hb dX11_room_2 rfl ?_
  have bb1 := i32b a1
  refine lv_topl (fun v2 ev2 => ?_)
  have tv2 : v2.toInt = a1.toInt := by rw [ev2]; exact Int32.toInt_toInt64 _
  refine behR (runVP (As := [.long v2]) (rest := []) ⟨hx, hb, hml, hown, ht⟩ (sX11_isRoom l G cs h q F A D B hI v2 ) okV_RX11_89 ⟨by decide, by decide⟩ hK hP [0, 1, 2, 3, 4, 5, 6, 7, 8, 9, 10, 11, 12, 13, 14, 15, 16, 17, 18, 19] rfl 0 rfl rfl hl.1 rfl (Nat.le_of_ble_eq_true rfl) dX11_room_3 ⟨by decide, by decide⟩) hP hS (fun _ h => h) (fun r3 H locs hr3 hP hS => ?_)
  have hr3 : (r3.toInt = 1 ∧ 0 ≤ v2.toInt ∧ v2.toInt < (A 1 4).toInt ∧ v2.toInt ≤ 6 ∧ (A 1 4).toInt ≤ 7) ∨ r3.toInt = 0 := hr3
  refine lv_if_eq (tgt := 30) hx hb dX11_room_6 (by decide) (fun c4 => ?_) (fun c4 => ?_)
  · have zc4 := eqK rfl (show (0 : Int32).toInt = 0 by decide) c4
    refine lv_bipush (v := (-2)) hx hb dX11_room_30 (by decide) ?_
    exact retRi hx hb hr hlk hS dX11_room_32 (trivial)
  · have zc4 := neK rfl (show (0 : Int32).toInt = 0 by decide) c4
    refine lv_iload_n hx hb dX11_room_9 rfl (lv_at hl 2 rfl) ?_
    refine lv_i2l hx hb dX11_room_10 rfl ?_
    have bb5 := i32b a2
    refine lv_topl (fun v6 ev6 => ?_)
    have tv6 : v6.toInt = a2.toInt := by rw [ev6]; exact Int32.toInt_toInt64 _
    refine lv_lconst (v := 0) hx hb dX11_room_11 (by decide) ?_
    refine lv_ldc2 hx hb hown (ht _ kl_RX11_225) dX11_room_12 ?_
    refine behR (runSP (As := [.long v6, .long 0, .long 3]) (rest := []) ⟨hx, hb, hml, hown, ht⟩ (sX11_in l G cs v6 0 3 ) okS_RX11_79 ⟨by decide, by decide⟩ hK hP [] rfl hl.1 rfl (Nat.le_of_ble_eq_true rfl) dX11_room_15 ⟨by decide, by decide⟩) hP hS (fun _ h => h) (fun r7 H locs hr7 hP hS => ?_)
    have kk8 : (0 : Int64).toInt = 0 := by decide
    have kk9 : (3 : Int64).toInt = 3 := by decide
    have hr7 : (r7.toInt = 1 ∧ (0 : Int64).toInt ≤ v6.toInt ∧ v6.toInt ≤ (3 : Int64).toInt) ∨ (r7.toInt = 0 ∧ (v6.toInt < (0 : Int64).toInt ∨ (3 : Int64).toInt < v6.toInt)) := hr7
    refine lv_if_eq (tgt := 30) hx hb dX11_room_18 (by decide) (fun c10 => ?_) (fun c10 => ?_)
    · have zc10 := eqK rfl (show (0 : Int32).toInt = 0 by decide) c10
      refine lv_bipush (v := (-2)) hx hb dX11_room_30 (by decide) ?_
      exact retRi hx hb hr hlk hS dX11_room_32 (trivial)
    · have zc10 := neK rfl (show (0 : Int32).toInt = 0 by decide) c10
      refine lv_aload_n hx hb dX11_room_21 rfl (lv_at hl 0 rfl) ?_
      refine lv_iload_n hx hb dX11_room_22 rfl (lv_at hl 1 rfl) ?_
      refine lv_iload_n hx hb dX11_room_23 rfl (lv_at hl 2 rfl) ?_
      refine behR (runVP (As := [.int a1, .int a2]) (rest := []) ⟨hx, hb, hml, hown, ht⟩ (sX11_of l G cs h q F A D B hI a1 a2 (by omega) (by omega)) okV_RX11_227 ⟨by decide, by decide⟩ hK hP [0, 1, 2, 3, 4, 5, 6, 7, 8, 9, 10, 11, 12, 13, 14, 15, 16, 17, 18, 19] rfl 0 rfl rfl hl.1 rfl (Nat.le_of_ble_eq_true rfl) dX11_room_24 ⟨by decide, by decide⟩) hP hS (fun _ h => h) (fun r11 H locs hr11 hP hS => ?_)
      have hr11 : r11 = (A 1) (8 + 4 * a1.toNatClampNeg + a2.toNatClampNeg) ∧ (0 : Int) ≤ r11.toInt ∧ r11.toInt ≤ 999 ∧ (a2.toInt = 3 → r11.toInt ≤ 127) ∧ (a2.toInt = 2 → r11.toInt ≤ 99) := hr11
      refine lv_goto (tgt := 32) hx hb dX11_room_27 (by decide) ?_
      exact retRi hx hb hr hlk hS dX11_room_32 (trivial)

set_option maxRecDepth 100000 in
set_option maxHeartbeats 8000000 in
theorem sX11_man (l : Launch) (G : va_G) (cs : Nat → ClassId) (h : Nat) (q : Nat → Nat) (F : Nat → Int32) (A : Nat → Nat → Int32) (D : Int64) (B : Nat → Nat → Int64) (hI : IM F A) (a1 : Int32) (a2 : Int32) : SafeR l yX11_man cX11_man 3 (some .int) 2 G (TY cs) [.ref h, .int a1, .int a2] (mS cs h q F A D B) (fun r : Int32 => True) := by
  refine mkP (Qc := QRi (fun r : Int32 => True)) (by decide) (by simp [lg_sl, Value.category]) ?_
  intro p e s m args below meth c ls hx hb hml hr hlk hown ht hK hP hS hl
  have hl : lv_has ls 3 [(0, .ref h), (1, .int a1), (2, .int a2)] := hl
  refine lv_aload_n hx hb dX11_man_0 rfl (lv_at hl 0 rfl) ?_
  refine lv_iload_n hx hb dX11_man_1 rfl (lv_at hl 1 rfl) ?_
  refine behR (runVP (As := [.int a1]) (rest := []) ⟨hx, hb, hml, hown, ht⟩ (sX11_isMan l G cs h q F A D B hI a1 ) okV_RX11_230 ⟨by decide, by decide⟩ hK hP [0, 1, 2, 3, 4, 5, 6, 7, 8, 9, 10, 11, 12, 13, 14, 15, 16, 17, 18, 19] rfl 0 rfl rfl hl.1 rfl (Nat.le_of_ble_eq_true rfl) dX11_man_2 ⟨by decide, by decide⟩) hP hS (fun _ h => h) (fun r1 H locs hr1 hP hS => ?_)
  have hr1 : (r1.toInt = 1 ∧ 0 ≤ a1.toInt ∧ a1.toInt < (A 1 5).toInt ∧ a1.toInt ≤ 5 ∧ (A 1 5).toInt ≤ 6) ∨ r1.toInt = 0 := hr1
  refine lv_if_eq (tgt := 27) hx hb dX11_man_5 (by decide) (fun c2 => ?_) (fun c2 => ?_)
  · have zc2 := eqK rfl (show (0 : Int32).toInt = 0 by decide) c2
    refine lv_bipush (v := (-2)) hx hb dX11_man_27 (by decide) ?_
    exact retRi hx hb hr hlk hS dX11_man_29 (trivial)
  · have zc2 := neK rfl (show (0 : Int32).toInt = 0 by decide) c2
    refine lv_iload_n hx hb dX11_man_8 rfl (lv_at hl 2 rfl) ?_
    refine lv_i2l hx hb dX11_man_9 rfl ?_
    have bb3 := i32b a2
    refine lv_topl (fun v4 ev4 => ?_)
    have tv4 : v4.toInt = a2.toInt := by rw [ev4]; exact Int32.toInt_toInt64 _
    refine lv_lconst (v := 0) hx hb dX11_man_10 (by decide) ?_
    refine lv_lconst (v := 1) hx hb dX11_man_11 (by decide) ?_
    refine behR (runSP (As := [.long v4, .long 0, .long 1]) (rest := []) ⟨hx, hb, hml, hown, ht⟩ (sX11_in l G cs v4 0 1 ) okS_RX11_79 ⟨by decide, by decide⟩ hK hP [] rfl hl.1 rfl (Nat.le_of_ble_eq_true rfl) dX11_man_12 ⟨by decide, by decide⟩) hP hS (fun _ h => h) (fun r5 H locs hr5 hP hS => ?_)
    have kk6 : (0 : Int64).toInt = 0 := by decide
    have kk7 : (1 : Int64).toInt = 1 := by decide
    have hr5 : (r5.toInt = 1 ∧ (0 : Int64).toInt ≤ v4.toInt ∧ v4.toInt ≤ (1 : Int64).toInt) ∨ (r5.toInt = 0 ∧ (v4.toInt < (0 : Int64).toInt ∨ (1 : Int64).toInt < v4.toInt)) := hr5
    refine lv_if_eq (tgt := 27) hx hb dX11_man_15 (by decide) (fun c8 => ?_) (fun c8 => ?_)
    · have zc8 := eqK rfl (show (0 : Int32).toInt = 0 by decide) c8
      refine lv_bipush (v := (-2)) hx hb dX11_man_27 (by decide) ?_
      exact retRi hx hb hr hlk hS dX11_man_29 (trivial)
    · have zc8 := neK rfl (show (0 : Int32).toInt = 0 by decide) c8
      refine lv_aload_n hx hb dX11_man_18 rfl (lv_at hl 0 rfl) ?_
      refine lv_iload_n hx hb dX11_man_19 rfl (lv_at hl 1 rfl) ?_
      refine lv_iload_n hx hb dX11_man_20 rfl (lv_at hl 2 rfl) ?_
      refine behR (runVP (As := [.int a1, .int a2]) (rest := []) ⟨hx, hb, hml, hown, ht⟩ (sX11_ofMan l G cs h q F A D B hI a1 a2 (by omega) (by omega)) okV_RX11_234 ⟨by decide, by decide⟩ hK hP [0, 1, 2, 3, 4, 5, 6, 7, 8, 9, 10, 11, 12, 13, 14, 15, 16, 17, 18, 19] rfl 0 rfl rfl hl.1 rfl (Nat.le_of_ble_eq_true rfl) dX11_man_21 ⟨by decide, by decide⟩) hP hS (fun _ h => h) (fun r9 H locs hr9 hP hS => ?_)
      have hr9 : r9 = (A 1) (36 + 8 * a1.toNatClampNeg + a2.toNatClampNeg) ∧ (0 : Int) ≤ r9.toInt ∧ r9.toInt ≤ 99 ∧ (a2.toInt = 1 → r9.toInt ≤ 63) ∧ (2 ≤ a2.toInt → r9.toInt ≤ 9) := hr9
      refine lv_goto (tgt := 29) hx hb dX11_man_24 (by decide) ?_
      exact retRi hx hb hr hlk hS dX11_man_29 (trivial)

set_option maxRecDepth 100000 in
set_option maxHeartbeats 8000000 in
theorem sX11_slate (l : Launch) (G : va_G) (cs : Nat → ClassId) (h : Nat) (q : Nat → Nat) (F : Nat → Int32) (A : Nat → Nat → Int32) (D : Int64) (B : Nat → Nat → Int64) (hI : IM F A) (a1 : Int32) (a2 : Int32) : SafeR l yX11_slate cX11_slate 3 (some .int) 2 G (TY cs) [.ref h, .int a1, .int a2] (mS cs h q F A D B) (fun r : Int32 => True) := by
  refine mkP (Qc := QRi (fun r : Int32 => True)) (by decide) (by simp [lg_sl, Value.category]) ?_
  intro p e s m args below meth c ls hx hb hml hr hlk hown ht hK hP hS hl
  have hl : lv_has ls 3 [(0, .ref h), (1, .int a1), (2, .int a2)] := hl
  refine lv_aload_n hx hb dX11_slate_0 rfl (lv_at hl 0 rfl) ?_
  refine lv_iload_n hx hb dX11_slate_1 rfl (lv_at hl 1 rfl) ?_
  refine behR (runVP (As := [.int a1]) (rest := []) ⟨hx, hb, hml, hown, ht⟩ (sX11_isMan l G cs h q F A D B hI a1 ) okV_RX11_230 ⟨by decide, by decide⟩ hK hP [0, 1, 2, 3, 4, 5, 6, 7, 8, 9, 10, 11, 12, 13, 14, 15, 16, 17, 18, 19] rfl 0 rfl rfl hl.1 rfl (Nat.le_of_ble_eq_true rfl) dX11_slate_2 ⟨by decide, by decide⟩) hP hS (fun _ h => h) (fun r1 H locs hr1 hP hS => ?_)
  have hr1 : (r1.toInt = 1 ∧ 0 ≤ a1.toInt ∧ a1.toInt < (A 1 5).toInt ∧ a1.toInt ≤ 5 ∧ (A 1 5).toInt ≤ 6) ∨ r1.toInt = 0 := hr1
  refine lv_if_eq (tgt := 27) hx hb dX11_slate_5 (by decide) (fun c2 => ?_) (fun c2 => ?_)
  · have zc2 := eqK rfl (show (0 : Int32).toInt = 0 by decide) c2
    refine lv_bipush (v := (-2)) hx hb dX11_slate_27 (by decide) ?_
    exact retRi hx hb hr hlk hS dX11_slate_29 (trivial)
  · have zc2 := neK rfl (show (0 : Int32).toInt = 0 by decide) c2
    refine lv_aload_n hx hb dX11_slate_8 rfl (lv_at hl 0 rfl) ?_
    refine lv_iload_n hx hb dX11_slate_9 rfl (lv_at hl 2 rfl) ?_
    refine behR (runVP (As := [.int a2]) (rest := []) ⟨hx, hb, hml, hown, ht⟩ (sX11_isMan l G cs h q F A D B hI a2 ) okV_RX11_230 ⟨by decide, by decide⟩ hK hP [0, 1, 2, 3, 4, 5, 6, 7, 8, 9, 10, 11, 12, 13, 14, 15, 16, 17, 18, 19] rfl 0 rfl rfl hl.1 rfl (Nat.le_of_ble_eq_true rfl) dX11_slate_10 ⟨by decide, by decide⟩) hP hS (fun _ h => h) (fun r3 H locs hr3 hP hS => ?_)
    have hr3 : (r3.toInt = 1 ∧ 0 ≤ a2.toInt ∧ a2.toInt < (A 1 5).toInt ∧ a2.toInt ≤ 5 ∧ (A 1 5).toInt ≤ 6) ∨ r3.toInt = 0 := hr3
    refine lv_if_eq (tgt := 27) hx hb dX11_slate_13 (by decide) (fun c4 => ?_) (fun c4 => ?_)
    · have zc4 := eqK rfl (show (0 : Int32).toInt = 0 by decide) c4
      refine lv_bipush (v := (-2)) hx hb dX11_slate_27 (by decide) ?_
      exact retRi hx hb hr hlk hS dX11_slate_29 (trivial)
    · have zc4 := neK rfl (show (0 : Int32).toInt = 0 by decide) c4
      refine lv_aload_n hx hb dX11_slate_16 rfl (lv_at hl 0 rfl) ?_
      refine lv_iload_n hx hb dX11_slate_17 rfl (lv_at hl 1 rfl) ?_
      refine lv_iconst (v := 2) hx hb dX11_slate_18 (by decide) ?_
      refine lv_iload_n hx hb dX11_slate_19 rfl (lv_at hl 2 rfl) ?_
      refine lv_iadd hx hb dX11_slate_20 ?_
      refine lv_topi (fun v5 ev5 => ?_)
      have tv5 : v5.toInt = 2 + a2.toInt := by rw [ev5]; exact addT (show (2 : Int32).toInt = 2 by decide) rfl (by omega)
      refine behR (runVP (As := [.int a1, .int v5]) (rest := []) ⟨hx, hb, hml, hown, ht⟩ (sX11_ofMan l G cs h q F A D B hI a1 v5 (by omega) (by omega)) okV_RX11_234 ⟨by decide, by decide⟩ hK hP [0, 1, 2, 3, 4, 5, 6, 7, 8, 9, 10, 11, 12, 13, 14, 15, 16, 17, 18, 19] rfl 0 rfl rfl hl.1 rfl (Nat.le_of_ble_eq_true rfl) dX11_slate_21 ⟨by decide, by decide⟩) hP hS (fun _ h => h) (fun r6 H locs hr6 hP hS => ?_)
      have hr6 : r6 = (A 1) (36 + 8 * a1.toNatClampNeg + v5.toNatClampNeg) ∧ (0 : Int) ≤ r6.toInt ∧ r6.toInt ≤ 99 ∧ (v5.toInt = 1 → r6.toInt ≤ 63) ∧ (2 ≤ v5.toInt → r6.toInt ≤ 9) := hr6
      refine lv_goto (tgt := 29) hx hb dX11_slate_24 (by decide) ?_
      exact retRi hx hb hr hlk hS dX11_slate_29 (trivial)

set_option maxRecDepth 100000 in
set_option maxHeartbeats 8000000 in
theorem sX11_hearsBy (l : Launch) (G : va_G) (cs : Nat → ClassId) (h : Nat) (q : Nat → Nat) (F : Nat → Int32) (A : Nat → Nat → Int32) (D : Int64) (B : Nat → Nat → Int64) (hI : IM F A) (a1 : Int32) (a2 : Int32) (ha1 : (0 : Int) ≤ a1.toInt ∧ a1.toInt ≤ 6) (ha2 : (0 : Int) ≤ a2.toInt ∧ a2.toInt ≤ 9) : SafeR l yX11_hearsBy cX11_hearsBy 3 (some .int) 1 G (TY cs) [.ref h, .int a1, .int a2] (mS cs h q F A D B) (fun r : Int32 => True) := by
  refine mkP (Qc := QRi (fun r : Int32 => True)) (by decide) (by simp [lg_sl, Value.category]) ?_
  intro p e s m args below meth c ls hx hb hml hr hlk hown ht hK hP hS hl
  have hl : lv_has ls 3 [(0, .ref h), (1, .int a1), (2, .int a2)] := hl
  refine lv_bipush (v := 100) hx hb dX11_hearsBy_0 (by decide) ?_
  refine lv_bipush (v := 100) hx hb dX11_hearsBy_2 (by decide) ?_
  refine lv_aload_n hx hb dX11_hearsBy_4 rfl (lv_at hl 0 rfl) ?_
  refine lv_iload_n hx hb dX11_hearsBy_5 rfl (lv_at hl 1 rfl) ?_
  refine lv_iconst (v := 1) hx hb dX11_hearsBy_6 (by decide) ?_
  refine behR (runVP (As := [.int a1, .int 1]) (rest := [.int 100, .int 100]) ⟨hx, hb, hml, hown, ht⟩ (sX11_of l G cs h q F A D B hI a1 1 (by omega) (by decide)) okV_RX11_227 ⟨by decide, by decide⟩ hK hP [0, 1, 2, 3, 4, 5, 6, 7, 8, 9, 10, 11, 12, 13, 14, 15, 16, 17, 18, 19] rfl 0 rfl rfl hl.1 rfl (Nat.le_of_ble_eq_true rfl) dX11_hearsBy_7 ⟨by decide, by decide⟩) hP hS (fun _ h => h) (fun r1 H locs hr1 hP hS => ?_)
  have kk2 : (1 : Int32).toInt = 1 := by decide
  have hr1 : r1 = (A 1) (8 + 4 * a1.toNatClampNeg + (1 : Int32).toNatClampNeg) ∧ (0 : Int) ≤ r1.toInt ∧ r1.toInt ≤ 999 ∧ ((1 : Int32).toInt = 3 → r1.toInt ≤ 127) ∧ ((1 : Int32).toInt = 2 → r1.toInt ≤ 99) := hr1
  refine lv_isub hx hb dX11_hearsBy_10 ?_
  refine lv_topi (fun v3 ev3 => ?_)
  have tv3 : v3.toInt = 100 - r1.toInt := by rw [ev3]; exact subT (show (100 : Int32).toInt = 100 by decide) rfl (by omega)
  refine lv_iload_n hx hb dX11_hearsBy_11 rfl (lv_at hl 2 rfl) ?_
  refine lv_iconst (v := 1) hx hb dX11_hearsBy_12 (by decide) ?_
  refine lv_iadd hx hb dX11_hearsBy_13 ?_
  refine lv_topi (fun v4 ev4 => ?_)
  have tv4 : v4.toInt = a2.toInt + 1 := by rw [ev4]; exact addT rfl (show (1 : Int32).toInt = 1 by decide) (by omega)
  refine lv_idiv hx hb dX11_hearsBy_14 (n0K rfl (by omega)) ?_
  refine lv_topi (fun v5 ev5 => ?_)
  refine lv_isub hx hb dX11_hearsBy_15 ?_
  refine lv_topi (fun v6 ev6 => ?_)
  exact retRi hx hb hr hlk hS dX11_hearsBy_16 (trivial)

set_option maxRecDepth 100000 in
set_option maxHeartbeats 8000000 in
theorem sX11_hears (l : Launch) (G : va_G) (cs : Nat → ClassId) (h : Nat) (q : Nat → Nat) (F : Nat → Int32) (A : Nat → Nat → Int32) (D : Int64) (B : Nat → Nat → Int64) (hI : IM F A) (a1 : Int32) (a2 : Int32) : SafeR l yX11_hears cX11_hears 3 (some .int) 2 G (TY cs) [.ref h, .int a1, .int a2] (mS cs h q F A D B) (fun r : Int32 => True) := by
  refine mkP (Qc := QRi (fun r : Int32 => True)) (by decide) (by simp [lg_sl, Value.category]) ?_
  intro p e s m args below meth c ls hx hb hml hr hlk hown ht hK hP hS hl
  have hl : lv_has ls 3 [(0, .ref h), (1, .int a1), (2, .int a2)] := hl
  refine lv_aload_n hx hb dX11_hears_0 rfl (lv_at hl 0 rfl) ?_
  refine lv_iload_n hx hb dX11_hears_1 rfl (lv_at hl 1 rfl) ?_
  refine lv_i2l hx hb dX11_hears_2 rfl ?_
  have bb1 := i32b a1
  refine lv_topl (fun v2 ev2 => ?_)
  have tv2 : v2.toInt = a1.toInt := by rw [ev2]; exact Int32.toInt_toInt64 _
  refine behR (runVP (As := [.long v2]) (rest := []) ⟨hx, hb, hml, hown, ht⟩ (sX11_isRoom l G cs h q F A D B hI v2 ) okV_RX11_89 ⟨by decide, by decide⟩ hK hP [0, 1, 2, 3, 4, 5, 6, 7, 8, 9, 10, 11, 12, 13, 14, 15, 16, 17, 18, 19] rfl 0 rfl rfl hl.1 rfl (Nat.le_of_ble_eq_true rfl) dX11_hears_3 ⟨by decide, by decide⟩) hP hS (fun _ h => h) (fun r3 H locs hr3 hP hS => ?_)
  have hr3 : (r3.toInt = 1 ∧ 0 ≤ v2.toInt ∧ v2.toInt < (A 1 4).toInt ∧ v2.toInt ≤ 6 ∧ (A 1 4).toInt ≤ 7) ∨ r3.toInt = 0 := hr3
  refine lv_if_eq (tgt := 30) hx hb dX11_hears_6 (by decide) (fun c4 => ?_) (fun c4 => ?_)
  · have zc4 := eqK rfl (show (0 : Int32).toInt = 0 by decide) c4
    refine lv_bipush (v := (-2)) hx hb dX11_hears_30 (by decide) ?_
    exact retRi hx hb hr hlk hS dX11_hears_32 (trivial)
  · have zc4 := neK rfl (show (0 : Int32).toInt = 0 by decide) c4
    refine lv_iload_n hx hb dX11_hears_9 rfl (lv_at hl 2 rfl) ?_
    refine lv_i2l hx hb dX11_hears_10 rfl ?_
    have bb5 := i32b a2
    refine lv_topl (fun v6 ev6 => ?_)
    have tv6 : v6.toInt = a2.toInt := by rw [ev6]; exact Int32.toInt_toInt64 _
    refine lv_lconst (v := 0) hx hb dX11_hears_11 (by decide) ?_
    refine lv_ldc2 hx hb hown (ht _ kl_RX11_237) dX11_hears_12 ?_
    refine behR (runSP (As := [.long v6, .long 0, .long 9]) (rest := []) ⟨hx, hb, hml, hown, ht⟩ (sX11_in l G cs v6 0 9 ) okS_RX11_79 ⟨by decide, by decide⟩ hK hP [] rfl hl.1 rfl (Nat.le_of_ble_eq_true rfl) dX11_hears_15 ⟨by decide, by decide⟩) hP hS (fun _ h => h) (fun r7 H locs hr7 hP hS => ?_)
    have kk8 : (0 : Int64).toInt = 0 := by decide
    have kk9 : (9 : Int64).toInt = 9 := by decide
    have hr7 : (r7.toInt = 1 ∧ (0 : Int64).toInt ≤ v6.toInt ∧ v6.toInt ≤ (9 : Int64).toInt) ∨ (r7.toInt = 0 ∧ (v6.toInt < (0 : Int64).toInt ∨ (9 : Int64).toInt < v6.toInt)) := hr7
    refine lv_if_eq (tgt := 30) hx hb dX11_hears_18 (by decide) (fun c10 => ?_) (fun c10 => ?_)
    · have zc10 := eqK rfl (show (0 : Int32).toInt = 0 by decide) c10
      refine lv_bipush (v := (-2)) hx hb dX11_hears_30 (by decide) ?_
      exact retRi hx hb hr hlk hS dX11_hears_32 (trivial)
    · have zc10 := neK rfl (show (0 : Int32).toInt = 0 by decide) c10
      refine lv_aload_n hx hb dX11_hears_21 rfl (lv_at hl 0 rfl) ?_
      refine lv_iload_n hx hb dX11_hears_22 rfl (lv_at hl 1 rfl) ?_
      refine lv_iload_n hx hb dX11_hears_23 rfl (lv_at hl 2 rfl) ?_
      refine behR (runVP (As := [.int a1, .int a2]) (rest := []) ⟨hx, hb, hml, hown, ht⟩ (sX11_hearsBy l G cs h q F A D B hI a1 a2 (by omega) (by omega)) okV_RX11_239 ⟨by decide, by decide⟩ hK hP [0, 1, 2, 3, 4, 5, 6, 7, 8, 9, 10, 11, 12, 13, 14, 15, 16, 17, 18, 19] rfl 0 rfl rfl hl.1 rfl (Nat.le_of_ble_eq_true rfl) dX11_hears_24 ⟨by decide, by decide⟩) hP hS (fun _ h => h) (fun r11 H locs hr11 hP hS => ?_)
      refine lv_goto (tgt := 32) hx hb dX11_hears_27 (by decide) ?_
      exact retRi hx hb hr hlk hS dX11_hears_32 (trivial)

