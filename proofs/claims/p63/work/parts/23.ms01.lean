set_option maxRecDepth 100000 in
set_option maxHeartbeats 8000000 in
theorem sX11_see (l : Launch) (G : va_G) (cs : Nat → ClassId) (h : Nat) (q : Nat → Nat) (F : Nat → Int32) (A : Nat → Nat → Int32) (D : Int64) (B : Nat → Nat → Int64) (hI : IM F A) (a1 : Int32) (ha1 : (0 : Int) ≤ a1.toInt ∧ a1.toInt ≤ 900) : SafeR l yX11_see cX11_see 2 (some .int) 0 G (TY cs) [.ref h, .int a1] (mS cs h q F A D B) (fun r : Int32 => (r.toInt = -1 ∧ (F 7).toInt ≤ a1.toInt) ∨ (0 ≤ r.toInt ∧ r.toInt ≤ 255 ∧ a1.toInt < (F 7).toInt)) := by
  refine mkP (Qc := QRi (fun r : Int32 => (r.toInt = -1 ∧ (F 7).toInt ≤ a1.toInt) ∨ (0 ≤ r.toInt ∧ r.toInt ≤ 255 ∧ a1.toInt < (F 7).toInt))) (by decide) (by simp [lg_sl, Value.category]) ?_
  intro p e s m args below meth c ls hx hb hml hr hlk hown ht hK hP hS hl
  have hl : lv_has ls 2 [(0, .ref h), (1, .int a1)] := hl
  refine lv_iload_n hx hb dX11_see_0 rfl (lv_at hl 1 rfl) ?_
  refine lv_aload_n hx hb dX11_see_1 rfl (lv_at hl 0 rfl) ?_
  refine getF (v := .int (F 7)) hx hb ht hown hK hP iTX11 0 7 rfl rfl (by decide) fl_RX11_96 rfl dX11_see_2 ?_
  have zf1 : (0 : Int) ≤ (F 7).toInt ∧ (F 7).toInt ≤ 900 := hI.1 7
  refine lv_icmp_ge (tgt := 21) hx hb dX11_see_5 (by decide) (fun c2 => ?_) (fun c2 => ?_)
  · have zc2 := leK rfl rfl c2
    refine lv_iconst (v := (-1)) hx hb dX11_see_21 (by decide) ?_
    exact retRi hx hb hr hlk hS dX11_see_22 (show ((-1 : Int32).toInt = -1 ∧ (F 7).toInt ≤ a1.toInt) ∨ (0 ≤ (-1 : Int32).toInt ∧ (-1 : Int32).toInt ≤ 255 ∧ a1.toInt < (F 7).toInt) by have kk : (-1 : Int32).toInt = -1 := (by decide); omega)
  · have zc2 := nleK rfl rfl c2
    refine lv_aload_n hx hb dX11_see_8 rfl (lv_at hl 0 rfl) ?_
    refine getF (v := .ref (q 4)) hx hb ht hown hK hP iTX11 0 4 rfl rfl (by decide) fl_RX11_20 rfl dX11_see_9 ?_
    refine lv_iload_n hx hb dX11_see_12 rfl (lv_at hl 1 rfl) ?_
    refine va_bald hx hb hK.1 hP 4 1 rfl rfl (inK rfl (by omega) (by decide)) dX11_see_13 ?_
    refine lv_topi (fun v3 ev3 => ?_)
    refine lv_sipush (v := 255) hx hb dX11_see_14 (by decide) ?_
    refine lv_iand hx hb dX11_see_17 ?_
    refine lv_topi (fun v4 ev4 => ?_)
    have tv4 : 0 ≤ v4.toInt ∧ v4.toInt ≤ 255 := by rw [ev4]; exact andT 8 (by decide) (by decide) (by decide)
    refine lv_goto (tgt := 22) hx hb dX11_see_18 (by decide) ?_
    exact retRi hx hb hr hlk hS dX11_see_22 (show (v4.toInt = -1 ∧ (F 7).toInt ≤ a1.toInt) ∨ (0 ≤ v4.toInt ∧ v4.toInt ≤ 255 ∧ a1.toInt < (F 7).toInt) by omega)

set_option maxRecDepth 100000 in
set_option maxHeartbeats 8000000 in
theorem sX11_good (l : Launch) (G : va_G) (cs : Nat → ClassId) (h : Nat) (q : Nat → Nat) (F : Nat → Int32) (A : Nat → Nat → Int32) (D : Int64) (B : Nat → Nat → Int64) (hI : IM F A) : SafeR l yX11_good cX11_good 1 (some .boolean) 0 G (TY cs) [.ref h] (mS cs h q F A D B) (fun r : Int32 => (0 : Int) ≤ r.toInt ∧ r.toInt ≤ 1) := by
  refine mkP (Qc := QRi (fun r : Int32 => (0 : Int) ≤ r.toInt ∧ r.toInt ≤ 1)) (by decide) (by simp [lg_sl, Value.category]) ?_
  intro p e s m args below meth c ls hx hb hml hr hlk hown ht hK hP hS hl
  have hl : lv_has ls 1 [(0, .ref h)] := hl
  refine lv_aload_n hx hb dX11_good_0 rfl (lv_at hl 0 rfl) ?_
  refine getF (v := .int (F 12)) hx hb ht hown hK hP iTX11 0 12 rfl rfl (by decide) fl_RX11_130 rfl dX11_good_1 ?_
  have zf1 : (0 : Int) ≤ (F 12).toInt ∧ (F 12).toInt ≤ 3 := hI.1 12
  refine lv_if_ne (tgt := 11) hx hb dX11_good_4 (by decide) (fun c2 => ?_) (fun c2 => ?_)
  · have zc2 := neK rfl (show (0 : Int32).toInt = 0 by decide) c2
    refine lv_iconst (v := 0) hx hb dX11_good_11 (by decide) ?_
    exact retRz hx hb hr hlk hS dX11_good_12 (rfl) (show (0 : Int) ≤ (0 : Int32).toInt ∧ (0 : Int32).toInt ≤ 1 by have kk : (0 : Int32).toInt = 0 := (by decide); omega)
  · have zc2 := eqK rfl (show (0 : Int32).toInt = 0 by decide) c2
    refine lv_iconst (v := 1) hx hb dX11_good_7 (by decide) ?_
    refine lv_goto (tgt := 12) hx hb dX11_good_8 (by decide) ?_
    exact retRz hx hb hr hlk hS dX11_good_12 (rfl) (show (0 : Int) ≤ (1 : Int32).toInt ∧ (1 : Int32).toInt ≤ 1 by have kk : (1 : Int32).toInt = 1 := (by decide); omega)

set_option maxRecDepth 100000 in
set_option maxHeartbeats 8000000 in
theorem sX11_errs (l : Launch) (G : va_G) (cs : Nat → ClassId) (h : Nat) (q : Nat → Nat) (F : Nat → Int32) (A : Nat → Nat → Int32) (D : Int64) (B : Nat → Nat → Int64) (hI : IM F A) (a1 : Int32) (ha1 : (0 : Int) ≤ a1.toInt ∧ a1.toInt ≤ 3) : ImpW l yX11_errs cX11_errs 2 1 0 0 G (TY cs) [.ref h, .int a1] (mS cs h q F A D B) (fun u : Int32 × Int32 => ((0 : Int) ≤ u.1.toInt ∧ u.1.toInt ≤ 3) ∧ ((-1 : Int) ≤ u.2.toInt ∧ u.2.toInt ≤ 900) ∧ (True)) (fun u : Int32 × Int32 => (mS cs h q (upd (upd F 12 u.1) 13 u.2) A D B)) := by
  refine mkD (Qc := (QDw G (fun u : Int32 × Int32 => ((0 : Int) ≤ u.1.toInt ∧ u.1.toInt ≤ 3) ∧ ((-1 : Int) ≤ u.2.toInt ∧ u.2.toInt ≤ 900) ∧ (True)) (fun u : Int32 × Int32 => (mS cs h q (upd (upd F 12 u.1) 13 u.2) A D B)))) (by decide) (by simp [lg_sl, Value.category]) ?_
  intro p e s m args below meth c ls A0 hx hb hml hr hlk hown hmn ht hK hP hD hS hA hl
  have hl : lv_has ls 2 [(0, .ref h), (1, .int a1)] := hl
  refine lv_aload_n hx hb dX11_errs_0 rfl (lv_at hl 0 rfl) ?_
  refine behR (runVP (As := []) (rest := []) ⟨hx, hb, hml, hown, ht⟩ (sX11_good l G cs h q F A D B hI  ) okV_RX11_133 ⟨by decide, by decide⟩ hK hP [0, 1, 2, 3, 4, 5, 6, 7, 8, 9, 10, 11, 12, 13, 14, 15, 16, 17, 18, 19] rfl 0 rfl rfl hl.1 rfl (Nat.le_of_ble_eq_true rfl) dX11_errs_1 ⟨by decide, by decide⟩) hP hS hA (fun r1 H locs hr1 hP hS => ?_)
  have hr1 : (0 : Int) ≤ r1.toInt ∧ r1.toInt ≤ 1 := hr1
  refine lv_if_ne (tgt := 8) hx hb dX11_errs_4 (by decide) (fun c2 => ?_) (fun c2 => ?_)
  · have zc2 := neK rfl (show (0 : Int32).toInt = 0 by decide) c2
    refine lv_aload_n hx hb dX11_errs_8 rfl (lv_at hl 0 rfl) ?_
    refine lv_iload_n hx hb dX11_errs_9 rfl (lv_at hl 1 rfl) ?_
    refine putD hx hb ht hown hK hP hD hS iTX11 tyX11 tyX11_ok nmX11 0 12 rfl rfl (by decide) fl_RX11_130 rfl rfl rfl (Nat.le_of_ble_eq_true rfl) dX11_errs_10 (fun H locs hP hD hS => ?_)
    have hP : va_P G vwCl (mS cs h q (upd F 12 a1) A D B) H := hP
    have hD : va_D A0 (mS cs h q (upd F 12 a1) A D B) := hD
    refine lv_aload_n hx hb dX11_errs_13 rfl (lv_at hl 0 rfl) ?_
    refine lv_aload_n hx hb dX11_errs_14 rfl (lv_at hl 0 rfl) ?_
    refine getF (v := .int (F 9)) hx hb ht hown hK hP iTX11 0 9 rfl rfl (by decide) fl_RX11_106 rfl dX11_errs_15 ?_
    have zf3 : (0 : Int) ≤ (F 9).toInt ∧ (F 9).toInt ≤ 900 := hI.1 9
    refine putD hx hb ht hown hK hP hD hS iTX11 tyX11 tyX11_ok nmX11 0 13 rfl rfl (by decide) fl_RX11_27 rfl rfl rfl (Nat.le_of_ble_eq_true rfl) dX11_errs_18 (fun H locs hP hD hS => ?_)
    have hP : va_P G vwCl (mS cs h q (upd (upd F 12 a1) 13 (F 9)) A D B) H := hP
    have hD : va_D A0 (mS cs h q (upd (upd F 12 a1) 13 (F 9)) A D B) := hD
    exact retDw (a1, (F 9)) hx hb hr hlk hP hD hS dX11_errs_21 (⟨show (0 : Int) ≤ a1.toInt ∧ a1.toInt ≤ 3 by omega, show (-1 : Int) ≤ (F 9).toInt ∧ (F 9).toInt ≤ 900 by omega, trivial⟩) (Nat.le_of_ble_eq_true rfl) (Nat.le_of_ble_eq_true rfl)
  · have zc2 := eqK rfl (show (0 : Int32).toInt = 0 by decide) c2
    exact retDw ((F 12), (F 13)) hx hb hr hlk hP hD hS dX11_errs_7 (⟨hI.1 12, hI.1 13, trivial⟩) (Nat.le_of_ble_eq_true rfl) (Nat.le_of_ble_eq_true rfl)

set_option maxRecDepth 100000 in
set_option maxHeartbeats 8000000 in
theorem sX11_fault (l : Launch) (G : va_G) (cs : Nat → ClassId) (h : Nat) (q : Nat → Nat) (F : Nat → Int32) (A : Nat → Nat → Int32) (D : Int64) (B : Nat → Nat → Int64) (hI : IM F A) (a1 : Int32) : SafeR l yX11_fault cX11_fault 2 (some .int) 0 G (TY cs) [.ref h, .int a1] (mS cs h q F A D B) (fun r : Int32 => True) := by
  refine mkP (Qc := QRi (fun r : Int32 => True)) (by decide) (by simp [lg_sl, Value.category]) ?_
  intro p e s m args below meth c ls hx hb hml hr hlk hown ht hK hP hS hl
  have hl : lv_has ls 2 [(0, .ref h), (1, .int a1)] := hl
  refine lv_iload_n hx hb dX11_fault_0 rfl (lv_at hl 1 rfl) ?_
  refine lv_if_ne (tgt := 11) hx hb dX11_fault_1 (by decide) (fun c1 => ?_) (fun c1 => ?_)
  · have zc1 := neK rfl (show (0 : Int32).toInt = 0 by decide) c1
    refine lv_iload_n hx hb dX11_fault_11 rfl (lv_at hl 1 rfl) ?_
    refine lv_iconst (v := 1) hx hb dX11_fault_12 (by decide) ?_
    refine lv_icmp_ne (tgt := 23) hx hb dX11_fault_13 (by decide) (fun c2 => ?_) (fun c2 => ?_)
    · have zc2 := neK rfl (show (1 : Int32).toInt = 1 by decide) c2
      refine lv_iconst (v := (-1)) hx hb dX11_fault_23 (by decide) ?_
      exact retRi hx hb hr hlk hS dX11_fault_24 (trivial)
    · have zc2 := eqK rfl (show (1 : Int32).toInt = 1 by decide) c2
      refine lv_aload_n hx hb dX11_fault_16 rfl (lv_at hl 0 rfl) ?_
      refine getF (v := .int (F 13)) hx hb ht hown hK hP iTX11 0 13 rfl rfl (by decide) fl_RX11_27 rfl dX11_fault_17 ?_
      have zf3 : (-1 : Int) ≤ (F 13).toInt ∧ (F 13).toInt ≤ 900 := hI.1 13
      refine lv_goto (tgt := 24) hx hb dX11_fault_20 (by decide) ?_
      exact retRi hx hb hr hlk hS dX11_fault_24 (trivial)
  · have zc1 := eqK rfl (show (0 : Int32).toInt = 0 by decide) c1
    refine lv_aload_n hx hb dX11_fault_4 rfl (lv_at hl 0 rfl) ?_
    refine getF (v := .int (F 12)) hx hb ht hown hK hP iTX11 0 12 rfl rfl (by decide) fl_RX11_130 rfl dX11_fault_5 ?_
    have zf4 : (0 : Int) ≤ (F 12).toInt ∧ (F 12).toInt ≤ 3 := hI.1 12
    refine lv_goto (tgt := 24) hx hb dX11_fault_8 (by decide) ?_
    exact retRi hx hb hr hlk hS dX11_fault_24 (trivial)

set_option maxRecDepth 100000 in
set_option maxHeartbeats 8000000 in
theorem sX11_room (l : Launch) (G : va_G) (cs : Nat → ClassId) (h : Nat) (q : Nat → Nat) (F : Nat → Int32) (A : Nat → Nat → Int32) (D : Int64) (B : Nat → Nat → Int64) (hI : IM F A) (a1 : Int32) (a2 : Int32) : SafeR l yX11_room cX11_room 3 (some .int) 2 G (TY cs) [.ref h, .int a1, .int a2] (mS cs h q F A D B) (fun r : Int32 => True) := by
  refine mkP (Qc := QRi (fun r : Int32 => True)) (by decide) (by simp [lg_sl, Value.category]) ?_
  intro p e s m args below meth c ls hx hb hml hr hlk hown ht hK hP hS hl
  have hl : lv_has ls 3 [(0, .ref h), (1, .int a1), (2, .int a2)] := hl
  refine lv_aload_n hx hb dX11_room_0 rfl (lv_at hl 0 rfl) ?_
  refine lv_iload_n hx hb dX11_room_1 rfl (lv_at hl 1 rfl) ?_
  refine lv_i2l hx hb dX11_room_2 rfl ?_
  have bb1 := i32b a1
  refine lv_topl (fun v2 ev2 => ?_)
  have tv2 : v2.toInt = a1.toInt := by rw [ev2]; exact Int32.toInt_toInt64 _
  refine behR (runVP (As := [.long v2]) (rest := []) ⟨hx, hb, hml, hown, ht⟩ (sX11_isRoom l G cs h q F A D B hI v2 ) okV_RX11_89 ⟨by decide, by decide⟩ hK hP [0, 1, 2, 3, 4, 5, 6, 7, 8, 9, 10, 11, 12, 13, 14, 15, 16, 17, 18, 19] rfl 0 rfl rfl hl.1 rfl (Nat.le_of_ble_eq_true rfl) dX11_room_3 ⟨by decide, by decide⟩) hP hS (fun _ h => h) (fun r3 H locs hr3 hP hS => ?_)
  have hr3 : (r3.toInt = 1 ∧ 0 ≤ v2.toInt ∧ v2.toInt < (A 1 4).toInt ∧ v2.toInt ≤ 6 ∧ (A 1 4).toInt ≤ 7) ∨ r3.toInt = 0 := hr3
  refine lv_if_eq (tgt := 30) hx hb dX11_room_6 (by decide) (fun c4 => ?_) (fun c4 => ?_)
  · have zc4 := eqK rfl (show (0 : Int32).toInt = 0 by decide) c4
    refine lv_bipush (v := (-2)) hx hb dX11_room_30 (by decide) ?_
    exact retRi hx hb hr hlk hS dX11_room_32 (trivial)
  · have zc4 := neK rfl (show (0 : Int32).toInt = 0 by decide) c4
    refine lv_iload_n hx hb dX11_room_9 rfl (lv_at hl 2 rfl) ?_
    refine lv_i2l hx hb dX11_room_10 rfl ?_
    have bb5 := i32b a2
    refine lv_topl (fun v6 ev6 => ?_)
    have tv6 : v6.toInt = a2.toInt := by rw [ev6]; exact Int32.toInt_toInt64 _
    refine lv_lconst (v := 0) hx hb dX11_room_11 (by decide) ?_
    refine lv_ldc2 hx hb hown (ht _ kl_RX11_225) dX11_room_12 ?_
    refine behR (runSP (As := [.long v6, .long 0, .long 3]) (rest := []) ⟨hx, hb, hml, hown, ht⟩ (sX11_in l G cs v6 0 3 ) okS_RX11_79 ⟨by decide, by decide⟩ hK hP [] rfl hl.1 rfl (Nat.le_of_ble_eq_true rfl) dX11_room_15 ⟨by decide, by decide⟩) hP hS (fun _ h => h) (fun r7 H locs hr7 hP hS => ?_)
    have kk8 : (0 : Int64).toInt = 0 := by decide
    have kk9 : (3 : Int64).toInt = 3 := by decide
    have hr7 : (r7.toInt = 1 ∧ (0 : Int64).toInt ≤ v6.toInt ∧ v6.toInt ≤ (3 : Int64).toInt) ∨ (r7.toInt = 0 ∧ (v6.toInt < (0 : Int64).toInt ∨ (3 : Int64).toInt < v6.toInt)) := hr7
    refine lv_if_eq (tgt := 30) hx hb dX11_room_18 (by decide) (fun c10 => ?_) (fun c10 => ?_)
    · have zc10 := eqK rfl (show (0 : Int32).toInt = 0 by decide) c10
      refine lv_bipush (v := (-2)) hx hb dX11_room_30 (by decide) ?_
      exact retRi hx hb hr hlk hS dX11_room_32 (trivial)
    · have zc10 := neK rfl (show (0 : Int32).toInt = 0 by decide) c10
      refine lv_aload_n hx hb dX11_room_21 rfl (lv_at hl 0 rfl) ?_
      refine lv_iload_n hx hb dX11_room_22 rfl (lv_at hl 1 rfl) ?_
      refine lv_iload_n hx hb dX11_room_23 rfl (lv_at hl 2 rfl) ?_
      refine behR (runVP (As := [.int a1, .int a2]) (rest := []) ⟨hx, hb, hml, hown, ht⟩ (sX11_of l G cs h q F A D B hI a1 a2 (by omega) (by omega)) okV_RX11_227 ⟨by decide, by decide⟩ hK hP [0, 1, 2, 3, 4, 5, 6, 7, 8, 9, 10, 11, 12, 13, 14, 15, 16, 17, 18, 19] rfl 0 rfl rfl hl.1 rfl (Nat.le_of_ble_eq_true rfl) dX11_room_24 ⟨by decide, by decide⟩) hP hS (fun _ h => h) (fun r11 H locs hr11 hP hS => ?_)
      have hr11 : (0 : Int) ≤ r11.toInt ∧ r11.toInt ≤ 999 ∧ (a2.toInt = 3 → r11.toInt ≤ 127) ∧ (a2.toInt = 2 → r11.toInt ≤ 99) := hr11
      refine lv_goto (tgt := 32) hx hb dX11_room_27 (by decide) ?_
      exact retRi hx hb hr hlk hS dX11_room_32 (trivial)

set_option maxRecDepth 100000 in
set_option maxHeartbeats 8000000 in
theorem sX11_man (l : Launch) (G : va_G) (cs : Nat → ClassId) (h : Nat) (q : Nat → Nat) (F : Nat → Int32) (A : Nat → Nat → Int32) (D : Int64) (B : Nat → Nat → Int64) (hI : IM F A) (a1 : Int32) (a2 : Int32) : SafeR l yX11_man cX11_man 3 (some .int) 2 G (TY cs) [.ref h, .int a1, .int a2] (mS cs h q F A D B) (fun r : Int32 => True) := by
  refine mkP (Qc := QRi (fun r : Int32 => True)) (by decide) (by simp [lg_sl, Value.category]) ?_
  intro p e s m args below meth c ls hx hb hml hr hlk hown ht hK hP hS hl
  have hl : lv_has ls 3 [(0, .ref h), (1, .int a1), (2, .int a2)] := hl
  refine lv_aload_n hx hb dX11_man_0 rfl (lv_at hl 0 rfl) ?_
  refine lv_iload_n hx hb dX11_man_1 rfl (lv_at hl 1 rfl) ?_
  refine behR (runVP (As := [.int a1]) (rest := []) ⟨hx, hb, hml, hown, ht⟩ (sX11_isMan l G cs h q F A D B hI a1 ) okV_RX11_230 ⟨by decide, by decide⟩ hK hP [0, 1, 2, 3, 4, 5, 6, 7, 8, 9, 10, 11, 12, 13, 14, 15, 16, 17, 18, 19] rfl 0 rfl rfl hl.1 rfl (Nat.le_of_ble_eq_true rfl) dX11_man_2 ⟨by decide, by decide⟩) hP hS (fun _ h => h) (fun r1 H locs hr1 hP hS => ?_)
  have hr1 : (r1.toInt = 1 ∧ 0 ≤ a1.toInt ∧ a1.toInt < (A 1 5).toInt ∧ a1.toInt ≤ 5 ∧ (A 1 5).toInt ≤ 6) ∨ r1.toInt = 0 := hr1
  refine lv_if_eq (tgt := 27) hx hb dX11_man_5 (by decide) (fun c2 => ?_) (fun c2 => ?_)
  · have zc2 := eqK rfl (show (0 : Int32).toInt = 0 by decide) c2
    refine lv_bipush (v := (-2)) hx hb dX11_man_27 (by decide) ?_
    exact retRi hx hb hr hlk hS dX11_man_29 (trivial)
  · have zc2 := neK rfl (show (0 : Int32).toInt = 0 by decide) c2
    refine lv_iload_n hx hb dX11_man_8 rfl (lv_at hl 2 rfl) ?_
    refine lv_i2l hx hb dX11_man_9 rfl ?_
    have bb3 := i32b a2
    refine lv_topl (fun v4 ev4 => ?_)
    have tv4 : v4.toInt = a2.toInt := by rw [ev4]; exact Int32.toInt_toInt64 _
    refine lv_lconst (v := 0) hx hb dX11_man_10 (by decide) ?_
    refine lv_lconst (v := 1) hx hb dX11_man_11 (by decide) ?_
    refine behR (runSP (As := [.long v4, .long 0, .long 1]) (rest := []) ⟨hx, hb, hml, hown, ht⟩ (sX11_in l G cs v4 0 1 ) okS_RX11_79 ⟨by decide, by decide⟩ hK hP [] rfl hl.1 rfl (Nat.le_of_ble_eq_true rfl) dX11_man_12 ⟨by decide, by decide⟩) hP hS (fun _ h => h) (fun r5 H locs hr5 hP hS => ?_)
    have kk6 : (0 : Int64).toInt = 0 := by decide
    have kk7 : (1 : Int64).toInt = 1 := by decide
    have hr5 : (r5.toInt = 1 ∧ (0 : Int64).toInt ≤ v4.toInt ∧ v4.toInt ≤ (1 : Int64).toInt) ∨ (r5.toInt = 0 ∧ (v4.toInt < (0 : Int64).toInt ∨ (1 : Int64).toInt < v4.toInt)) := hr5
    refine lv_if_eq (tgt := 27) hx hb dX11_man_15 (by decide) (fun c8 => ?_) (fun c8 => ?_)
    · have zc8 := eqK rfl (show (0 : Int32).toInt = 0 by decide) c8
      refine lv_bipush (v := (-2)) hx hb dX11_man_27 (by decide) ?_
      exact retRi hx hb hr hlk hS dX11_man_29 (trivial)
    · have zc8 := neK rfl (show (0 : Int32).toInt = 0 by decide) c8
      refine lv_aload_n hx hb dX11_man_18 rfl (lv_at hl 0 rfl) ?_
      refine lv_iload_n hx hb dX11_man_19 rfl (lv_at hl 1 rfl) ?_
      refine lv_iload_n hx hb dX11_man_20 rfl (lv_at hl 2 rfl) ?_
      refine behR (runVP (As := [.int a1, .int a2]) (rest := []) ⟨hx, hb, hml, hown, ht⟩ (sX11_ofMan l G cs h q F A D B hI a1 a2 (by omega) (by omega)) okV_RX11_234 ⟨by decide, by decide⟩ hK hP [0, 1, 2, 3, 4, 5, 6, 7, 8, 9, 10, 11, 12, 13, 14, 15, 16, 17, 18, 19] rfl 0 rfl rfl hl.1 rfl (Nat.le_of_ble_eq_true rfl) dX11_man_21 ⟨by decide, by decide⟩) hP hS (fun _ h => h) (fun r9 H locs hr9 hP hS => ?_)
      have hr9 : (0 : Int) ≤ r9.toInt ∧ r9.toInt ≤ 99 ∧ (a2.toInt = 1 → r9.toInt ≤ 63) ∧ (2 ≤ a2.toInt → r9.toInt ≤ 9) := hr9
      refine lv_goto (tgt := 29) hx hb dX11_man_24 (by decide) ?_
      exact retRi hx hb hr hlk hS dX11_man_29 (trivial)

set_option maxRecDepth 100000 in
set_option maxHeartbeats 8000000 in
theorem sX11_slate (l : Launch) (G : va_G) (cs : Nat → ClassId) (h : Nat) (q : Nat → Nat) (F : Nat → Int32) (A : Nat → Nat → Int32) (D : Int64) (B : Nat → Nat → Int64) (hI : IM F A) (a1 : Int32) (a2 : Int32) : SafeR l yX11_slate cX11_slate 3 (some .int) 2 G (TY cs) [.ref h, .int a1, .int a2] (mS cs h q F A D B) (fun r : Int32 => True) := by
  refine mkP (Qc := QRi (fun r : Int32 => True)) (by decide) (by simp [lg_sl, Value.category]) ?_
  intro p e s m args below meth c ls hx hb hml hr hlk hown ht hK hP hS hl
  have hl : lv_has ls 3 [(0, .ref h), (1, .int a1), (2, .int a2)] := hl
  refine lv_aload_n hx hb dX11_slate_0 rfl (lv_at hl 0 rfl) ?_
  refine lv_iload_n hx hb dX11_slate_1 rfl (lv_at hl 1 rfl) ?_
  refine behR (runVP (As := [.int a1]) (rest := []) ⟨hx, hb, hml, hown, ht⟩ (sX11_isMan l G cs h q F A D B hI a1 ) okV_RX11_230 ⟨by decide, by decide⟩ hK hP [0, 1, 2, 3, 4, 5, 6, 7, 8, 9, 10, 11, 12, 13, 14, 15, 16, 17, 18, 19] rfl 0 rfl rfl hl.1 rfl (Nat.le_of_ble_eq_true rfl) dX11_slate_2 ⟨by decide, by decide⟩) hP hS (fun _ h => h) (fun r1 H locs hr1 hP hS => ?_)
  have hr1 : (r1.toInt = 1 ∧ 0 ≤ a1.toInt ∧ a1.toInt < (A 1 5).toInt ∧ a1.toInt ≤ 5 ∧ (A 1 5).toInt ≤ 6) ∨ r1.toInt = 0 := hr1
  refine lv_if_eq (tgt := 27) hx hb dX11_slate_5 (by decide) (fun c2 => ?_) (fun c2 => ?_)
  · have zc2 := eqK rfl (show (0 : Int32).toInt = 0 by decide) c2
    refine lv_bipush (v := (-2)) hx hb dX11_slate_27 (by decide) ?_
    exact retRi hx hb hr hlk hS dX11_slate_29 (trivial)
  · have zc2 := neK rfl (show (0 : Int32).toInt = 0 by decide) c2
    refine lv_aload_n hx hb dX11_slate_8 rfl (lv_at hl 0 rfl) ?_
    refine lv_iload_n hx hb dX11_slate_9 rfl (lv_at hl 2 rfl) ?_
    refine behR (runVP (As := [.int a2]) (rest := []) ⟨hx, hb, hml, hown, ht⟩ (sX11_isMan l G cs h q F A D B hI a2 ) okV_RX11_230 ⟨by decide, by decide⟩ hK hP [0, 1, 2, 3, 4, 5, 6, 7, 8, 9, 10, 11, 12, 13, 14, 15, 16, 17, 18, 19] rfl 0 rfl rfl hl.1 rfl (Nat.le_of_ble_eq_true rfl) dX11_slate_10 ⟨by decide, by decide⟩) hP hS (fun _ h => h) (fun r3 H locs hr3 hP hS => ?_)
    have hr3 : (r3.toInt = 1 ∧ 0 ≤ a2.toInt ∧ a2.toInt < (A 1 5).toInt ∧ a2.toInt ≤ 5 ∧ (A 1 5).toInt ≤ 6) ∨ r3.toInt = 0 := hr3
    refine lv_if_eq (tgt := 27) hx hb dX11_slate_13 (by decide) (fun c4 => ?_) (fun c4 => ?_)
    · have zc4 := eqK rfl (show (0 : Int32).toInt = 0 by decide) c4
      refine lv_bipush (v := (-2)) hx hb dX11_slate_27 (by decide) ?_
      exact retRi hx hb hr hlk hS dX11_slate_29 (trivial)
    · have zc4 := neK rfl (show (0 : Int32).toInt = 0 by decide) c4
      refine lv_aload_n hx hb dX11_slate_16 rfl (lv_at hl 0 rfl) ?_
      refine lv_iload_n hx hb dX11_slate_17 rfl (lv_at hl 1 rfl) ?_
      refine lv_iconst (v := 2) hx hb dX11_slate_18 (by decide) ?_
      refine lv_iload_n hx hb dX11_slate_19 rfl (lv_at hl 2 rfl) ?_
      refine lv_iadd hx hb dX11_slate_20 ?_
      refine lv_topi (fun v5 ev5 => ?_)
      have tv5 : v5.toInt = 2 + a2.toInt := by rw [ev5]; exact addT (show (2 : Int32).toInt = 2 by decide) rfl (by omega)
      refine behR (runVP (As := [.int a1, .int v5]) (rest := []) ⟨hx, hb, hml, hown, ht⟩ (sX11_ofMan l G cs h q F A D B hI a1 v5 (by omega) (by omega)) okV_RX11_234 ⟨by decide, by decide⟩ hK hP [0, 1, 2, 3, 4, 5, 6, 7, 8, 9, 10, 11, 12, 13, 14, 15, 16, 17, 18, 19] rfl 0 rfl rfl hl.1 rfl (Nat.le_of_ble_eq_true rfl) dX11_slate_21 ⟨by decide, by decide⟩) hP hS (fun _ h => h) (fun r6 H locs hr6 hP hS => ?_)
      have hr6 : (0 : Int) ≤ r6.toInt ∧ r6.toInt ≤ 99 ∧ (v5.toInt = 1 → r6.toInt ≤ 63) ∧ (2 ≤ v5.toInt → r6.toInt ≤ 9) := hr6
      refine lv_goto (tgt := 29) hx hb dX11_slate_24 (by decide) ?_
      exact retRi hx hb hr hlk hS dX11_slate_29 (trivial)

set_option maxRecDepth 100000 in
set_option maxHeartbeats 8000000 in
theorem sX11_hearsBy (l : Launch) (G : va_G) (cs : Nat → ClassId) (h : Nat) (q : Nat → Nat) (F : Nat → Int32) (A : Nat → Nat → Int32) (D : Int64) (B : Nat → Nat → Int64) (hI : IM F A) (a1 : Int32) (a2 : Int32) (ha1 : (0 : Int) ≤ a1.toInt ∧ a1.toInt ≤ 6) (ha2 : (0 : Int) ≤ a2.toInt ∧ a2.toInt ≤ 9) : SafeR l yX11_hearsBy cX11_hearsBy 3 (some .int) 1 G (TY cs) [.ref h, .int a1, .int a2] (mS cs h q F A D B) (fun r : Int32 => True) := by
  refine mkP (Qc := QRi (fun r : Int32 => True)) (by decide) (by simp [lg_sl, Value.category]) ?_
  intro p e s m args below meth c ls hx hb hml hr hlk hown ht hK hP hS hl
  have hl : lv_has ls 3 [(0, .ref h), (1, .int a1), (2, .int a2)] := hl
  refine lv_bipush (v := 100) hx hb dX11_hearsBy_0 (by decide) ?_
  refine lv_bipush (v := 100) hx hb dX11_hearsBy_2 (by decide) ?_
  refine lv_aload_n hx hb dX11_hearsBy_4 rfl (lv_at hl 0 rfl) ?_
  refine lv_iload_n hx hb dX11_hearsBy_5 rfl (lv_at hl 1 rfl) ?_
  refine lv_iconst (v := 1) hx hb dX11_hearsBy_6 (by decide) ?_
  refine behR (runVP (As := [.int a1, .int 1]) (rest := [.int 100, .int 100]) ⟨hx, hb, hml, hown, ht⟩ (sX11_of l G cs h q F A D B hI a1 1 (by omega) (by decide)) okV_RX11_227 ⟨by decide, by decide⟩ hK hP [0, 1, 2, 3, 4, 5, 6, 7, 8, 9, 10, 11, 12, 13, 14, 15, 16, 17, 18, 19] rfl 0 rfl rfl hl.1 rfl (Nat.le_of_ble_eq_true rfl) dX11_hearsBy_7 ⟨by decide, by decide⟩) hP hS (fun _ h => h) (fun r1 H locs hr1 hP hS => ?_)
  have kk2 : (1 : Int32).toInt = 1 := by decide
  have hr1 : (0 : Int) ≤ r1.toInt ∧ r1.toInt ≤ 999 ∧ ((1 : Int32).toInt = 3 → r1.toInt ≤ 127) ∧ ((1 : Int32).toInt = 2 → r1.toInt ≤ 99) := hr1
  refine lv_isub hx hb dX11_hearsBy_10 ?_
  refine lv_topi (fun v3 ev3 => ?_)
  have tv3 : v3.toInt = 100 - r1.toInt := by rw [ev3]; exact subT (show (100 : Int32).toInt = 100 by decide) rfl (by omega)
  refine lv_iload_n hx hb dX11_hearsBy_11 rfl (lv_at hl 2 rfl) ?_
  refine lv_iconst (v := 1) hx hb dX11_hearsBy_12 (by decide) ?_
  refine lv_iadd hx hb dX11_hearsBy_13 ?_
  refine lv_topi (fun v4 ev4 => ?_)
  have tv4 : v4.toInt = a2.toInt + 1 := by rw [ev4]; exact addT rfl (show (1 : Int32).toInt = 1 by decide) (by omega)
  refine lv_idiv hx hb dX11_hearsBy_14 (n0K rfl (by omega)) ?_
  refine lv_topi (fun v5 ev5 => ?_)
  refine lv_isub hx hb dX11_hearsBy_15 ?_
  refine lv_topi (fun v6 ev6 => ?_)
  exact retRi hx hb hr hlk hS dX11_hearsBy_16 (trivial)

set_option maxRecDepth 100000 in
set_option maxHeartbeats 8000000 in
theorem sX11_hears (l : Launch) (G : va_G) (cs : Nat → ClassId) (h : Nat) (q : Nat → Nat) (F : Nat → Int32) (A : Nat → Nat → Int32) (D : Int64) (B : Nat → Nat → Int64) (hI : IM F A) (a1 : Int32) (a2 : Int32) : SafeR l yX11_hears cX11_hears 3 (some .int) 2 G (TY cs) [.ref h, .int a1, .int a2] (mS cs h q F A D B) (fun r : Int32 => True) := by
  refine mkP (Qc := QRi (fun r : Int32 => True)) (by decide) (by simp [lg_sl, Value.category]) ?_
  intro p e s m args below meth c ls hx hb hml hr hlk hown ht hK hP hS hl
  have hl : lv_has ls 3 [(0, .ref h), (1, .int a1), (2, .int a2)] := hl
  refine lv_aload_n hx hb dX11_hears_0 rfl (lv_at hl 0 rfl) ?_
  refine lv_iload_n hx hb dX11_hears_1 rfl (lv_at hl 1 rfl) ?_
  refine lv_i2l hx hb dX11_hears_2 rfl ?_
  have bb1 := i32b a1
  refine lv_topl (fun v2 ev2 => ?_)
  have tv2 : v2.toInt = a1.toInt := by rw [ev2]; exact Int32.toInt_toInt64 _
  refine behR (runVP (As := [.long v2]) (rest := []) ⟨hx, hb, hml, hown, ht⟩ (sX11_isRoom l G cs h q F A D B hI v2 ) okV_RX11_89 ⟨by decide, by decide⟩ hK hP [0, 1, 2, 3, 4, 5, 6, 7, 8, 9, 10, 11, 12, 13, 14, 15, 16, 17, 18, 19] rfl 0 rfl rfl hl.1 rfl (Nat.le_of_ble_eq_true rfl) dX11_hears_3 ⟨by decide, by decide⟩) hP hS (fun _ h => h) (fun r3 H locs hr3 hP hS => ?_)
  have hr3 : (r3.toInt = 1 ∧ 0 ≤ v2.toInt ∧ v2.toInt < (A 1 4).toInt ∧ v2.toInt ≤ 6 ∧ (A 1 4).toInt ≤ 7) ∨ r3.toInt = 0 := hr3
  refine lv_if_eq (tgt := 30) hx hb dX11_hears_6 (by decide) (fun c4 => ?_) (fun c4 => ?_)
  · have zc4 := eqK rfl (show (0 : Int32).toInt = 0 by decide) c4
    refine lv_bipush (v := (-2)) hx hb dX11_hears_30 (by decide) ?_
    exact retRi hx hb hr hlk hS dX11_hears_32 (trivial)
  · have zc4 := neK rfl (show (0 : Int32).toInt = 0 by decide) c4
    refine lv_iload_n hx hb dX11_hears_9 rfl (lv_at hl 2 rfl) ?_
    refine lv_i2l hx hb dX11_hears_10 rfl ?_
    have bb5 := i32b a2
    refine lv_topl (fun v6 ev6 => ?_)
    have tv6 : v6.toInt = a2.toInt := by rw [ev6]; exact Int32.toInt_toInt64 _
    refine lv_lconst (v := 0) hx hb dX11_hears_11 (by decide) ?_
    refine lv_ldc2 hx hb hown (ht _ kl_RX11_237) dX11_hears_12 ?_
    refine behR (runSP (As := [.long v6, .long 0, .long 9]) (rest := []) ⟨hx, hb, hml, hown, ht⟩ (sX11_in l G cs v6 0 9 ) okS_RX11_79 ⟨by decide, by decide⟩ hK hP [] rfl hl.1 rfl (Nat.le_of_ble_eq_true rfl) dX11_hears_15 ⟨by decide, by decide⟩) hP hS (fun _ h => h) (fun r7 H locs hr7 hP hS => ?_)
    have kk8 : (0 : Int64).toInt = 0 := by decide
    have kk9 : (9 : Int64).toInt = 9 := by decide
    have hr7 : (r7.toInt = 1 ∧ (0 : Int64).toInt ≤ v6.toInt ∧ v6.toInt ≤ (9 : Int64).toInt) ∨ (r7.toInt = 0 ∧ (v6.toInt < (0 : Int64).toInt ∨ (9 : Int64).toInt < v6.toInt)) := hr7
    refine lv_if_eq (tgt := 30) hx hb dX11_hears_18 (by decide) (fun c10 => ?_) (fun c10 => ?_)
    · have zc10 := eqK rfl (show (0 : Int32).toInt = 0 by decide) c10
      refine lv_bipush (v := (-2)) hx hb dX11_hears_30 (by decide) ?_
      exact retRi hx hb hr hlk hS dX11_hears_32 (trivial)
    · have zc10 := neK rfl (show (0 : Int32).toInt = 0 by decide) c10
      refine lv_aload_n hx hb dX11_hears_21 rfl (lv_at hl 0 rfl) ?_
      refine lv_iload_n hx hb dX11_hears_22 rfl (lv_at hl 1 rfl) ?_
      refine lv_iload_n hx hb dX11_hears_23 rfl (lv_at hl 2 rfl) ?_
      refine behR (runVP (As := [.int a1, .int a2]) (rest := []) ⟨hx, hb, hml, hown, ht⟩ (sX11_hearsBy l G cs h q F A D B hI a1 a2 (by omega) (by omega)) okV_RX11_239 ⟨by decide, by decide⟩ hK hP [0, 1, 2, 3, 4, 5, 6, 7, 8, 9, 10, 11, 12, 13, 14, 15, 16, 17, 18, 19] rfl 0 rfl rfl hl.1 rfl (Nat.le_of_ble_eq_true rfl) dX11_hears_24 ⟨by decide, by decide⟩) hP hS (fun _ h => h) (fun r11 H locs hr11 hP hS => ?_)
      refine lv_goto (tgt := 32) hx hb dX11_hears_27 (by decide) ?_
      exact retRi hx hb hr hlk hS dX11_hears_32 (trivial)

set_option maxRecDepth 100000 in
set_option maxHeartbeats 8000000 in
theorem sX11_allSits (l : Launch) (G : va_G) (cs : Nat → ClassId) (h : Nat) (q : Nat → Nat) (F : Nat → Int32) (A : Nat → Nat → Int32) (D : Int64) (B : Nat → Nat → Int64) (hI : IM F A) : SafeR l yX11_allSits cX11_allSits 3 (some .int) 1 G (TY cs) [.ref h] (mS cs h q F A D B) (fun r : Int32 => True) := by
  refine mkP (Qc := QRi (fun r : Int32 => True)) (by decide) (by simp [lg_sl, Value.category]) ?_
  intro p e s m args below meth c ls hx hb hml hr hlk hown ht hK hP hS hl
  have hl : lv_has ls 3 [(0, .ref h)] := hl
  refine lv_iconst (v := 0) hx hb dX11_allSits_0 (by decide) ?_
  refine lv_istore_n (lv' := [(1, .int 0), (0, .ref h)]) hx hb dX11_allSits_1 rfl hl (by decide) rfl (fun ls hl => ?_)
  refine lv_iconst (v := 0) hx hb dX11_allSits_2 (by decide) ?_
  refine lv_istore_n (lv' := [(2, .int 0), (1, .int 0), (0, .ref h)]) hx hb dX11_allSits_3 rfl hl (by decide) rfl (fun ls hl => ?_)
  have B4 : ∀ (n : Nat) (x4_1 : Int32) (x4_2 : Int32) (H : Heap) (locs : List Loc) (ls : Array Slot), (7 - x4_2.toInt).toNat < n → (0 : Int) ≤ x4_2.toInt ∧ x4_2.toInt ≤ 7 → va_P G vwCl (mS cs h q F A D B) H → va_S (fun q => s.heap.size ≤ q) s.heap H locs → lv_has ls 3 [(0, .ref h), (1, .int x4_1), (2, .int x4_2)] → W p l e (rmk 1 0 0) s m args below meth c H locs 0 0 (MQ below (QRi (fun r : Int32 => True) s.heap.size) args s 0 0 (fun q => s.heap.size ≤ q)) (F0 m 4 ls []) := by
    intro n
    induction n with
    | zero => intro x4_1 x4_2 H locs ls hmeas hx4_2 hP hS hl; exact absurd hmeas (Nat.not_lt_zero _)
    | succ n ih4 =>
      intro x4_1 x4_2 H locs ls hmeas hx4_2 hP hS hl
      refine lv_iload_n hx hb dX11_allSits_4 rfl (lv_at hl 2 rfl) ?_
      refine lv_aload_n hx hb dX11_allSits_5 rfl (lv_at hl 0 rfl) ?_
      refine getF (v := .ref (q 1)) hx hb ht hown hK hP iTX11 0 1 rfl rfl (by decide) fl_RX11_9 rfl dX11_allSits_6 ?_
      refine lv_iconst (v := 4) hx hb dX11_allSits_9 (by decide) ?_
      refine va_iald hx hb hK.1 hP 1 0 rfl rfl (show ¬ (_ ∨ _) by decide) dX11_allSits_10 ?_
      refine W.eq (g2 := F0 m 11 ls [.int (A 1 4), .int x4_2]) rfl ?_
      have zf5001 : (0 : Int) ≤ (A 1 4).toInt ∧ (A 1 4).toInt ≤ 7 := (hI.2 1 4)
      refine lv_icmp_ge (tgt := 29) hx hb dX11_allSits_11 (by decide) (fun c5002 => ?_) (fun c5002 => ?_)
      · have zc5002 := leK rfl rfl c5002
        refine lv_iload_n hx hb dX11_allSits_29 rfl (lv_at hl 1 rfl) ?_
        exact retRi hx hb hr hlk hS dX11_allSits_30 (trivial)
      · have zc5002 := nleK rfl rfl c5002
        refine lv_iload_n hx hb dX11_allSits_14 rfl (lv_at hl 1 rfl) ?_
        refine lv_aload_n hx hb dX11_allSits_15 rfl (lv_at hl 0 rfl) ?_
        refine lv_iload_n hx hb dX11_allSits_16 rfl (lv_at hl 2 rfl) ?_
        refine lv_iconst (v := 2) hx hb dX11_allSits_17 (by decide) ?_
        refine behR (runVP (As := [.int x4_2, .int 2]) (rest := [.int x4_1]) ⟨hx, hb, hml, hown, ht⟩ (sX11_of l G cs h q F A D B hI x4_2 2 (by omega) (by decide)) okV_RX11_227 ⟨by decide, by decide⟩ hK hP [0, 1, 2, 3, 4, 5, 6, 7, 8, 9, 10, 11, 12, 13, 14, 15, 16, 17, 18, 19] rfl 0 rfl rfl hl.1 rfl (Nat.le_of_ble_eq_true rfl) dX11_allSits_18 ⟨by decide, by decide⟩) hP hS (fun _ h => h) (fun r5003 H locs hr5003 hP hS => ?_)
        have kk5004 : (2 : Int32).toInt = 2 := by decide
        have hr5003 : (0 : Int) ≤ r5003.toInt ∧ r5003.toInt ≤ 999 ∧ ((2 : Int32).toInt = 3 → r5003.toInt ≤ 127) ∧ ((2 : Int32).toInt = 2 → r5003.toInt ≤ 99) := hr5003
        refine lv_iadd hx hb dX11_allSits_21 ?_
        refine lv_topi (fun v5005 ev5005 => ?_)
        refine lv_istore_n (lv' := [(1, .int v5005), (0, .ref h), (2, .int x4_2)]) hx hb dX11_allSits_22 rfl hl (by decide) rfl (fun ls hl => ?_)
        obtain ⟨v5006, ev5006⟩ : ∃ z : Int32, z = x4_2 + 1 := ⟨_, rfl⟩
        have tv5006 : v5006.toInt = x4_2.toInt + 1 := by rw [ev5006]; exact addT rfl (by decide) (by omega)
        refine lv_iinc (v := v5006) (lv' := [(2, .int v5006), (1, .int v5005), (0, .ref h)]) hx hb dX11_allSits_23 hl (k := 2) rfl (by rw [ev5006]; rfl) (by decide) rfl (fun ls hl => ?_)
        refine lv_goto (tgt := 4) hx hb dX11_allSits_26 (by decide) ?_
        exact ih4 v5005 v5006 H locs ls (by omega) (by omega) hP hS (lv_sub hl [2, 1, 0] rfl)
  exact B4 _ 0 0 s.heap [] ls (Nat.lt_succ_self _) (by decide) hP hS (lv_sub hl [2, 1, 0] rfl)

set_option maxRecDepth 100000 in
set_option maxHeartbeats 8000000 in
theorem sX11_beAtFirst (l : Launch) (G : va_G) (cs : Nat → ClassId) (h : Nat) (q : Nat → Nat) (F : Nat → Int32) (A : Nat → Nat → Int32) (D : Int64) (B : Nat → Nat → Int64) (hI : IM F A) : ImpW l yX11_beAtFirst cX11_beAtFirst 3 2 0 0 G (TY cs) [.ref h] (mS cs h q F A D B) (fun u : Int32 × Int32 × (Nat → Int32) => True) (fun u : Int32 × Int32 × (Nat → Int32) => (mS cs h q (upd (upd F 17 u.1) 18 u.2.1) (vA A 15 u.2.2) D B)) := by
  refine mkD (Qc := (QDw G (fun u : Int32 × Int32 × (Nat → Int32) => True) (fun u : Int32 × Int32 × (Nat → Int32) => (mS cs h q (upd (upd F 17 u.1) 18 u.2.1) (vA A 15 u.2.2) D B)))) (by decide) (by simp [lg_sl, Value.category]) ?_
  intro p e s m args below meth c ls A0 hx hb hml hr hlk hown hmn ht hK hP hD hS hA hl
  have hl : lv_has ls 3 [(0, .ref h)] := hl
  refine lv_aload_n hx hb dX11_beAtFirst_0 rfl (lv_at hl 0 rfl) ?_
  refine behR (runVP (As := []) (rest := []) ⟨hx, hb, hml, hown, ht⟩ (sX11_allSits l G cs h q F A D B hI  ) okV_RX11_242 ⟨by decide, by decide⟩ hK hP [0, 1, 2, 3, 4, 5, 6, 7, 8, 9, 10, 11, 12, 13, 14, 15, 16, 17, 18, 19] rfl 0 rfl rfl hl.1 rfl (Nat.le_of_ble_eq_true rfl) dX11_beAtFirst_1 ⟨by decide, by decide⟩) hP hS hA (fun r1 H locs hr1 hP hS => ?_)
  refine lv_istore_n (lv' := [(1, .int r1), (0, .ref h)]) hx hb dX11_beAtFirst_4 rfl hl (by decide) rfl (fun ls hl => ?_)
  refine lv_aload_n hx hb dX11_beAtFirst_5 rfl (lv_at hl 1 rfl) ?_
  refine lv_ldc hx hb hown (ht _ ki_RX11_245) dX11_beAtFirst_6 ?_
  refine putD hx hb ht hown hK hP hD hS iTX11 tyX11 tyX11_ok nmX11 0 17 rfl rfl (by decide) fl_RX11_246 rfl rfl rfl (Nat.le_of_ble_eq_true rfl) dX11_beAtFirst_8 (fun H locs hP hD hS => ?_)
  have hP : va_P G vwCl (mS cs h q (upd F 17 1000000) A D B) H := hP
  have hD : va_D A0 (mS cs h q (upd F 17 1000000) A D B) := hD
  refine lv_aload_n hx hb dX11_beAtFirst_11 rfl (lv_at hl 1 rfl) ?_
  refine lv_iconst (v := 0) hx hb dX11_beAtFirst_12 (by decide) ?_
  refine putD hx hb ht hown hK hP hD hS iTX11 tyX11 tyX11_ok nmX11 0 18 rfl rfl (by decide) fl_RX11_249 rfl rfl rfl (Nat.le_of_ble_eq_true rfl) dX11_beAtFirst_13 (fun H locs hP hD hS => ?_)
  have hP : va_P G vwCl (mS cs h q (upd (upd F 17 1000000) 18 0) A D B) H := hP
  have hD : va_D A0 (mS cs h q (upd (upd F 17 1000000) 18 0) A D B) := hD
  refine lv_iconst (v := 0) hx hb dX11_beAtFirst_16 (by decide) ?_
  refine lv_istore_n (lv' := [(2, .int 0), (1, .int r1), (0, .ref h)]) hx hb dX11_beAtFirst_17 rfl hl (by decide) rfl (fun ls hl => ?_)
  have B18 : ∀ (n : Nat) (x18_2 : Int32) (f17_18 : Int32) (f18_18 : Int32) (a15_18 : (Nat → Int32)) (H : Heap) (locs : List Loc) (ls : Array Slot), (7 - x18_2.toInt).toNat < n → (0 : Int) ≤ x18_2.toInt ∧ x18_2.toInt ≤ 7 → va_P G vwCl (mS cs h q (upd (upd F 17 f17_18) 18 f18_18) (vA A 15 a15_18) D B) H → va_D A0 (mS cs h q (upd (upd F 17 f17_18) 18 f18_18) (vA A 15 a15_18) D B) → va_S A0 s.heap H locs → lv_has ls 3 [(0, .ref h), (1, .int r1), (2, .int x18_2)] → W p l e (rmk 2 0 0) s m args below meth c H locs 0 0 (MQ below ((QDw G (fun u : Int32 × Int32 × (Nat → Int32) => True) (fun u : Int32 × Int32 × (Nat → Int32) => (mS cs h q (upd (upd F 17 u.1) 18 u.2.1) (vA A 15 u.2.2) D B))) A0) args s 0 0 A0) (F0 m 18 ls []) := by
    intro n
    induction n with
    | zero => intro x18_2 f17_18 f18_18 a15_18 H locs ls hmeas hx18_2 hP hD hS hl; exact absurd hmeas (Nat.not_lt_zero _)
    | succ n ih18 =>
      intro x18_2 f17_18 f18_18 a15_18 H locs ls hmeas hx18_2 hP hD hS hl
      refine lv_iload_n hx hb dX11_beAtFirst_18 rfl (lv_at hl 2 rfl) ?_
      refine lv_bipush (v := 7) hx hb dX11_beAtFirst_19 (by decide) ?_
      refine lv_icmp_ge (tgt := 88) hx hb dX11_beAtFirst_21 (by decide) (fun c12001 => ?_) (fun c12001 => ?_)
      · have zc12001 := leK (show (7 : Int32).toInt = 7 by decide) rfl c12001
        exact retDw (f17_18, f18_18, a15_18) hx hb hr hlk hP hD hS dX11_beAtFirst_88 (trivial) (Nat.le_of_ble_eq_true rfl) (Nat.le_of_ble_eq_true rfl)
      · have zc12001 := nleK (show (7 : Int32).toInt = 7 by decide) rfl c12001
        refine lv_aload_n hx hb dX11_beAtFirst_24 rfl (lv_at hl 0 rfl) ?_
        refine getF (v := .ref (q 15)) hx hb ht hown hK hP iTX11 0 15 rfl rfl (by decide) fl_RX11_34 rfl dX11_beAtFirst_25 ?_
        refine lv_iload_n hx hb dX11_beAtFirst_28 rfl (lv_at hl 2 rfl) ?_
        refine lv_iload_n hx hb dX11_beAtFirst_29 rfl (lv_at hl 2 rfl) ?_
        refine lv_aload_n hx hb dX11_beAtFirst_30 rfl (lv_at hl 0 rfl) ?_
        refine getF (v := .ref (q 1)) hx hb ht hown hK hP iTX11 0 1 rfl rfl (by decide) fl_RX11_9 rfl dX11_beAtFirst_31 ?_
        refine lv_iconst (v := 4) hx hb dX11_beAtFirst_34 (by decide) ?_
        refine va_iald hx hb hK.1 hP 1 0 rfl rfl (show ¬ (_ ∨ _) by decide) dX11_beAtFirst_35 ?_
        refine W.eq (g2 := F0 m 36 ls [.int (A 1 4), .int x18_2, .int x18_2, .ref (q 15)]) rfl ?_
        have zf12002 : (0 : Int) ≤ (A 1 4).toInt ∧ (A 1 4).toInt ≤ 7 := (hI.2 1 4)
        have B66 : ∀ (s66_0 : Int32) (s66_1 : Int32) (f17_66 : Int32) (f18_66 : Int32) (a15_66 : (Nat → Int32)) (H : Heap) (locs : List Loc) (ls : Array Slot), (0 : Int) ≤ s66_1.toInt ∧ s66_1.toInt ≤ 6 → va_P G vwCl (mS cs h q (upd (upd F 17 f17_66) 18 f18_66) (vA A 15 a15_66) D B) H → va_D A0 (mS cs h q (upd (upd F 17 f17_66) 18 f18_66) (vA A 15 a15_66) D B) → va_S A0 s.heap H locs → lv_has ls 3 [(0, .ref h), (1, .int r1), (2, .int x18_2)] → W p l e (rmk 2 0 0) s m args below meth c H locs 0 0 (MQ below ((QDw G (fun u : Int32 × Int32 × (Nat → Int32) => True) (fun u : Int32 × Int32 × (Nat → Int32) => (mS cs h q (upd (upd F 17 u.1) 18 u.2.1) (vA A 15 u.2.2) D B))) A0) args s 0 0 A0) (F0 m 66 ls [.int s66_0, .int s66_1, .ref (q 15)]) := by
          intro s66_0 s66_1 f17_66 f18_66 a15_66 H locs ls hs66_1 hP hD hS hl
          refine va_iast hx hb hK.1 hP hD hS 7 0 rfl rfl (inK rfl (by omega) (by decide)) dX11_beAtFirst_66 (fun H locs hP hD hS => ?_)
          obtain ⟨g41001, hP, hD⟩ : ∃ g41001 : Nat → Int32, va_P G vwCl (mS cs h q (upd (upd F 17 f17_66) 18 f18_66) (vA A 15 g41001) D B) H ∧ va_D A0 (mS cs h q (upd (upd F 17 f17_66) 18 f18_66) (vA A 15 g41001) D B) := ⟨upd a15_66 s66_1.toNatClampNeg s66_0, hP, hD⟩
          refine lv_aload_n hx hb dX11_beAtFirst_67 rfl (lv_at hl 0 rfl) ?_
          refine lv_dup hx hb dX11_beAtFirst_68 rfl ?_
          refine getF (v := .int f17_66) hx hb ht hown hK hP iTX11 0 17 rfl rfl (by decide) fl_RX11_246 rfl dX11_beAtFirst_69 ?_
          refine lv_aload_n hx hb dX11_beAtFirst_72 rfl (lv_at hl 0 rfl) ?_
          refine getF (v := .ref (q 15)) hx hb ht hown hK hP iTX11 0 15 rfl rfl (by decide) fl_RX11_34 rfl dX11_beAtFirst_73 ?_
          refine lv_iload_n hx hb dX11_beAtFirst_76 rfl (lv_at hl 2 rfl) ?_
          refine va_iald hx hb hK.1 hP 7 0 rfl rfl (inK rfl (by omega) (by decide)) dX11_beAtFirst_77 ?_
          refine lv_topi (fun v41002 ev41002 => ?_)
          refine lv_isub hx hb dX11_beAtFirst_78 ?_
          refine lv_topi (fun v41003 ev41003 => ?_)
          refine putD hx hb ht hown hK hP hD hS iTX11 tyX11 tyX11_ok nmX11 0 17 rfl rfl (by decide) fl_RX11_246 rfl rfl rfl (Nat.le_of_ble_eq_true rfl) dX11_beAtFirst_79 (fun H locs hP hD hS => ?_)
          have hP : va_P G vwCl (mS cs h q (upd (upd F 17 v41003) 18 f18_66) (vA A 15 g41001) D B) H := hP
          have hD : va_D A0 (mS cs h q (upd (upd F 17 v41003) 18 f18_66) (vA A 15 g41001) D B) := hD
          obtain ⟨v41004, ev41004⟩ : ∃ z : Int32, z = x18_2 + 1 := ⟨_, rfl⟩
          have tv41004 : v41004.toInt = x18_2.toInt + 1 := by rw [ev41004]; exact addT rfl (by decide) (by omega)
          refine lv_iinc (v := v41004) (lv' := [(2, .int v41004), (0, .ref h), (1, .int r1)]) hx hb dX11_beAtFirst_82 hl (k := 2) rfl (by rw [ev41004]; rfl) (by decide) rfl (fun ls hl => ?_)
          refine lv_goto (tgt := 18) hx hb dX11_beAtFirst_85 (by decide) ?_
          exact ih18 v41004 v41003 f18_66 g41001 H locs ls (by omega) (by omega) hP hD hS (lv_sub hl [1, 2, 0] rfl)
        have B65 : ∀ (s65_0 : Int32) (f17_65 : Int32) (f18_65 : Int32) (a15_65 : (Nat → Int32)) (H : Heap) (locs : List Loc) (ls : Array Slot), (0 : Int) ≤ s65_0.toInt ∧ s65_0.toInt ≤ 6 → va_P G vwCl (mS cs h q (upd (upd F 17 f17_65) 18 f18_65) (vA A 15 a15_65) D B) H → va_D A0 (mS cs h q (upd (upd F 17 f17_65) 18 f18_65) (vA A 15 a15_65) D B) → va_S A0 s.heap H locs → lv_has ls 3 [(0, .ref h), (1, .int r1), (2, .int x18_2)] → W p l e (rmk 2 0 0) s m args below meth c H locs 0 0 (MQ below ((QDw G (fun u : Int32 × Int32 × (Nat → Int32) => True) (fun u : Int32 × Int32 × (Nat → Int32) => (mS cs h q (upd (upd F 17 u.1) 18 u.2.1) (vA A 15 u.2.2) D B))) A0) args s 0 0 A0) (F0 m 65 ls [.int s65_0, .ref (q 15)]) := by
          intro s65_0 f17_65 f18_65 a15_65 H locs ls hs65_0 hP hD hS hl
          refine lv_iconst (v := 0) hx hb dX11_beAtFirst_65 (by decide) ?_
          exact B66 0 s65_0 f17_65 f18_65 a15_65 H locs ls (by omega) hP hD hS (lv_sub hl [0, 1, 2] rfl)
        refine lv_icmp_ge (tgt := 65) hx hb dX11_beAtFirst_36 (by decide) (fun c12003 => ?_) (fun c12003 => ?_)
        · have zc12003 := leK rfl rfl c12003
          exact B65 x18_2 f17_18 f18_18 a15_18 H locs ls (by omega) hP hD hS (lv_sub hl [0, 1, 2] rfl)
        · have zc12003 := nleK rfl rfl c12003
          refine lv_iload_n hx hb dX11_beAtFirst_39 rfl (lv_at hl 1 rfl) ?_
          refine lv_if_le (tgt := 65) hx hb dX11_beAtFirst_40 (by decide) (fun c12004 => ?_) (fun c12004 => ?_)
          · have zc12004 := leK rfl (show (0 : Int32).toInt = 0 by decide) c12004
            exact B65 x18_2 f17_18 f18_18 a15_18 H locs ls (by omega) hP hD hS (lv_sub hl [0, 1, 2] rfl)
          · have zc12004 := nleK rfl (show (0 : Int32).toInt = 0 by decide) c12004
            refine lv_aload_n hx hb dX11_beAtFirst_43 rfl (lv_at hl 0 rfl) ?_
            refine getF (v := .ref (q 1)) hx hb ht hown hK hP iTX11 0 1 rfl rfl (by decide) fl_RX11_9 rfl dX11_beAtFirst_44 ?_
            refine lv_iconst (v := 1) hx hb dX11_beAtFirst_47 (by decide) ?_
            refine va_iald hx hb hK.1 hP 1 0 rfl rfl (show ¬ (_ ∨ _) by decide) dX11_beAtFirst_48 ?_
            refine W.eq (g2 := F0 m 49 ls [.int (A 1 1), .int x18_2, .ref (q 15)]) rfl ?_
            refine lv_sipush (v := 10000) hx hb dX11_beAtFirst_49 (by decide) ?_
            refine lv_imul hx hb dX11_beAtFirst_52 ?_
            refine lv_topi (fun v12005 ev12005 => ?_)
            refine lv_aload_n hx hb dX11_beAtFirst_53 rfl (lv_at hl 0 rfl) ?_
            refine lv_iload_n hx hb dX11_beAtFirst_54 rfl (lv_at hl 2 rfl) ?_
            refine lv_iconst (v := 2) hx hb dX11_beAtFirst_55 (by decide) ?_
            refine behR (runVP (As := [.int x18_2, .int 2]) (rest := [.int v12005, .int x18_2, .ref (q 15)]) ⟨hx, hb, hml, hown, ht⟩ (sX11_of l G cs h q (upd (upd F 17 f17_18) 18 f18_18) (vA A 15 a15_18) D B (IM_arr (k := 15) (IM_put (k := 18) (IM_put (k := 17) hI (i32b _)) (i32b _)) (fun _ => i32b _)) x18_2 2 (by omega) (by decide)) okV_RX11_227 ⟨by decide, by decide⟩ hK hP [0, 1, 2, 3, 4, 5, 6, 7, 8, 9, 10, 11, 12, 13, 14, 15, 16, 17, 18, 19] rfl 0 rfl rfl hl.1 rfl (Nat.le_of_ble_eq_true rfl) dX11_beAtFirst_56 ⟨by decide, by decide⟩) hP hS hA (fun r12006 H locs hr12006 hP hS => ?_)
            have kk12007 : (2 : Int32).toInt = 2 := by decide
            have hr12006 : (0 : Int) ≤ r12006.toInt ∧ r12006.toInt ≤ 999 ∧ ((2 : Int32).toInt = 3 → r12006.toInt ≤ 127) ∧ ((2 : Int32).toInt = 2 → r12006.toInt ≤ 99) := hr12006
            refine lv_imul hx hb dX11_beAtFirst_59 ?_
            refine lv_topi (fun v12008 ev12008 => ?_)
            refine lv_iload_n hx hb dX11_beAtFirst_60 rfl (lv_at hl 1 rfl) ?_
            refine lv_idiv hx hb dX11_beAtFirst_61 (n0K rfl (by omega)) ?_
            refine lv_topi (fun v12009 ev12009 => ?_)
            refine lv_goto (tgt := 66) hx hb dX11_beAtFirst_62 (by decide) ?_
            exact B66 v12009 x18_2 f17_18 f18_18 a15_18 H locs ls (by omega) hP hD hS (lv_sub hl [0, 1, 2] rfl)
  exact B18 _ 0 1000000 0 (A 15) H locs ls (Nat.lt_succ_self _) (by decide) hP hD hS (lv_sub hl [2, 1, 0] rfl)

set_option maxRecDepth 100000 in
set_option maxHeartbeats 8000000 in
theorem sX11_wouldFind (l : Launch) (G : va_G) (cs : Nat → ClassId) (h : Nat) (q : Nat → Nat) (F : Nat → Int32) (A : Nat → Nat → Int32) (D : Int64) (B : Nat → Nat → Int64) (hI : IM F A) (a1 : Int32) (a2 : Int32) (ha1 : (0 : Int) ≤ a1.toInt ∧ a1.toInt ≤ 6) (ha2 : (0 : Int) ≤ a2.toInt ∧ a2.toInt ≤ 9) : SafeR l yX11_wouldFind cX11_wouldFind 3 (some .int) 2 G (TY cs) [.ref h, .int a1, .int a2] (mS cs h q F A D B) (fun r : Int32 => True) := by
  refine mkP (Qc := QRi (fun r : Int32 => True)) (by decide) (by simp [lg_sl, Value.category]) ?_
  intro p e s m args below meth c ls hx hb hml hr hlk hown ht hK hP hS hl
  have hl : lv_has ls 3 [(0, .ref h), (1, .int a1), (2, .int a2)] := hl
  refine lv_aload_n hx hb dX11_wouldFind_0 rfl (lv_at hl 0 rfl) ?_
  refine getF (v := .ref (q 15)) hx hb ht hown hK hP iTX11 0 15 rfl rfl (by decide) fl_RX11_34 rfl dX11_wouldFind_1 ?_
  refine lv_iload_n hx hb dX11_wouldFind_4 rfl (lv_at hl 1 rfl) ?_
  refine va_iald hx hb hK.1 hP 7 0 rfl rfl (inK rfl (by omega) (by decide)) dX11_wouldFind_5 ?_
  refine lv_topi (fun v1 ev1 => ?_)
  refine lv_aload_n hx hb dX11_wouldFind_6 rfl (lv_at hl 0 rfl) ?_
  refine lv_iload_n hx hb dX11_wouldFind_7 rfl (lv_at hl 1 rfl) ?_
  refine lv_iload_n hx hb dX11_wouldFind_8 rfl (lv_at hl 2 rfl) ?_
  refine behR (runVP (As := [.int a1, .int a2]) (rest := [.int v1]) ⟨hx, hb, hml, hown, ht⟩ (sX11_hearsBy l G cs h q F A D B hI a1 a2 (by omega) (by omega)) okV_RX11_239 ⟨by decide, by decide⟩ hK hP [0, 1, 2, 3, 4, 5, 6, 7, 8, 9, 10, 11, 12, 13, 14, 15, 16, 17, 18, 19] rfl 0 rfl rfl hl.1 rfl (Nat.le_of_ble_eq_true rfl) dX11_wouldFind_9 ⟨by decide, by decide⟩) hP hS (fun _ h => h) (fun r2 H locs hr2 hP hS => ?_)
  refine lv_imul hx hb dX11_wouldFind_12 ?_
  refine lv_topi (fun v3 ev3 => ?_)
  refine lv_bipush (v := 100) hx hb dX11_wouldFind_13 (by decide) ?_
  refine lv_idiv hx hb dX11_wouldFind_15 (by decide) ?_
  refine lv_topi (fun v4 ev4 => ?_)
  exact retRi hx hb hr hlk hS dX11_wouldFind_16 (trivial)

