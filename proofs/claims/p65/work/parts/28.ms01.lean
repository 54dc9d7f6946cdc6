set_option maxRecDepth 100000 in
set_option maxHeartbeats 8000000 in
theorem sX11_isMan (l : Launch) (G : va_G) (cs : Nat → ClassId) (h : Nat) (q : Nat → Nat) (F : Nat → Int32) (A : Nat → Nat → Int32) (D : Int64) (B : Nat → Nat → Int64) (hI : IM F A) (a1 : Int32) : SafeR l yX11_isMan cX11_isMan 2 (some .boolean) 1 G (TY cs) [.ref h, .int a1] (mS cs h q F A D B) (fun r : Int32 => (r.toInt = 1 ∧ 0 ≤ a1.toInt ∧ a1.toInt < (A 1 5).toInt ∧ a1.toInt ≤ 5 ∧ (A 1 5).toInt ≤ 6) ∨ r.toInt = 0) := by
  refine mkP (Qc := QRi (fun r : Int32 => (r.toInt = 1 ∧ 0 ≤ a1.toInt ∧ a1.toInt < (A 1 5).toInt ∧ a1.toInt ≤ 5 ∧ (A 1 5).toInt ≤ 6) ∨ r.toInt = 0)) (by decide) (by simp [lg_sl, Value.category]) ?_
  intro p e s m args below meth c ls hx hb hml hr hlk hown ht hK hP hS hl
  have hl : lv_has ls 2 [(0, .ref h), (1, .int a1)] := hl
  refine lv_iload_n hx hb dX11_isMan_0 rfl (lv_at hl 1 rfl) ?_
  refine lv_i2l hx hb dX11_isMan_1 rfl ?_
  have bb1 := i32b a1
  refine lv_topl (fun v2 ev2 => ?_)
  have tv2 : v2.toInt = a1.toInt := by rw [ev2]; exact Int32.toInt_toInt64 _
  refine lv_lconst (v := 0) hx hb dX11_isMan_2 (by decide) ?_
  refine lv_aload_n hx hb dX11_isMan_3 rfl (lv_at hl 0 rfl) ?_
  refine getF (v := .ref (q 1)) hx hb ht hown hK hP iTX11 0 1 rfl rfl (by decide) fl_RX11_9 rfl dX11_isMan_4 ?_
  refine lv_iconst (v := 5) hx hb dX11_isMan_7 (by decide) ?_
  refine va_iald hx hb hK.1 hP 1 0 rfl rfl (show ¬ (_ ∨ _) by decide) dX11_isMan_8 ?_
  refine W.eq (g2 := F0 m 9 ls [.int (A 1 5), .long 0, .long v2]) rfl ?_
  have zf3 : (0 : Int) ≤ (A 1 5).toInt ∧ (A 1 5).toInt ≤ 6 := (hI.2 1 5)
  refine lv_iconst (v := 1) hx hb dX11_isMan_9 (by decide) ?_
  refine lv_isub hx hb dX11_isMan_10 ?_
  refine lv_topi (fun v4 ev4 => ?_)
  have tv4 : v4.toInt = (A 1 5).toInt - 1 := by rw [ev4]; exact subT rfl (show (1 : Int32).toInt = 1 by decide) (by omega)
  refine lv_i2l hx hb dX11_isMan_11 rfl ?_
  refine lv_topl (fun v5 ev5 => ?_)
  have tv5 : v5.toInt = v4.toInt := by rw [ev5]; exact Int32.toInt_toInt64 _
  refine behR (runSP (As := [.long v2, .long 0, .long v5]) (rest := []) ⟨hx, hb, hml, hown, ht⟩ (sX11_in l G cs v2 0 v5 ) okS_RX11_79 ⟨by decide, by decide⟩ hK hP [] rfl hl.1 rfl (Nat.le_of_ble_eq_true rfl) dX11_isMan_12 ⟨by decide, by decide⟩) hP hS (fun _ h => h) (fun r6 H locs hr6 hP hS => ?_)
  have kk7 : (0 : Int64).toInt = 0 := by decide
  have hr6 : (r6.toInt = 1 ∧ (0 : Int64).toInt ≤ v2.toInt ∧ v2.toInt ≤ v5.toInt) ∨ (r6.toInt = 0 ∧ (v2.toInt < (0 : Int64).toInt ∨ v5.toInt < v2.toInt)) := hr6
  exact retRz hx hb hr hlk hS dX11_isMan_15 (narZ (by omega)) (show (r6.toInt = 1 ∧ 0 ≤ a1.toInt ∧ a1.toInt < (A 1 5).toInt ∧ a1.toInt ≤ 5 ∧ (A 1 5).toInt ≤ 6) ∨ r6.toInt = 0 by omega)

set_option maxRecDepth 100000 in
set_option maxHeartbeats 8000000 in
theorem sX11_areMen (l : Launch) (G : va_G) (cs : Nat → ClassId) (h : Nat) (q : Nat → Nat) (F : Nat → Int32) (A : Nat → Nat → Int32) (D : Int64) (B : Nat → Nat → Int64) (hI : IM F A) (a1 : Int32) : SafeR l yX11_areMen cX11_areMen 2 (some .boolean) 1 G (TY cs) [.ref h, .int a1] (mS cs h q F A D B) (fun r : Int32 => (r.toInt = 1 ∧ 1 ≤ a1.toInt ∧ a1.toInt ≤ 63 ∧ a1.toInt < P2 ((A 1) 5).toInt) ∨ r.toInt = 0) := by
  refine mkP (Qc := QRi (fun r : Int32 => (r.toInt = 1 ∧ 1 ≤ a1.toInt ∧ a1.toInt ≤ 63 ∧ a1.toInt < P2 ((A 1) 5).toInt) ∨ r.toInt = 0)) (by decide) (by simp [lg_sl, Value.category]) ?_
  intro p e s m args below meth c ls hx hb hml hr hlk hown ht hK hP hS hl
  have hl : lv_has ls 2 [(0, .ref h), (1, .int a1)] := hl
  refine lv_aload_n hx hb dX11_areMen_0 rfl (lv_at hl 0 rfl) ?_
  refine behR (runVP (As := []) (rest := []) ⟨hx, hb, hml, hown, ht⟩ (sX11_isHouse l G cs h q F A D B hI  ) okV_RX11_83 ⟨by decide, by decide⟩ hK hP [0, 1, 2, 3, 4, 5, 6, 7, 8, 9, 10, 11, 12, 13, 14, 15, 16, 17, 18, 19] rfl 0 rfl rfl hl.1 rfl (Nat.le_of_ble_eq_true rfl) dX11_areMen_1 ⟨by decide, by decide⟩) hP hS (fun _ h => h) (fun r1 H locs hr1 hP hS => ?_)
  have hr1 : (0 : Int) ≤ r1.toInt ∧ r1.toInt ≤ 1 := hr1
  refine lv_if_eq (tgt := 31) hx hb dX11_areMen_4 (by decide) (fun c2 => ?_) (fun c2 => ?_)
  · have zc2 := eqK rfl (show (0 : Int32).toInt = 0 by decide) c2
    refine lv_iconst (v := 0) hx hb dX11_areMen_31 (by decide) ?_
    exact retRz hx hb hr hlk hS dX11_areMen_32 (rfl) (show ((0 : Int32).toInt = 1 ∧ 1 ≤ a1.toInt ∧ a1.toInt ≤ 63 ∧ a1.toInt < P2 ((A 1) 5).toInt) ∨ (0 : Int32).toInt = 0 by have kk : (0 : Int32).toInt = 0 := (by decide); omega)
  · have zc2 := neK rfl (show (0 : Int32).toInt = 0 by decide) c2
    refine lv_iload_n hx hb dX11_areMen_7 rfl (lv_at hl 1 rfl) ?_
    refine lv_i2l hx hb dX11_areMen_8 rfl ?_
    have bb3 := i32b a1
    refine lv_topl (fun v4 ev4 => ?_)
    have tv4 : v4.toInt = a1.toInt := by rw [ev4]; exact Int32.toInt_toInt64 _
    refine lv_lconst (v := 1) hx hb dX11_areMen_9 (by decide) ?_
    refine lv_iconst (v := 1) hx hb dX11_areMen_10 (by decide) ?_
    refine lv_aload_n hx hb dX11_areMen_11 rfl (lv_at hl 0 rfl) ?_
    refine getF (v := .ref (q 1)) hx hb ht hown hK hP iTX11 0 1 rfl rfl (by decide) fl_RX11_9 rfl dX11_areMen_12 ?_
    refine lv_iconst (v := 5) hx hb dX11_areMen_15 (by decide) ?_
    refine va_iald hx hb hK.1 hP 1 0 rfl rfl (show ¬ (_ ∨ _) by decide) dX11_areMen_16 ?_
    refine W.eq (g2 := F0 m 17 ls [.int (A 1 5), .int 1, .long 1, .long v4]) rfl ?_
    have zf5 : (0 : Int) ≤ (A 1 5).toInt ∧ (A 1 5).toInt ≤ 6 := (hI.2 1 5)
    refine lv_ishl hx hb dX11_areMen_17 ?_
    refine lv_topi (fun v6 ev6 => ?_)
    have tv6 : (1 : Int) ≤ v6.toInt ∧ v6.toInt ≤ 64 := by rw [ev6]; exact shlT 6 (by decide) rfl (by omega) (by decide)
    have pv6 : v6.toInt = P2 (A 1 5).toInt := by rw [ev6]; exact shlP rfl (by omega)
    refine lv_iconst (v := 1) hx hb dX11_areMen_18 (by decide) ?_
    refine lv_isub hx hb dX11_areMen_19 ?_
    refine lv_topi (fun v7 ev7 => ?_)
    have tv7 : v7.toInt = v6.toInt - 1 := by rw [ev7]; exact subT rfl (show (1 : Int32).toInt = 1 by decide) (by omega)
    refine lv_i2l hx hb dX11_areMen_20 rfl ?_
    refine lv_topl (fun v8 ev8 => ?_)
    have tv8 : v8.toInt = v7.toInt := by rw [ev8]; exact Int32.toInt_toInt64 _
    refine behR (runSP (As := [.long v4, .long 1, .long v8]) (rest := []) ⟨hx, hb, hml, hown, ht⟩ (sX11_in l G cs v4 1 v8 ) okS_RX11_79 ⟨by decide, by decide⟩ hK hP [] rfl hl.1 rfl (Nat.le_of_ble_eq_true rfl) dX11_areMen_21 ⟨by decide, by decide⟩) hP hS (fun _ h => h) (fun r9 H locs hr9 hP hS => ?_)
    have kk10 : (1 : Int64).toInt = 1 := by decide
    have hr9 : (r9.toInt = 1 ∧ (1 : Int64).toInt ≤ v4.toInt ∧ v4.toInt ≤ v8.toInt) ∨ (r9.toInt = 0 ∧ (v4.toInt < (1 : Int64).toInt ∨ v8.toInt < v4.toInt)) := hr9
    refine lv_if_eq (tgt := 31) hx hb dX11_areMen_24 (by decide) (fun c11 => ?_) (fun c11 => ?_)
    · have zc11 := eqK rfl (show (0 : Int32).toInt = 0 by decide) c11
      refine lv_iconst (v := 0) hx hb dX11_areMen_31 (by decide) ?_
      exact retRz hx hb hr hlk hS dX11_areMen_32 (rfl) (show ((0 : Int32).toInt = 1 ∧ 1 ≤ a1.toInt ∧ a1.toInt ≤ 63 ∧ a1.toInt < P2 ((A 1) 5).toInt) ∨ (0 : Int32).toInt = 0 by have kk : (0 : Int32).toInt = 0 := (by decide); omega)
    · have zc11 := neK rfl (show (0 : Int32).toInt = 0 by decide) c11
      refine lv_iconst (v := 1) hx hb dX11_areMen_27 (by decide) ?_
      refine lv_goto (tgt := 32) hx hb dX11_areMen_28 (by decide) ?_
      exact retRz hx hb hr hlk hS dX11_areMen_32 (rfl) (show ((1 : Int32).toInt = 1 ∧ 1 ≤ a1.toInt ∧ a1.toInt ≤ 63 ∧ a1.toInt < P2 ((A 1) 5).toInt) ∨ (1 : Int32).toInt = 0 by have kk : (1 : Int32).toInt = 1 := (by decide); omega)

set_option maxRecDepth 100000 in
set_option maxHeartbeats 8000000 in
theorem sX11_of (l : Launch) (G : va_G) (cs : Nat → ClassId) (h : Nat) (q : Nat → Nat) (F : Nat → Int32) (A : Nat → Nat → Int32) (D : Int64) (B : Nat → Nat → Int64) (hI : IM F A) (a1 : Int32) (a2 : Int32) (ha1 : (0 : Int) ≤ a1.toInt ∧ a1.toInt ≤ 6) (ha2 : (0 : Int) ≤ a2.toInt ∧ a2.toInt ≤ 3) : SafeR l yX11_of cX11_of 3 (some .int) 0 G (TY cs) [.ref h, .int a1, .int a2] (mS cs h q F A D B) (fun r : Int32 => r = (A 1) (8 + 4 * a1.toNatClampNeg + a2.toNatClampNeg) ∧ (0 : Int) ≤ r.toInt ∧ r.toInt ≤ 999 ∧ (a2.toInt = 3 → r.toInt ≤ 127) ∧ (a2.toInt = 2 → r.toInt ≤ 99)) := by
  refine mkP (Qc := QRi (fun r : Int32 => r = (A 1) (8 + 4 * a1.toNatClampNeg + a2.toNatClampNeg) ∧ (0 : Int) ≤ r.toInt ∧ r.toInt ≤ 999 ∧ (a2.toInt = 3 → r.toInt ≤ 127) ∧ (a2.toInt = 2 → r.toInt ≤ 99))) (by decide) (by simp [lg_sl, Value.category]) ?_
  intro p e s m args below meth c ls hx hb hml hr hlk hown ht hK hP hS hl
  have hl : lv_has ls 3 [(0, .ref h), (1, .int a1), (2, .int a2)] := hl
  refine lv_aload_n hx hb dX11_of_0 rfl (lv_at hl 0 rfl) ?_
  refine getF (v := .ref (q 1)) hx hb ht hown hK hP iTX11 0 1 rfl rfl (by decide) fl_RX11_9 rfl dX11_of_1 ?_
  refine lv_bipush (v := 8) hx hb dX11_of_4 (by decide) ?_
  refine lv_iconst (v := 4) hx hb dX11_of_6 (by decide) ?_
  refine lv_iload_n hx hb dX11_of_7 rfl (lv_at hl 1 rfl) ?_
  refine lv_imul hx hb dX11_of_8 ?_
  refine lv_topi (fun v1 ev1 => ?_)
  have tv1 : v1.toInt = 4 * a1.toInt := by rw [ev1]; exact mulT (show (4 : Int32).toInt = 4 by decide) rfl (by omega)
  refine lv_iadd hx hb dX11_of_9 ?_
  refine lv_topi (fun v2 ev2 => ?_)
  have tv2 : v2.toInt = 8 + v1.toInt := by rw [ev2]; exact addT (show (8 : Int32).toInt = 8 by decide) rfl (by omega)
  refine lv_iload_n hx hb dX11_of_10 rfl (lv_at hl 2 rfl) ?_
  refine lv_iadd hx hb dX11_of_11 ?_
  refine lv_topi (fun v3 ev3 => ?_)
  have tv3 : v3.toInt = v2.toInt + a2.toInt := by rw [ev3]; exact addT rfl rfl (by omega)
  refine va_iald hx hb hK.1 hP 1 0 rfl rfl (inK rfl (by omega) (by decide)) dX11_of_12 ?_
  refine lv_topi (fun v4 ev4 => ?_)
  have zl : (0 : Int) ≤ v4.toInt ∧ v4.toInt ≤ 999 ∧ (a2.toInt = 3 → v4.toInt ≤ 127) ∧ (a2.toInt = 2 → v4.toInt ≤ 99) := by rw [ev4]; exact of_fact (r := a1.toInt) hI (by omega) ha1 ha2
  exact retRi hx hb hr hlk hS dX11_of_13 (⟨by rw [ev4]; exact congrArg (A 1) (by have y1 := clK (i := v3) rfl (by omega); have y2 := clK (i := a1) rfl (by omega); have y3 := clK (i := a2) rfl (by omega); omega), zl⟩)

set_option maxRecDepth 100000 in
set_option maxHeartbeats 8000000 in
theorem sX11_ofMan (l : Launch) (G : va_G) (cs : Nat → ClassId) (h : Nat) (q : Nat → Nat) (F : Nat → Int32) (A : Nat → Nat → Int32) (D : Int64) (B : Nat → Nat → Int64) (hI : IM F A) (a1 : Int32) (a2 : Int32) (ha1 : (0 : Int) ≤ a1.toInt ∧ a1.toInt ≤ 5) (ha2 : (0 : Int) ≤ a2.toInt ∧ a2.toInt ≤ 7) : SafeR l yX11_ofMan cX11_ofMan 3 (some .int) 0 G (TY cs) [.ref h, .int a1, .int a2] (mS cs h q F A D B) (fun r : Int32 => r = (A 1) (36 + 8 * a1.toNatClampNeg + a2.toNatClampNeg) ∧ (0 : Int) ≤ r.toInt ∧ r.toInt ≤ 99 ∧ (a2.toInt = 1 → r.toInt ≤ 63) ∧ (2 ≤ a2.toInt → r.toInt ≤ 9)) := by
  refine mkP (Qc := QRi (fun r : Int32 => r = (A 1) (36 + 8 * a1.toNatClampNeg + a2.toNatClampNeg) ∧ (0 : Int) ≤ r.toInt ∧ r.toInt ≤ 99 ∧ (a2.toInt = 1 → r.toInt ≤ 63) ∧ (2 ≤ a2.toInt → r.toInt ≤ 9))) (by decide) (by simp [lg_sl, Value.category]) ?_
  intro p e s m args below meth c ls hx hb hml hr hlk hown ht hK hP hS hl
  have hl : lv_has ls 3 [(0, .ref h), (1, .int a1), (2, .int a2)] := hl
  refine lv_aload_n hx hb dX11_ofMan_0 rfl (lv_at hl 0 rfl) ?_
  refine getF (v := .ref (q 1)) hx hb ht hown hK hP iTX11 0 1 rfl rfl (by decide) fl_RX11_9 rfl dX11_ofMan_1 ?_
  refine lv_bipush (v := 36) hx hb dX11_ofMan_4 (by decide) ?_
  refine lv_bipush (v := 8) hx hb dX11_ofMan_6 (by decide) ?_
  refine lv_iload_n hx hb dX11_ofMan_8 rfl (lv_at hl 1 rfl) ?_
  refine lv_imul hx hb dX11_ofMan_9 ?_
  refine lv_topi (fun v1 ev1 => ?_)
  have tv1 : v1.toInt = 8 * a1.toInt := by rw [ev1]; exact mulT (show (8 : Int32).toInt = 8 by decide) rfl (by omega)
  refine lv_iadd hx hb dX11_ofMan_10 ?_
  refine lv_topi (fun v2 ev2 => ?_)
  have tv2 : v2.toInt = 36 + v1.toInt := by rw [ev2]; exact addT (show (36 : Int32).toInt = 36 by decide) rfl (by omega)
  refine lv_iload_n hx hb dX11_ofMan_11 rfl (lv_at hl 2 rfl) ?_
  refine lv_iadd hx hb dX11_ofMan_12 ?_
  refine lv_topi (fun v3 ev3 => ?_)
  have tv3 : v3.toInt = v2.toInt + a2.toInt := by rw [ev3]; exact addT rfl rfl (by omega)
  refine va_iald hx hb hK.1 hP 1 0 rfl rfl (inK rfl (by omega) (by decide)) dX11_ofMan_13 ?_
  refine lv_topi (fun v4 ev4 => ?_)
  have zl : (0 : Int) ≤ v4.toInt ∧ v4.toInt ≤ 99 ∧ (a2.toInt = 1 → v4.toInt ≤ 63) ∧ (2 ≤ a2.toInt → v4.toInt ≤ 9) := by rw [ev4]; exact om_fact (r := a1.toInt) hI (by omega) ha1 ha2
  exact retRi hx hb hr hlk hS dX11_ofMan_14 (⟨by rw [ev4]; exact congrArg (A 1) (by have y1 := clK (i := v3) rfl (by omega); have y2 := clK (i := a1) rfl (by omega); have y3 := clK (i := a2) rfl (by omega); omega), zl⟩)

set_option maxRecDepth 100000 in
set_option maxHeartbeats 8000000 in
theorem sX11_allRooms (l : Launch) (G : va_G) (cs : Nat → ClassId) (h : Nat) (q : Nat → Nat) (F : Nat → Int32) (A : Nat → Nat → Int32) (D : Int64) (B : Nat → Nat → Int64) (hI : IM F A) : SafeR l yX11_allRooms cX11_allRooms 1 (some .int) 0 G (TY cs) [.ref h] (mS cs h q F A D B) (fun r : Int32 => (0 : Int) ≤ r.toInt ∧ r.toInt ≤ 127) := by
  refine mkP (Qc := QRi (fun r : Int32 => (0 : Int) ≤ r.toInt ∧ r.toInt ≤ 127)) (by decide) (by simp [lg_sl, Value.category]) ?_
  intro p e s m args below meth c ls hx hb hml hr hlk hown ht hK hP hS hl
  have hl : lv_has ls 1 [(0, .ref h)] := hl
  refine lv_iconst (v := 1) hx hb dX11_allRooms_0 (by decide) ?_
  refine lv_aload_n hx hb dX11_allRooms_1 rfl (lv_at hl 0 rfl) ?_
  refine getF (v := .ref (q 1)) hx hb ht hown hK hP iTX11 0 1 rfl rfl (by decide) fl_RX11_9 rfl dX11_allRooms_2 ?_
  refine lv_iconst (v := 4) hx hb dX11_allRooms_5 (by decide) ?_
  refine va_iald hx hb hK.1 hP 1 0 rfl rfl (show ¬ (_ ∨ _) by decide) dX11_allRooms_6 ?_
  refine W.eq (g2 := F0 m 7 ls [.int (A 1 4), .int 1]) rfl ?_
  have zf1 : (0 : Int) ≤ (A 1 4).toInt ∧ (A 1 4).toInt ≤ 7 := (hI.2 1 4)
  refine lv_ishl hx hb dX11_allRooms_7 ?_
  refine lv_topi (fun v2 ev2 => ?_)
  have tv2 : (1 : Int) ≤ v2.toInt ∧ v2.toInt ≤ 128 := by rw [ev2]; exact shlT 7 (by decide) rfl (by omega) (by decide)
  have pv2 : v2.toInt = P2 (A 1 4).toInt := by rw [ev2]; exact shlP rfl (by omega)
  refine lv_iconst (v := 1) hx hb dX11_allRooms_8 (by decide) ?_
  refine lv_isub hx hb dX11_allRooms_9 ?_
  refine lv_topi (fun v3 ev3 => ?_)
  have tv3 : v3.toInt = v2.toInt - 1 := by rw [ev3]; exact subT rfl (show (1 : Int32).toInt = 1 by decide) (by omega)
  exact retRi hx hb hr hlk hS dX11_allRooms_10 (show (0 : Int) ≤ v3.toInt ∧ v3.toInt ≤ 127 by omega)

set_option maxRecDepth 100000 in
set_option maxHeartbeats 8000000 in
theorem sX11_feed (l : Launch) (G : va_G) (cs : Nat → ClassId) (h : Nat) (q : Nat → Nat) (F : Nat → Int32) (A : Nat → Nat → Int32) (D : Int64) (B : Nat → Nat → Int64) (hI : IM F A) (a1 : Int32) (a2 : Int32) (a3 : Int32) (a4 : Int32) (a5 : Int32) : ImpI l yX11_feed cX11_feed 7 (some .int) 0 0 0 G (TY cs) [.ref h, .int a1, .int a2, .int a3, .int a4, .int a5] (mS cs h q F A D B) (fun (r : Int32) (u : Int32 × (Nat → Int32) × (Nat → Int32)) => ((0 : Int) ≤ u.1.toInt ∧ u.1.toInt ≤ 900) ∧ (True)) (fun u : Int32 × (Nat → Int32) × (Nat → Int32) => (mS cs h q (upd F 5 u.1) (vA (vA A 4 u.2.1) 6 u.2.2) D B)) := by
  refine mkD (Qc := (QDi G (fun (r : Int32) (u : Int32 × (Nat → Int32) × (Nat → Int32)) => ((0 : Int) ≤ u.1.toInt ∧ u.1.toInt ≤ 900) ∧ (True)) (fun u : Int32 × (Nat → Int32) × (Nat → Int32) => (mS cs h q (upd F 5 u.1) (vA (vA A 4 u.2.1) 6 u.2.2) D B)))) (by decide) (by simp [lg_sl, Value.category]) ?_
  intro p e s m args below meth c ls A0 hx hb hml hr hlk hown hmn ht hK hP hD hS hA hl
  have hl : lv_has ls 7 [(0, .ref h), (1, .int a1), (2, .int a2), (3, .int a3), (4, .int a4), (5, .int a5)] := hl
  refine lv_aload_n hx hb dX11_feed_0 rfl (lv_at hl 0 rfl) ?_
  refine getF (v := .int (F 5)) hx hb ht hown hK hP iTX11 0 5 rfl rfl (by decide) fl_RX11_93 rfl dX11_feed_1 ?_
  have zf1 : (0 : Int) ≤ (F 5).toInt ∧ (F 5).toInt ≤ 900 := hI.1 5
  refine lv_bipush (v := 20) hx hb dX11_feed_4 (by decide) ?_
  refine lv_iadd hx hb dX11_feed_6 ?_
  refine lv_topi (fun v2 ev2 => ?_)
  have tv2 : v2.toInt = (F 5).toInt + 20 := by rw [ev2]; exact addT rfl (show (20 : Int32).toInt = 20 by decide) (by omega)
  refine lv_sipush (v := 900) hx hb dX11_feed_7 (by decide) ?_
  refine lv_icmp_le (tgt := 15) hx hb dX11_feed_10 (by decide) (fun c3 => ?_) (fun c3 => ?_)
  · have zc3 := leK rfl (show (900 : Int32).toInt = 900 by decide) c3
    refine lv_aload_n hx hb dX11_feed_15 rfl (lv_at hl 0 rfl) ?_
    refine getF (v := .ref (q 6)) hx hb ht hown hK hP iTX11 0 6 rfl rfl (by decide) fl_RX11_24 rfl dX11_feed_16 ?_
    refine lv_iconst (v := 0) hx hb dX11_feed_19 (by decide) ?_
    refine lv_iload_n hx hb dX11_feed_20 rfl (lv_at hl 1 rfl) ?_
    refine va_iast hx hb hK.1 hP hD hS 5 0 rfl rfl (show ¬ (_ ∨ _) by decide) dX11_feed_21 (fun H locs hP hD hS => ?_)
    obtain ⟨g4, hP, hD⟩ : ∃ g4 : Nat → Int32, va_P G vwCl (mS cs h q F (vA A 6 g4) D B) H ∧ va_D A0 (mS cs h q F (vA A 6 g4) D B) := ⟨upd (A 6) (0 : Int32).toNatClampNeg a1, hP, hD⟩
    refine lv_aload_n hx hb dX11_feed_22 rfl (lv_at hl 0 rfl) ?_
    refine getF (v := .ref (q 6)) hx hb ht hown hK hP iTX11 0 6 rfl rfl (by decide) fl_RX11_24 rfl dX11_feed_23 ?_
    refine lv_iconst (v := 1) hx hb dX11_feed_26 (by decide) ?_
    refine lv_iload_n hx hb dX11_feed_27 rfl (lv_at hl 2 rfl) ?_
    refine va_iast hx hb hK.1 hP hD hS 5 0 rfl rfl (show ¬ (_ ∨ _) by decide) dX11_feed_28 (fun H locs hP hD hS => ?_)
    obtain ⟨g5, hP, hD⟩ : ∃ g5 : Nat → Int32, va_P G vwCl (mS cs h q F (vA A 6 g5) D B) H ∧ va_D A0 (mS cs h q F (vA A 6 g5) D B) := ⟨upd g4 (1 : Int32).toNatClampNeg a2, hP, hD⟩
    refine lv_aload_n hx hb dX11_feed_29 rfl (lv_at hl 0 rfl) ?_
    refine getF (v := .ref (q 6)) hx hb ht hown hK hP iTX11 0 6 rfl rfl (by decide) fl_RX11_24 rfl dX11_feed_30 ?_
    refine lv_iconst (v := 2) hx hb dX11_feed_33 (by decide) ?_
    refine lv_iload_n hx hb dX11_feed_34 rfl (lv_at hl 3 rfl) ?_
    refine va_iast hx hb hK.1 hP hD hS 5 0 rfl rfl (show ¬ (_ ∨ _) by decide) dX11_feed_35 (fun H locs hP hD hS => ?_)
    obtain ⟨g6, hP, hD⟩ : ∃ g6 : Nat → Int32, va_P G vwCl (mS cs h q F (vA A 6 g6) D B) H ∧ va_D A0 (mS cs h q F (vA A 6 g6) D B) := ⟨upd g5 (2 : Int32).toNatClampNeg a3, hP, hD⟩
    refine lv_aload_n hx hb dX11_feed_36 rfl (lv_at hl 0 rfl) ?_
    refine getF (v := .ref (q 6)) hx hb ht hown hK hP iTX11 0 6 rfl rfl (by decide) fl_RX11_24 rfl dX11_feed_37 ?_
    refine lv_iconst (v := 3) hx hb dX11_feed_40 (by decide) ?_
    refine lv_iload hx hb dX11_feed_41 (lv_at hl 4 rfl) ?_
    refine va_iast hx hb hK.1 hP hD hS 5 0 rfl rfl (show ¬ (_ ∨ _) by decide) dX11_feed_43 (fun H locs hP hD hS => ?_)
    obtain ⟨g7, hP, hD⟩ : ∃ g7 : Nat → Int32, va_P G vwCl (mS cs h q F (vA A 6 g7) D B) H ∧ va_D A0 (mS cs h q F (vA A 6 g7) D B) := ⟨upd g6 (3 : Int32).toNatClampNeg a4, hP, hD⟩
    refine lv_aload_n hx hb dX11_feed_44 rfl (lv_at hl 0 rfl) ?_
    refine getF (v := .ref (q 6)) hx hb ht hown hK hP iTX11 0 6 rfl rfl (by decide) fl_RX11_24 rfl dX11_feed_45 ?_
    refine lv_iconst (v := 4) hx hb dX11_feed_48 (by decide) ?_
    refine lv_iload hx hb dX11_feed_49 (lv_at hl 5 rfl) ?_
    refine va_iast hx hb hK.1 hP hD hS 5 0 rfl rfl (show ¬ (_ ∨ _) by decide) dX11_feed_51 (fun H locs hP hD hS => ?_)
    obtain ⟨g8, hP, hD⟩ : ∃ g8 : Nat → Int32, va_P G vwCl (mS cs h q F (vA A 6 g8) D B) H ∧ va_D A0 (mS cs h q F (vA A 6 g8) D B) := ⟨upd g7 (4 : Int32).toNatClampNeg a5, hP, hD⟩
    refine lv_iconst (v := 0) hx hb dX11_feed_52 (by decide) ?_
    refine lv_istore (lv' := [(6, .int 0), (0, .ref h), (1, .int a1), (2, .int a2), (3, .int a3), (4, .int a4), (5, .int a5)]) hx hb dX11_feed_53 hl (by decide) rfl (fun ls hl => ?_)
    have B55 : ∀ (n : Nat) (x55_6 : Int32) (a4_55 : (Nat → Int32)) (H : Heap) (locs : List Loc) (ls : Array Slot), (20 - x55_6.toInt).toNat < n → (0 : Int) ≤ x55_6.toInt ∧ x55_6.toInt ≤ 20 → va_P G vwCl (mS cs h q F (vA (vA A 4 a4_55) 6 g8) D B) H → va_D A0 (mS cs h q F (vA (vA A 4 a4_55) 6 g8) D B) → va_S A0 s.heap H locs → lv_has ls 7 [(0, .ref h), (6, .int x55_6)] → W p l e (rmk 0 0 0) s m args below meth c H locs 0 0 (MQ below ((QDi G (fun (r : Int32) (u : Int32 × (Nat → Int32) × (Nat → Int32)) => ((0 : Int) ≤ u.1.toInt ∧ u.1.toInt ≤ 900) ∧ (True)) (fun u : Int32 × (Nat → Int32) × (Nat → Int32) => (mS cs h q (upd F 5 u.1) (vA (vA A 4 u.2.1) 6 u.2.2) D B))) A0) args s 0 0 A0) (F0 m 55 ls []) := by
      intro n
      induction n with
      | zero => intro x55_6 a4_55 H locs ls hmeas hx55_6 hP hD hS hl; exact absurd hmeas (Nat.not_lt_zero _)
      | succ n ih55 =>
        intro x55_6 a4_55 H locs ls hmeas hx55_6 hP hD hS hl
        refine lv_iload hx hb dX11_feed_55 (lv_at hl 1 rfl) ?_
        refine lv_bipush (v := 20) hx hb dX11_feed_57 (by decide) ?_
        refine lv_icmp_ge (tgt := 101) hx hb dX11_feed_59 (by decide) (fun c36001 => ?_) (fun c36001 => ?_)
        · have zc36001 := leK (show (20 : Int32).toInt = 20 by decide) rfl c36001
          refine lv_aload_n hx hb dX11_feed_101 rfl (lv_at hl 0 rfl) ?_
          refine lv_dup hx hb dX11_feed_102 rfl ?_
          refine getF (v := .int (F 5)) hx hb ht hown hK hP iTX11 0 5 rfl rfl (by decide) fl_RX11_93 rfl dX11_feed_103 ?_
          have zf36002 : (0 : Int) ≤ (F 5).toInt ∧ (F 5).toInt ≤ 900 := hI.1 5
          refine lv_bipush (v := 20) hx hb dX11_feed_106 (by decide) ?_
          refine lv_iadd hx hb dX11_feed_108 ?_
          refine lv_topi (fun v36003 ev36003 => ?_)
          have tv36003 : v36003.toInt = (F 5).toInt + 20 := by rw [ev36003]; exact addT rfl (show (20 : Int32).toInt = 20 by decide) (by omega)
          refine putD hx hb ht hown hK hP hD hS iTX11 tyX11 tyX11_ok nmX11 0 5 rfl rfl (by decide) fl_RX11_93 rfl rfl rfl (Nat.le_of_ble_eq_true rfl) dX11_feed_109 (fun H locs hP hD hS => ?_)
          have hP : va_P G vwCl (mS cs h q (upd F 5 v36003) (vA (vA A 4 a4_55) 6 g8) D B) H := hP
          have hD : va_D A0 (mS cs h q (upd F 5 v36003) (vA (vA A 4 a4_55) 6 g8) D B) := hD
          refine lv_aload_n hx hb dX11_feed_112 rfl (lv_at hl 0 rfl) ?_
          refine getF (v := .int v36003) hx hb ht hown hK hP iTX11 0 5 rfl rfl (by decide) fl_RX11_93 rfl dX11_feed_113 ?_
          exact retDi (v36003, a4_55, g8) hx hb hr hlk hP hD hS dX11_feed_116 (⟨show (0 : Int) ≤ v36003.toInt ∧ v36003.toInt ≤ 900 by omega, trivial⟩) (Nat.le_of_ble_eq_true rfl) (Nat.le_of_ble_eq_true rfl)
        · have zc36001 := nleK (show (20 : Int32).toInt = 20 by decide) rfl c36001
          refine lv_aload_n hx hb dX11_feed_62 rfl (lv_at hl 0 rfl) ?_
          refine getF (v := .ref (q 4)) hx hb ht hown hK hP iTX11 0 4 rfl rfl (by decide) fl_RX11_20 rfl dX11_feed_63 ?_
          refine lv_aload_n hx hb dX11_feed_66 rfl (lv_at hl 0 rfl) ?_
          refine getF (v := .int (F 5)) hx hb ht hown hK hP iTX11 0 5 rfl rfl (by decide) fl_RX11_93 rfl dX11_feed_67 ?_
          have zf36004 : (0 : Int) ≤ (F 5).toInt ∧ (F 5).toInt ≤ 900 := hI.1 5
          refine lv_iload hx hb dX11_feed_70 (lv_at hl 1 rfl) ?_
          refine lv_iadd hx hb dX11_feed_72 ?_
          refine lv_topi (fun v36005 ev36005 => ?_)
          have tv36005 : v36005.toInt = (F 5).toInt + x55_6.toInt := by rw [ev36005]; exact addT rfl rfl (by omega)
          refine lv_aload_n hx hb dX11_feed_73 rfl (lv_at hl 0 rfl) ?_
          refine getF (v := .ref (q 6)) hx hb ht hown hK hP iTX11 0 6 rfl rfl (by decide) fl_RX11_24 rfl dX11_feed_74 ?_
          refine lv_iload hx hb dX11_feed_77 (lv_at hl 1 rfl) ?_
          refine lv_iconst (v := 4) hx hb dX11_feed_79 (by decide) ?_
          refine lv_idiv hx hb dX11_feed_80 (by decide) ?_
          refine lv_topi (fun v36006 ev36006 => ?_)
          have tv36006 : v36006.toInt = x55_6.toInt / 4 := by rw [ev36006]; exact divT rfl (by decide) (by omega) (by decide)
          refine va_iald hx hb hK.1 hP 5 0 rfl rfl (inK rfl (by omega) (by decide)) dX11_feed_81 ?_
          refine lv_topi (fun v36007 ev36007 => ?_)
          refine lv_bipush (v := 24) hx hb dX11_feed_82 (by decide) ?_
          refine lv_bipush (v := 8) hx hb dX11_feed_84 (by decide) ?_
          refine lv_iload hx hb dX11_feed_86 (lv_at hl 1 rfl) ?_
          refine lv_iconst (v := 4) hx hb dX11_feed_88 (by decide) ?_
          refine lv_irem hx hb dX11_feed_89 (by decide) ?_
          refine lv_topi (fun v36008 ev36008 => ?_)
          have tv36008 : v36008.toInt = x55_6.toInt % 4 := by rw [ev36008]; exact remT rfl (by decide) (by omega) (by decide)
          refine lv_imul hx hb dX11_feed_90 ?_
          refine lv_topi (fun v36009 ev36009 => ?_)
          have tv36009 : v36009.toInt = 8 * v36008.toInt := by rw [ev36009]; exact mulT (show (8 : Int32).toInt = 8 by decide) rfl (by omega)
          refine lv_isub hx hb dX11_feed_91 ?_
          refine lv_topi (fun v36010 ev36010 => ?_)
          have tv36010 : v36010.toInt = 24 - v36009.toInt := by rw [ev36010]; exact subT (show (24 : Int32).toInt = 24 by decide) rfl (by omega)
          refine lv_ishr hx hb dX11_feed_92 ?_
          refine lv_topi (fun v36011 ev36011 => ?_)
          refine lv_i2b hx hb dX11_feed_93 rfl ?_
          refine lv_topi (fun v36012 ev36012 => ?_)
          refine va_bast hx hb hK.1 hP hD hS 4 1 rfl rfl (inK rfl (by omega) (by decide)) dX11_feed_94 (fun H locs hP hD hS => ?_)
          obtain ⟨g36013, hP, hD⟩ : ∃ g36013 : Nat → Int32, va_P G vwCl (mS cs h q F (vA (vA A 4 g36013) 6 g8) D B) H ∧ va_D A0 (mS cs h q F (vA (vA A 4 g36013) 6 g8) D B) := ⟨upd a4_55 v36005.toNatClampNeg (vp_nar .byte v36012), hP, hD⟩
          obtain ⟨v36014, ev36014⟩ : ∃ z : Int32, z = x55_6 + 1 := ⟨_, rfl⟩
          have tv36014 : v36014.toInt = x55_6.toInt + 1 := by rw [ev36014]; exact addT rfl (by decide) (by omega)
          refine lv_iinc (v := v36014) (lv' := [(6, .int v36014), (0, .ref h)]) hx hb dX11_feed_95 hl (k := 1) rfl (by rw [ev36014]; rfl) (by decide) rfl (fun ls hl => ?_)
          refine lv_goto (tgt := 55) hx hb dX11_feed_98 (by decide) ?_
          exact ih55 v36014 g36013 H locs ls (by omega) (by omega) hP hD hS (lv_sub hl [1, 0] rfl)
    exact B55 _ 0 (A 4) H locs ls (Nat.lt_succ_self _) (by decide) hP hD hS (lv_sub hl [1, 0] rfl)
  · have zc3 := nleK rfl (show (900 : Int32).toInt = 900 by decide) c3
    refine lv_iconst (v := (-1)) hx hb dX11_feed_13 (by decide) ?_
    exact retDi ((F 5), (A 4), (A 6)) hx hb hr hlk hP hD hS dX11_feed_14 (⟨hI.1 5, trivial⟩) (Nat.le_of_ble_eq_true rfl) (Nat.le_of_ble_eq_true rfl)

set_option maxRecDepth 100000 in
set_option maxHeartbeats 8000000 in
theorem sX11_end (l : Launch) (G : va_G) (cs : Nat → ClassId) (h : Nat) (q : Nat → Nat) (F : Nat → Int32) (A : Nat → Nat → Int32) (D : Int64) (B : Nat → Nat → Int64) (hI : IM F A) (a1 : Int32) : ImpI l yX11_end cX11_end 2 (some .int) 1 0 0 G (TY cs) [.ref h, .int a1] (mS cs h q F A D B) (fun (r : Int32) (u : Int32) => ((0 : Int) ≤ u.toInt ∧ u.toInt ≤ 900) ∧ (True)) (fun u : Int32 => (mS cs h q (upd F 5 u) A D B)) := by
  refine mkD (Qc := (QDi G (fun (r : Int32) (u : Int32) => ((0 : Int) ≤ u.toInt ∧ u.toInt ≤ 900) ∧ (True)) (fun u : Int32 => (mS cs h q (upd F 5 u) A D B)))) (by decide) (by simp [lg_sl, Value.category]) ?_
  intro p e s m args below meth c ls A0 hx hb hml hr hlk hown hmn ht hK hP hD hS hA hl
  have hl : lv_has ls 2 [(0, .ref h), (1, .int a1)] := hl
  refine lv_iload_n hx hb dX11_end_0 rfl (lv_at hl 1 rfl) ?_
  refine lv_i2l hx hb dX11_end_1 rfl ?_
  have bb1 := i32b a1
  refine lv_topl (fun v2 ev2 => ?_)
  have tv2 : v2.toInt = a1.toInt := by rw [ev2]; exact Int32.toInt_toInt64 _
  refine lv_lconst (v := 0) hx hb dX11_end_2 (by decide) ?_
  refine lv_aload_n hx hb dX11_end_3 rfl (lv_at hl 0 rfl) ?_
  refine getF (v := .int (F 5)) hx hb ht hown hK hP iTX11 0 5 rfl rfl (by decide) fl_RX11_93 rfl dX11_end_4 ?_
  have zf3 : (0 : Int) ≤ (F 5).toInt ∧ (F 5).toInt ≤ 900 := hI.1 5
  refine lv_i2l hx hb dX11_end_7 rfl ?_
  refine lv_topl (fun v4 ev4 => ?_)
  have tv4 : v4.toInt = (F 5).toInt := by rw [ev4]; exact Int32.toInt_toInt64 _
  refine behR (runSP (As := [.long v2, .long 0, .long v4]) (rest := []) ⟨hx, hb, hml, hown, ht⟩ (sX11_in l G cs v2 0 v4 ) okS_RX11_79 ⟨by decide, by decide⟩ hK hP [] rfl hl.1 rfl (Nat.le_of_ble_eq_true rfl) dX11_end_8 ⟨by decide, by decide⟩) hP hS hA (fun r5 H locs hr5 hP hS => ?_)
  have kk6 : (0 : Int64).toInt = 0 := by decide
  have hr5 : (r5.toInt = 1 ∧ (0 : Int64).toInt ≤ v2.toInt ∧ v2.toInt ≤ v4.toInt) ∨ (r5.toInt = 0 ∧ (v2.toInt < (0 : Int64).toInt ∨ v4.toInt < v2.toInt)) := hr5
  refine lv_if_ne (tgt := 16) hx hb dX11_end_11 (by decide) (fun c7 => ?_) (fun c7 => ?_)
  · have zc7 := neK rfl (show (0 : Int32).toInt = 0 by decide) c7
    refine lv_aload_n hx hb dX11_end_16 rfl (lv_at hl 0 rfl) ?_
    refine lv_iload_n hx hb dX11_end_17 rfl (lv_at hl 1 rfl) ?_
    refine putD hx hb ht hown hK hP hD hS iTX11 tyX11 tyX11_ok nmX11 0 5 rfl rfl (by decide) fl_RX11_93 rfl rfl rfl (Nat.le_of_ble_eq_true rfl) dX11_end_18 (fun H locs hP hD hS => ?_)
    have hP : va_P G vwCl (mS cs h q (upd F 5 a1) A D B) H := hP
    have hD : va_D A0 (mS cs h q (upd F 5 a1) A D B) := hD
    refine lv_iload_n hx hb dX11_end_21 rfl (lv_at hl 1 rfl) ?_
    exact retDi a1 hx hb hr hlk hP hD hS dX11_end_22 (⟨show (0 : Int) ≤ a1.toInt ∧ a1.toInt ≤ 900 by omega, trivial⟩) (Nat.le_of_ble_eq_true rfl) (Nat.le_of_ble_eq_true rfl)
  · have zc7 := eqK rfl (show (0 : Int32).toInt = 0 by decide) c7
    refine lv_iconst (v := (-1)) hx hb dX11_end_14 (by decide) ?_
    exact retDi (F 5) hx hb hr hlk hP hD hS dX11_end_15 (⟨hI.1 5, trivial⟩) (Nat.le_of_ble_eq_true rfl) (Nat.le_of_ble_eq_true rfl)

set_option maxRecDepth 100000 in
set_option maxHeartbeats 8000000 in
theorem sX11_see (l : Launch) (G : va_G) (cs : Nat → ClassId) (h : Nat) (q : Nat → Nat) (F : Nat → Int32) (A : Nat → Nat → Int32) (D : Int64) (B : Nat → Nat → Int64) (hI : IM F A) (a1 : Int32) (ha1 : (0 : Int) ≤ a1.toInt ∧ a1.toInt ≤ 900) : SafeR l yX11_see cX11_see 2 (some .int) 0 G (TY cs) [.ref h, .int a1] (mS cs h q F A D B) (fun r : Int32 => r = SEE (A 4) (F 7) a1 ∧ ((r.toInt = -1 ∧ (F 7).toInt ≤ a1.toInt) ∨ (0 ≤ r.toInt ∧ r.toInt ≤ 255 ∧ a1.toInt < (F 7).toInt))) := by
  refine mkP (Qc := QRi (fun r : Int32 => r = SEE (A 4) (F 7) a1 ∧ ((r.toInt = -1 ∧ (F 7).toInt ≤ a1.toInt) ∨ (0 ≤ r.toInt ∧ r.toInt ≤ 255 ∧ a1.toInt < (F 7).toInt)))) (by decide) (by simp [lg_sl, Value.category]) ?_
  intro p e s m args below meth c ls hx hb hml hr hlk hown ht hK hP hS hl
  have hl : lv_has ls 2 [(0, .ref h), (1, .int a1)] := hl
  refine lv_iload_n hx hb dX11_see_0 rfl (lv_at hl 1 rfl) ?_
  refine lv_aload_n hx hb dX11_see_1 rfl (lv_at hl 0 rfl) ?_
  refine getF (v := .int (F 7)) hx hb ht hown hK hP iTX11 0 7 rfl rfl (by decide) fl_RX11_96 rfl dX11_see_2 ?_
  have zf1 : (0 : Int) ≤ (F 7).toInt ∧ (F 7).toInt ≤ 900 := hI.1 7
  refine lv_icmp_ge (tgt := 21) hx hb dX11_see_5 (by decide) (fun c2 => ?_) (fun c2 => ?_)
  · have zc2 := leK rfl rfl c2
    refine lv_iconst (v := (-1)) hx hb dX11_see_21 (by decide) ?_
    exact retRi hx hb hr hlk hS dX11_see_22 (⟨SEEb (by omega), Or.inl ⟨by decide, by omega⟩⟩)
  · have zc2 := nleK rfl rfl c2
    refine lv_aload_n hx hb dX11_see_8 rfl (lv_at hl 0 rfl) ?_
    refine getF (v := .ref (q 4)) hx hb ht hown hK hP iTX11 0 4 rfl rfl (by decide) fl_RX11_20 rfl dX11_see_9 ?_
    refine lv_iload_n hx hb dX11_see_12 rfl (lv_at hl 1 rfl) ?_
    refine va_bald hx hb hK.1 hP 4 1 rfl rfl (inK rfl (by omega) (by decide)) dX11_see_13 ?_
    refine lv_topi (fun v3 ev3 => ?_)
    have ev3 : v3 = (A 4) a1.toNatClampNeg := ev3
    refine lv_sipush (v := 255) hx hb dX11_see_14 (by decide) ?_
    refine lv_iand hx hb dX11_see_17 ?_
    refine lv_topi (fun v4 ev4 => ?_)
    have tv4 : 0 ≤ v4.toInt ∧ v4.toInt ≤ 255 := by rw [ev4]; exact andT 8 (by decide) (by decide) (by decide)
    refine lv_goto (tgt := 22) hx hb dX11_see_18 (by decide) ?_
    exact retRi hx hb hr hlk hS dX11_see_22 (⟨SEEa (by omega) ev3 ev4, by omega⟩)

