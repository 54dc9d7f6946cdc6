set_option maxRecDepth 100000 in
set_option maxHeartbeats 8000000 in
theorem sX11_numberAt (l : Launch) (G : va_G) (cs : Nat → ClassId) (h : Nat) (q : Nat → Nat) (F : Nat → Int32) (A : Nat → Nat → Int32) (D : Int64) (B : Nat → Nat → Int64) (hI : IM F A) (a1 : Int32) (a2 : Int32) (ha1 : (0 : Int) ≤ a1.toInt ∧ a1.toInt ≤ 3) (ha2 : (0 : Int) ≤ a2.toInt ∧ a2.toInt ≤ 59) : SafeL l yX11_numberAt cX11_numberAt 3 (some .long) 0 G (TY cs) [.ref h, .int a1, .int a2] (mS cs h q F A D B) (fun r : Int64 => True) := by
  refine mkP (Qc := QRl (fun r : Int64 => True)) (by decide) (by simp [lg_sl, Value.category]) ?_
  intro p e s m args below meth c ls hx hb hml hr hlk hown ht hK hP hS hl
  have hl : lv_has ls 3 [(0, .ref h), (1, .int a1), (2, .int a2)] := hl
  refine lv_aload_n hx hb dX11_numberAt_0 rfl (lv_at hl 0 rfl) ?_
  refine getF (v := .ref (q 33)) hx hb ht hown hK hP iTX11 0 33 rfl rfl (by decide) fl_RX11_67 rfl dX11_numberAt_1 ?_
  refine lv_bipush (v := 60) hx hb dX11_numberAt_4 (by decide) ?_
  refine lv_iload_n hx hb dX11_numberAt_6 rfl (lv_at hl 1 rfl) ?_
  refine lv_imul hx hb dX11_numberAt_7 ?_
  refine lv_topi (fun v1 ev1 => ?_)
  have tv1 : v1.toInt = 60 * a1.toInt := by rw [ev1]; exact mulT (show (60 : Int32).toInt = 60 by decide) rfl (by omega)
  refine lv_iload_n hx hb dX11_numberAt_8 rfl (lv_at hl 2 rfl) ?_
  refine lv_iadd hx hb dX11_numberAt_9 ?_
  refine lv_topi (fun v2 ev2 => ?_)
  have tv2 : v2.toInt = v1.toInt + a2.toInt := by rw [ev2]; exact addT rfl rfl (by omega)
  refine va_lald hx hb hK.1 hP 18 2 rfl rfl (inK rfl (by omega) (by decide)) dX11_numberAt_10 ?_
  refine lv_topl (fun v3 ev3 => ?_)
  exact retRl hx hb hr hlk hS dX11_numberAt_11 (trivial)

set_option maxRecDepth 100000 in
set_option maxHeartbeats 8000000 in
theorem sX11_roomAt (l : Launch) (G : va_G) (cs : Nat → ClassId) (h : Nat) (q : Nat → Nat) (F : Nat → Int32) (A : Nat → Nat → Int32) (D : Int64) (B : Nat → Nat → Int64) (hI : IM F A) (a1 : Int32) (a2 : Int32) (ha1 : (0 : Int) ≤ a1.toInt ∧ a1.toInt ≤ 3) (ha2 : (0 : Int) ≤ a2.toInt ∧ a2.toInt ≤ 59) : SafeR l yX11_roomAt cX11_roomAt 3 (some .int) 1 G (TY cs) [.ref h, .int a1, .int a2] (mS cs h q F A D B) (fun r : Int32 => True) := by
  refine mkP (Qc := QRi (fun r : Int32 => True)) (by decide) (by simp [lg_sl, Value.category]) ?_
  intro p e s m args below meth c ls hx hb hml hr hlk hown ht hK hP hS hl
  have hl : lv_has ls 3 [(0, .ref h), (1, .int a1), (2, .int a2)] := hl
  refine lv_aload_n hx hb dX11_roomAt_0 rfl (lv_at hl 0 rfl) ?_
  refine lv_iload_n hx hb dX11_roomAt_1 rfl (lv_at hl 1 rfl) ?_
  refine lv_iload_n hx hb dX11_roomAt_2 rfl (lv_at hl 2 rfl) ?_
  refine behRL (runVP (As := [.int a1, .int a2]) (rest := []) ⟨hx, hb, hml, hown, ht⟩ (sX11_numberAt l G cs h q F A D B hI a1 a2 (by omega) (by omega)) okV_RX11_286 ⟨by decide, by decide⟩ hK hP [0, 1, 2, 3, 4, 5, 6, 7, 8, 9, 10, 11, 12, 13, 14, 15, 16, 17, 18, 19] rfl 0 rfl rfl hl.1 rfl (Nat.le_of_ble_eq_true rfl) dX11_roomAt_3 ⟨by decide, by decide⟩) hP hS (fun _ h => h) (fun r1 H locs hr1 hP hS => ?_)
  refine lv_l2i hx hb dX11_roomAt_6 rfl ?_
  refine lv_topi (fun v2 ev2 => ?_)
  exact retRi hx hb hr hlk hS dX11_roomAt_7 (trivial)

set_option maxRecDepth 100000 in
set_option maxHeartbeats 8000000 in
theorem sX11_hearsBy (l : Launch) (G : va_G) (cs : Nat → ClassId) (h : Nat) (q : Nat → Nat) (F : Nat → Int32) (A : Nat → Nat → Int32) (D : Int64) (B : Nat → Nat → Int64) (hI : IM F A) (a1 : Int32) (a2 : Int32) (ha1 : (0 : Int) ≤ a1.toInt ∧ a1.toInt ≤ 6) (ha2 : (0 : Int) ≤ a2.toInt ∧ a2.toInt ≤ 9) : SafeR l yX11_hearsBy cX11_hearsBy 3 (some .int) 1 G (TY cs) [.ref h, .int a1, .int a2] (mS cs h q F A D B) (fun r : Int32 => True) := by
  refine mkP (Qc := QRi (fun r : Int32 => True)) (by decide) (by simp [lg_sl, Value.category]) ?_
  intro p e s m args below meth c ls hx hb hml hr hlk hown ht hK hP hS hl
  have hl : lv_has ls 3 [(0, .ref h), (1, .int a1), (2, .int a2)] := hl
  refine lv_bipush (v := 100) hx hb dX11_hearsBy_0 (by decide) ?_
  refine lv_bipush (v := 100) hx hb dX11_hearsBy_2 (by decide) ?_
  refine lv_aload_n hx hb dX11_hearsBy_4 rfl (lv_at hl 0 rfl) ?_
  refine lv_iload_n hx hb dX11_hearsBy_5 rfl (lv_at hl 1 rfl) ?_
  refine lv_iconst (v := 1) hx hb dX11_hearsBy_6 (by decide) ?_
  refine behR (runVP (As := [.int a1, .int 1]) (rest := [.int 100, .int 100]) ⟨hx, hb, hml, hown, ht⟩ (sX11_of l G cs h q F A D B hI a1 1 (by omega) (by decide)) okV_RX11_227 ⟨by decide, by decide⟩ hK hP [0, 1, 2, 3, 4, 5, 6, 7, 8, 9, 10, 11, 12, 13, 14, 15, 16, 17, 18, 19] rfl 0 rfl rfl hl.1 rfl (Nat.le_of_ble_eq_true rfl) dX11_hearsBy_7 ⟨by decide, by decide⟩) hP hS (fun _ h => h) (fun r1 H locs hr1 hP hS => ?_)
  have hr1 : (0 : Int) ≤ r1.toInt ∧ r1.toInt ≤ 999 ∧ (1 = 3 → r1.toInt ≤ 127) ∧ (1 = 2 → r1.toInt ≤ 99) := hr1
  refine lv_isub hx hb dX11_hearsBy_10 ?_
  refine lv_topi (fun v2 ev2 => ?_)
  have tv2 : v2.toInt = 100 - r1.toInt := by rw [ev2]; exact subT (show (100 : Int32).toInt = 100 by decide) rfl (by omega)
  refine lv_iload_n hx hb dX11_hearsBy_11 rfl (lv_at hl 2 rfl) ?_
  refine lv_iconst (v := 1) hx hb dX11_hearsBy_12 (by decide) ?_
  refine lv_iadd hx hb dX11_hearsBy_13 ?_
  refine lv_topi (fun v3 ev3 => ?_)
  have tv3 : v3.toInt = a2.toInt + 1 := by rw [ev3]; exact addT rfl (show (1 : Int32).toInt = 1 by decide) (by omega)
  refine lv_idiv hx hb dX11_hearsBy_14 (n0K rfl (by omega)) ?_
  refine lv_topi (fun v4 ev4 => ?_)
  refine lv_isub hx hb dX11_hearsBy_15 ?_
  refine lv_topi (fun v5 ev5 => ?_)
  exact retRi hx hb hr hlk hS dX11_hearsBy_16 (trivial)

set_option maxRecDepth 100000 in
set_option maxHeartbeats 8000000 in
theorem sX11_wouldFind (l : Launch) (G : va_G) (cs : Nat → ClassId) (h : Nat) (q : Nat → Nat) (F : Nat → Int32) (A : Nat → Nat → Int32) (D : Int64) (B : Nat → Nat → Int64) (hI : IM F A) (a1 : Int32) (a2 : Int32) (ha1 : (0 : Int) ≤ a1.toInt ∧ a1.toInt ≤ 6) (ha2 : (0 : Int) ≤ a2.toInt ∧ a2.toInt ≤ 9) : SafeR l yX11_wouldFind cX11_wouldFind 3 (some .int) 2 G (TY cs) [.ref h, .int a1, .int a2] (mS cs h q F A D B) (fun r : Int32 => True) := by
  refine mkP (Qc := QRi (fun r : Int32 => True)) (by decide) (by simp [lg_sl, Value.category]) ?_
  intro p e s m args below meth c ls hx hb hml hr hlk hown ht hK hP hS hl
  have hl : lv_has ls 3 [(0, .ref h), (1, .int a1), (2, .int a2)] := hl
  refine lv_aload_n hx hb dX11_wouldFind_0 rfl (lv_at hl 0 rfl) ?_
  refine getF (v := .ref (q 15)) hx hb ht hown hK hP iTX11 0 15 rfl rfl (by decide) fl_RX11_34 rfl dX11_wouldFind_1 ?_
  refine lv_iload_n hx hb dX11_wouldFind_4 rfl (lv_at hl 1 rfl) ?_
  refine va_iald hx hb hK.1 hP 7 0 rfl rfl (inK rfl (by omega) (by decide)) dX11_wouldFind_5 ?_
  refine lv_topi (fun v1 ev1 => ?_)
  refine lv_aload_n hx hb dX11_wouldFind_6 rfl (lv_at hl 0 rfl) ?_
  refine lv_iload_n hx hb dX11_wouldFind_7 rfl (lv_at hl 1 rfl) ?_
  refine lv_iload_n hx hb dX11_wouldFind_8 rfl (lv_at hl 2 rfl) ?_
  refine behR (runVP (As := [.int a1, .int a2]) (rest := [.int v1]) ⟨hx, hb, hml, hown, ht⟩ (sX11_hearsBy l G cs h q F A D B hI a1 a2 (by omega) (by omega)) okV_RX11_239 ⟨by decide, by decide⟩ hK hP [0, 1, 2, 3, 4, 5, 6, 7, 8, 9, 10, 11, 12, 13, 14, 15, 16, 17, 18, 19] rfl 0 rfl rfl hl.1 rfl (Nat.le_of_ble_eq_true rfl) dX11_wouldFind_9 ⟨by decide, by decide⟩) hP hS (fun _ h => h) (fun r2 H locs hr2 hP hS => ?_)
  refine lv_imul hx hb dX11_wouldFind_12 ?_
  refine lv_topi (fun v3 ev3 => ?_)
  refine lv_bipush (v := 100) hx hb dX11_wouldFind_13 (by decide) ?_
  refine lv_idiv hx hb dX11_wouldFind_15 (by decide) ?_
  refine lv_topi (fun v4 ev4 => ?_)
  exact retRi hx hb hr hlk hS dX11_wouldFind_16 (trivial)

set_option maxRecDepth 100000 in
set_option maxHeartbeats 8000000 in
theorem sX11_goesTo (l : Launch) (G : va_G) (cs : Nat → ClassId) (h : Nat) (q : Nat → Nat) (F : Nat → Int32) (A : Nat → Nat → Int32) (D : Int64) (B : Nat → Nat → Int64) (hI : IM F A) (a1 : Int32) (a2 : Int32) (ha1 : (0 : Int) ≤ a1.toInt ∧ a1.toInt ≤ 6) : SafeR l yX11_goesTo cX11_goesTo 3 (some .boolean) 1 G (TY cs) [.ref h, .int a1, .int a2] (mS cs h q F A D B) (fun r : Int32 => (0 : Int) ≤ r.toInt ∧ r.toInt ≤ 1) := by
  refine mkP (Qc := QRi (fun r : Int32 => (0 : Int) ≤ r.toInt ∧ r.toInt ≤ 1)) (by decide) (by simp [lg_sl, Value.category]) ?_
  intro p e s m args below meth c ls hx hb hml hr hlk hown ht hK hP hS hl
  have hl : lv_has ls 3 [(0, .ref h), (1, .int a1), (2, .int a2)] := hl
  refine lv_iload_n hx hb dX11_goesTo_0 rfl (lv_at hl 1 rfl) ?_
  refine lv_iload_n hx hb dX11_goesTo_1 rfl (lv_at hl 2 rfl) ?_
  refine lv_icmp_eq (tgt := 19) hx hb dX11_goesTo_2 (by decide) (fun c1 => ?_) (fun c1 => ?_)
  · have zc1 := eqK rfl rfl c1
    refine lv_iconst (v := 1) hx hb dX11_goesTo_19 (by decide) ?_
    refine lv_goto (tgt := 24) hx hb dX11_goesTo_20 (by decide) ?_
    exact retRz hx hb hr hlk hS dX11_goesTo_24 (rfl) (show (0 : Int) ≤ (1 : Int32).toInt ∧ (1 : Int32).toInt ≤ 1 by have kk : (1 : Int32).toInt = 1 := (by decide); omega)
  · have zc1 := neK rfl rfl c1
    refine lv_aload_n hx hb dX11_goesTo_5 rfl (lv_at hl 0 rfl) ?_
    refine lv_iload_n hx hb dX11_goesTo_6 rfl (lv_at hl 1 rfl) ?_
    refine lv_iconst (v := 3) hx hb dX11_goesTo_7 (by decide) ?_
    refine behR (runVP (As := [.int a1, .int 3]) (rest := []) ⟨hx, hb, hml, hown, ht⟩ (sX11_of l G cs h q F A D B hI a1 3 (by omega) (by decide)) okV_RX11_227 ⟨by decide, by decide⟩ hK hP [0, 1, 2, 3, 4, 5, 6, 7, 8, 9, 10, 11, 12, 13, 14, 15, 16, 17, 18, 19] rfl 0 rfl rfl hl.1 rfl (Nat.le_of_ble_eq_true rfl) dX11_goesTo_8 ⟨by decide, by decide⟩) hP hS (fun _ h => h) (fun r2 H locs hr2 hP hS => ?_)
    have hr2 : (0 : Int) ≤ r2.toInt ∧ r2.toInt ≤ 999 ∧ (3 = 3 → r2.toInt ≤ 127) ∧ (3 = 2 → r2.toInt ≤ 99) := hr2
    refine lv_iload_n hx hb dX11_goesTo_11 rfl (lv_at hl 2 rfl) ?_
    refine behR (runSP (As := [.int r2, .int a2]) (rest := []) ⟨hx, hb, hml, hown, ht⟩ (sX11_bit l G cs r2 a2 ) okS_RX11_258 ⟨by decide, by decide⟩ hK hP [] rfl hl.1 rfl (Nat.le_of_ble_eq_true rfl) dX11_goesTo_12 ⟨by decide, by decide⟩) hP hS (fun _ h => h) (fun r3 H locs hr3 hP hS => ?_)
    have hr3 : (0 : Int) ≤ r3.toInt ∧ r3.toInt ≤ 1 := hr3
    refine lv_iconst (v := 1) hx hb dX11_goesTo_15 (by decide) ?_
    refine lv_icmp_ne (tgt := 23) hx hb dX11_goesTo_16 (by decide) (fun c4 => ?_) (fun c4 => ?_)
    · have zc4 := neK rfl (show (1 : Int32).toInt = 1 by decide) c4
      refine lv_iconst (v := 0) hx hb dX11_goesTo_23 (by decide) ?_
      exact retRz hx hb hr hlk hS dX11_goesTo_24 (rfl) (show (0 : Int) ≤ (0 : Int32).toInt ∧ (0 : Int32).toInt ≤ 1 by have kk : (0 : Int32).toInt = 0 := (by decide); omega)
    · have zc4 := eqK rfl (show (1 : Int32).toInt = 1 by decide) c4
      refine lv_iconst (v := 1) hx hb dX11_goesTo_19 (by decide) ?_
      refine lv_goto (tgt := 24) hx hb dX11_goesTo_20 (by decide) ?_
      exact retRz hx hb hr hlk hS dX11_goesTo_24 (rfl) (show (0 : Int) ≤ (1 : Int32).toInt ∧ (1 : Int32).toInt ≤ 1 by have kk : (1 : Int32).toInt = 1 := (by decide); omega)

set_option maxRecDepth 100000 in
set_option maxHeartbeats 8000000 in
theorem sX11_farTo (l : Launch) (G : va_G) (cs : Nat → ClassId) (h : Nat) (q : Nat → Nat) (F : Nat → Int32) (A : Nat → Nat → Int32) (D : Int64) (B : Nat → Nat → Int64) (hI : IM F A) (a1 : Int32) (ha1 : (-1 : Int) ≤ a1.toInt ∧ a1.toInt ≤ 6271) : SafeR l yX11_farTo cX11_farTo 2 (some .int) 0 G (TY cs) [.ref h, .int a1] (mS cs h q F A D B) (fun r : Int32 => True) := by
  refine mkP (Qc := QRi (fun r : Int32 => True)) (by decide) (by simp [lg_sl, Value.category]) ?_
  intro p e s m args below meth c ls hx hb hml hr hlk hown ht hK hP hS hl
  have hl : lv_has ls 2 [(0, .ref h), (1, .int a1)] := hl
  refine lv_iload_n hx hb dX11_farTo_0 rfl (lv_at hl 1 rfl) ?_
  refine lv_iconst (v := (-1)) hx hb dX11_farTo_1 (by decide) ?_
  refine lv_icmp_ne (tgt := 9) hx hb dX11_farTo_2 (by decide) (fun c1 => ?_) (fun c1 => ?_)
  · have zc1 := neK rfl (show (-1 : Int32).toInt = (-1) by decide) c1
    refine lv_aload_n hx hb dX11_farTo_9 rfl (lv_at hl 0 rfl) ?_
    refine getF (v := .ref (q 24)) hx hb ht hown hK hP iTX11 0 24 rfl rfl (by decide) fl_RX11_52 rfl dX11_farTo_10 ?_
    refine lv_iload_n hx hb dX11_farTo_13 rfl (lv_at hl 1 rfl) ?_
    refine va_iald hx hb hK.1 hP 13 0 rfl rfl (inK rfl (by omega) (by decide)) dX11_farTo_14 ?_
    refine lv_topi (fun v2 ev2 => ?_)
    exact retRi hx hb hr hlk hS dX11_farTo_15 (trivial)
  · have zc1 := eqK rfl (show (-1 : Int32).toInt = (-1) by decide) c1
    refine lv_iconst (v := (-1)) hx hb dX11_farTo_5 (by decide) ?_
    refine lv_goto (tgt := 15) hx hb dX11_farTo_6 (by decide) ?_
    exact retRi hx hb hr hlk hS dX11_farTo_15 (trivial)

set_option maxRecDepth 100000 in
set_option maxHeartbeats 8000000 in
theorem sX11_doorFrom (l : Launch) (G : va_G) (cs : Nat → ClassId) (h : Nat) (q : Nat → Nat) (F : Nat → Int32) (A : Nat → Nat → Int32) (D : Int64) (B : Nat → Nat → Int64) (hI : IM F A) (a1 : Int32) (a2 : Int32) (ha1 : (0 : Int) ≤ a1.toInt ∧ a1.toInt ≤ 6) : SafeR l yX11_doorFrom cX11_doorFrom 5 (some .int) 1 G (TY cs) [.ref h, .int a1, .int a2] (mS cs h q F A D B) (fun r : Int32 => (-1 : Int) ≤ r.toInt ∧ r.toInt ≤ 6) := by
  refine mkP (Qc := QRi (fun r : Int32 => (-1 : Int) ≤ r.toInt ∧ r.toInt ≤ 6)) (by decide) (by simp [lg_sl, Value.category]) ?_
  intro p e s m args below meth c ls hx hb hml hr hlk hown ht hK hP hS hl
  have hl : lv_has ls 5 [(0, .ref h), (1, .int a1), (2, .int a2)] := hl
  refine lv_iload_n hx hb dX11_doorFrom_0 rfl (lv_at hl 2 rfl) ?_
  refine lv_istore_n (lv' := [(3, .int a2), (0, .ref h), (1, .int a1), (2, .int a2)]) hx hb dX11_doorFrom_1 rfl hl (by decide) rfl (fun ls hl => ?_)
  refine lv_iconst (v := 0) hx hb dX11_doorFrom_2 (by decide) ?_
  refine lv_istore (lv' := [(4, .int 0), (3, .int a2), (0, .ref h), (1, .int a1), (2, .int a2)]) hx hb dX11_doorFrom_3 hl (by decide) rfl (fun ls hl => ?_)
  have B5 : ∀ (n : Nat) (x5_3 : Int32) (x5_4 : Int32) (H : Heap) (locs : List Loc) (ls : Array Slot), (7 - x5_4.toInt).toNat < n → (0 : Int) ≤ x5_4.toInt ∧ x5_4.toInt ≤ 7 → va_P G vwCl (mS cs h q F A D B) H → va_S (fun q => s.heap.size ≤ q) s.heap H locs → lv_has ls 5 [(0, .ref h), (1, .int a1), (2, .int a2), (3, .int x5_3), (4, .int x5_4)] → W p l e (rmk 1 0 0) s m args below meth c H locs 0 0 (MQ below (QRi (fun r : Int32 => (-1 : Int) ≤ r.toInt ∧ r.toInt ≤ 6) s.heap.size) args s 0 0 (fun q => s.heap.size ≤ q)) (F0 m 5 ls []) := by
    intro n
    induction n with
    | zero => intro x5_3 x5_4 H locs ls hmeas hx5_4 hP hS hl; exact absurd hmeas (Nat.not_lt_zero _)
    | succ n ih5 =>
      intro x5_3 x5_4 H locs ls hmeas hx5_4 hP hS hl
      refine lv_iload hx hb dX11_doorFrom_5 (lv_at hl 4 rfl) ?_
      refine lv_aload_n hx hb dX11_doorFrom_7 rfl (lv_at hl 0 rfl) ?_
      refine getF (v := .ref (q 1)) hx hb ht hown hK hP iTX11 0 1 rfl rfl (by decide) fl_RX11_9 rfl dX11_doorFrom_8 ?_
      refine lv_iconst (v := 4) hx hb dX11_doorFrom_11 (by decide) ?_
      refine va_iald hx hb hK.1 hP 1 0 rfl rfl (show ¬ (_ ∨ _) by decide) dX11_doorFrom_12 ?_
      refine W.eq (g2 := F0 m 13 ls [.int (A 1 4), .int x5_4]) rfl ?_
      have zf5001 : (0 : Int) ≤ (A 1 4).toInt ∧ (A 1 4).toInt ≤ 7 := (hI.2 1 4)
      refine lv_icmp_ge (tgt := 49) hx hb dX11_doorFrom_13 (by decide) (fun c5002 => ?_) (fun c5002 => ?_)
      · have zc5002 := leK rfl rfl c5002
        refine lv_iconst (v := (-1)) hx hb dX11_doorFrom_49 (by decide) ?_
        exact retRi hx hb hr hlk hS dX11_doorFrom_50 (show (-1 : Int) ≤ (-1 : Int32).toInt ∧ (-1 : Int32).toInt ≤ 6 by have kk : (-1 : Int32).toInt = -1 := (by decide); omega)
      · have zc5002 := nleK rfl rfl c5002
        refine lv_aload_n hx hb dX11_doorFrom_16 rfl (lv_at hl 0 rfl) ?_
        refine lv_iload_n hx hb dX11_doorFrom_17 rfl (lv_at hl 1 rfl) ?_
        refine lv_iconst (v := 3) hx hb dX11_doorFrom_18 (by decide) ?_
        refine behR (runVP (As := [.int a1, .int 3]) (rest := []) ⟨hx, hb, hml, hown, ht⟩ (sX11_of l G cs h q F A D B hI a1 3 (by omega) (by decide)) okV_RX11_227 ⟨by decide, by decide⟩ hK hP [0, 1, 2, 3, 4, 5, 6, 7, 8, 9, 10, 11, 12, 13, 14, 15, 16, 17, 18, 19] rfl 0 rfl rfl hl.1 rfl (Nat.le_of_ble_eq_true rfl) dX11_doorFrom_19 ⟨by decide, by decide⟩) hP hS (fun _ h => h) (fun r5003 H locs hr5003 hP hS => ?_)
        have hr5003 : (0 : Int) ≤ r5003.toInt ∧ r5003.toInt ≤ 999 ∧ (3 = 3 → r5003.toInt ≤ 127) ∧ (3 = 2 → r5003.toInt ≤ 99) := hr5003
        refine lv_iload hx hb dX11_doorFrom_22 (lv_at hl 4 rfl) ?_
        refine behR (runSP (As := [.int r5003, .int x5_4]) (rest := []) ⟨hx, hb, hml, hown, ht⟩ (sX11_bit l G cs r5003 x5_4 ) okS_RX11_258 ⟨by decide, by decide⟩ hK hP [] rfl hl.1 rfl (Nat.le_of_ble_eq_true rfl) dX11_doorFrom_24 ⟨by decide, by decide⟩) hP hS (fun _ h => h) (fun r5004 H locs hr5004 hP hS => ?_)
        have hr5004 : (0 : Int) ≤ r5004.toInt ∧ r5004.toInt ≤ 1 := hr5004
        have B43 : ∀ (x43_3 : Int32) (x43_4 : Int32) (H : Heap) (locs : List Loc) (ls : Array Slot), (0 : Int) ≤ x43_4.toInt ∧ x43_4.toInt ≤ 6 → va_P G vwCl (mS cs h q F A D B) H → va_S (fun q => s.heap.size ≤ q) s.heap H locs → lv_has ls 5 [(0, .ref h), (1, .int a1), (2, .int a2), (3, .int x43_3), (4, .int x43_4)] → W p l e (rmk 1 0 0) s m args below meth c H locs 0 0 (MQ below (QRi (fun r : Int32 => (-1 : Int) ≤ r.toInt ∧ r.toInt ≤ 6) s.heap.size) args s 0 0 (fun q => s.heap.size ≤ q)) (F0 m 43 ls []) := by
          intro x43_3 x43_4 H locs ls hx43_4 hP hS hl
          obtain ⟨v24001, ev24001⟩ : ∃ z : Int32, z = x43_4 + 1 := ⟨_, rfl⟩
          have tv24001 : v24001.toInt = x43_4.toInt + 1 := by rw [ev24001]; exact addT rfl (by decide) (by omega)
          refine lv_iinc (v := v24001) (lv' := [(4, .int v24001), (0, .ref h), (1, .int a1), (2, .int a2), (3, .int x43_3)]) hx hb dX11_doorFrom_43 hl (k := 4) rfl (by rw [ev24001]; rfl) (by decide) rfl (fun ls hl => ?_)
          refine lv_goto (tgt := 5) hx hb dX11_doorFrom_46 (by decide) ?_
          exact ih5 x43_3 v24001 H locs ls (by omega) (by omega) hP hS (lv_sub hl [1, 2, 3, 4, 0] rfl)
        refine lv_if_ne (tgt := 33) hx hb dX11_doorFrom_27 (by decide) (fun c5005 => ?_) (fun c5005 => ?_)
        · have zc5005 := neK rfl (show (0 : Int32).toInt = 0 by decide) c5005
          refine lv_iload_n hx hb dX11_doorFrom_33 rfl (lv_at hl 3 rfl) ?_
          refine lv_if_ne (tgt := 40) hx hb dX11_doorFrom_34 (by decide) (fun c5006 => ?_) (fun c5006 => ?_)
          · have zc5006 := neK rfl (show (0 : Int32).toInt = 0 by decide) c5006
            obtain ⟨v5007, ev5007⟩ : ∃ z : Int32, z = x5_3 + (-1) := ⟨_, rfl⟩
            refine lv_iinc (v := v5007) (lv' := [(3, .int v5007), (0, .ref h), (1, .int a1), (2, .int a2), (4, .int x5_4)]) hx hb dX11_doorFrom_40 hl (k := 3) rfl (by rw [ev5007]; rfl) (by decide) rfl (fun ls hl => ?_)
            exact B43 v5007 x5_4 H locs ls (by omega) hP hS (lv_sub hl [1, 2, 3, 0, 4] rfl)
          · have zc5006 := eqK rfl (show (0 : Int32).toInt = 0 by decide) c5006
            refine lv_iload hx hb dX11_doorFrom_37 (lv_at hl 4 rfl) ?_
            exact retRi hx hb hr hlk hS dX11_doorFrom_39 (show (-1 : Int) ≤ x5_4.toInt ∧ x5_4.toInt ≤ 6 by omega)
        · have zc5005 := eqK rfl (show (0 : Int32).toInt = 0 by decide) c5005
          refine lv_goto (tgt := 43) hx hb dX11_doorFrom_30 (by decide) ?_
          exact B43 x5_3 x5_4 H locs ls (by omega) hP hS (lv_sub hl [0, 1, 2, 3, 4] rfl)
  exact B5 _ a2 0 s.heap [] ls (Nat.lt_succ_self _) (by decide) hP hS (lv_sub hl [2, 3, 4, 1, 0] rfl)

set_option maxRecDepth 100000 in
set_option maxHeartbeats 8000000 in
theorem sX11_slateAll (l : Launch) (G : va_G) (cs : Nat → ClassId) (h : Nat) (q : Nat → Nat) (F : Nat → Int32) (A : Nat → Nat → Int32) (D : Int64) (B : Nat → Nat → Int64) (hI : IM F A) (a1 : Int32) (ha1 : (0 : Int) ≤ a1.toInt ∧ a1.toInt ≤ 5) : SafeL l yX11_slateAll cX11_slateAll 5 (some .long) 1 G (TY cs) [.ref h, .int a1] (mS cs h q F A D B) (fun r : Int64 => True) := by
  refine mkP (Qc := QRl (fun r : Int64 => True)) (by decide) (by simp [lg_sl, Value.category]) ?_
  intro p e s m args below meth c ls hx hb hml hr hlk hown ht hK hP hS hl
  have hl : lv_has ls 5 [(0, .ref h), (1, .int a1)] := hl
  refine lv_lconst (v := 0) hx hb dX11_slateAll_0 (by decide) ?_
  refine lv_lstore_n (lv' := [(2, .long 0), (0, .ref h), (1, .int a1)]) hx hb dX11_slateAll_1 rfl hl (by decide) rfl (fun ls hl => ?_)
  refine lv_iconst (v := 0) hx hb dX11_slateAll_2 (by decide) ?_
  refine lv_istore (lv' := [(4, .int 0), (2, .long 0), (0, .ref h), (1, .int a1)]) hx hb dX11_slateAll_3 hl (by decide) rfl (fun ls hl => ?_)
  have B5 : ∀ (n : Nat) (x5_2 : Int64) (x5_4 : Int32) (H : Heap) (locs : List Loc) (ls : Array Slot), (6 - x5_4.toInt).toNat < n → (0 : Int) ≤ x5_4.toInt ∧ x5_4.toInt ≤ 6 → va_P G vwCl (mS cs h q F A D B) H → va_S (fun q => s.heap.size ≤ q) s.heap H locs → lv_has ls 5 [(0, .ref h), (1, .int a1), (2, .long x5_2), (4, .int x5_4)] → W p l e (rmk 1 0 0) s m args below meth c H locs 0 0 (MQ below (QRl (fun r : Int64 => True) s.heap.size) args s 0 0 (fun q => s.heap.size ≤ q)) (F0 m 5 ls []) := by
    intro n
    induction n with
    | zero => intro x5_2 x5_4 H locs ls hmeas hx5_4 hP hS hl; exact absurd hmeas (Nat.not_lt_zero _)
    | succ n ih5 =>
      intro x5_2 x5_4 H locs ls hmeas hx5_4 hP hS hl
      refine lv_iload hx hb dX11_slateAll_5 (lv_at hl 3 rfl) ?_
      refine lv_aload_n hx hb dX11_slateAll_7 rfl (lv_at hl 0 rfl) ?_
      refine getF (v := .ref (q 1)) hx hb ht hown hK hP iTX11 0 1 rfl rfl (by decide) fl_RX11_9 rfl dX11_slateAll_8 ?_
      refine lv_iconst (v := 5) hx hb dX11_slateAll_11 (by decide) ?_
      refine va_iald hx hb hK.1 hP 1 0 rfl rfl (show ¬ (_ ∨ _) by decide) dX11_slateAll_12 ?_
      refine W.eq (g2 := F0 m 13 ls [.int (A 1 5), .int x5_4]) rfl ?_
      have zf5001 : (0 : Int) ≤ (A 1 5).toInt ∧ (A 1 5).toInt ≤ 6 := (hI.2 1 5)
      refine lv_icmp_ge (tgt := 35) hx hb dX11_slateAll_13 (by decide) (fun c5002 => ?_) (fun c5002 => ?_)
      · have zc5002 := leK rfl rfl c5002
        refine lv_lload_n hx hb dX11_slateAll_35 rfl (lv_at hl 2 rfl) ?_
        refine lv_lconst (v := 0) hx hb dX11_slateAll_36 (by decide) ?_
        refine W.lcmp hx hb dX11_slateAll_37 ?_
        refine lv_topi (fun v5003 ev5003 => ?_)
        refine lv_if_ne (tgt := 45) hx hb dX11_slateAll_38 (by decide) (fun c5004 => ?_) (fun c5004 => ?_)
        · have zc5004 := neK rfl (show (0 : Int32).toInt = 0 by decide) c5004
          have yc5004 := cmpEQn rfl (show (0 : Int64).toInt = 0 by decide) ev5003 (by omega)
          refine lv_lload_n hx hb dX11_slateAll_45 rfl (lv_at hl 2 rfl) ?_
          exact retRl hx hb hr hlk hS dX11_slateAll_46 (trivial)
        · have zc5004 := eqK rfl (show (0 : Int32).toInt = 0 by decide) c5004
          have yc5004 := cmpEQ rfl (show (0 : Int64).toInt = 0 by decide) ev5003 (by omega)
          refine lv_lconst (v := 1) hx hb dX11_slateAll_41 (by decide) ?_
          refine lv_goto (tgt := 46) hx hb dX11_slateAll_42 (by decide) ?_
          exact retRl hx hb hr hlk hS dX11_slateAll_46 (trivial)
      · have zc5002 := nleK rfl rfl c5002
        refine lv_lload_n hx hb dX11_slateAll_16 rfl (lv_at hl 2 rfl) ?_
        refine lv_aload_n hx hb dX11_slateAll_17 rfl (lv_at hl 0 rfl) ?_
        refine lv_iload_n hx hb dX11_slateAll_18 rfl (lv_at hl 1 rfl) ?_
        refine lv_iconst (v := 2) hx hb dX11_slateAll_19 (by decide) ?_
        refine lv_iload hx hb dX11_slateAll_20 (lv_at hl 3 rfl) ?_
        refine lv_iadd hx hb dX11_slateAll_22 ?_
        refine lv_topi (fun v5005 ev5005 => ?_)
        have tv5005 : v5005.toInt = 2 + x5_4.toInt := by rw [ev5005]; exact addT (show (2 : Int32).toInt = 2 by decide) rfl (by omega)
        refine behR (runVP (As := [.int a1, .int v5005]) (rest := [.long x5_2]) ⟨hx, hb, hml, hown, ht⟩ (sX11_ofMan l G cs h q F A D B hI a1 v5005 (by omega) (by omega)) okV_RX11_234 ⟨by decide, by decide⟩ hK hP [0, 1, 2, 3, 4, 5, 6, 7, 8, 9, 10, 11, 12, 13, 14, 15, 16, 17, 18, 19] rfl 0 rfl rfl hl.1 rfl (Nat.le_of_ble_eq_true rfl) dX11_slateAll_23 ⟨by decide, by decide⟩) hP hS (fun _ h => h) (fun r5006 H locs hr5006 hP hS => ?_)
        have hr5006 : (0 : Int) ≤ r5006.toInt ∧ r5006.toInt ≤ 99 ∧ (v5005.toInt = 1 → r5006.toInt ≤ 63) ∧ (2 ≤ v5005.toInt → r5006.toInt ≤ 9) := hr5006
        refine lv_i2l hx hb dX11_slateAll_26 rfl ?_
        refine lv_topl (fun v5007 ev5007 => ?_)
        have tv5007 : v5007.toInt = r5006.toInt := by rw [ev5007]; exact Int32.toInt_toInt64 _
        refine lv_ladd hx hb dX11_slateAll_27 ?_
        refine lv_topl (fun v5008 ev5008 => ?_)
        refine lv_lstore_n (lv' := [(2, .long v5008), (0, .ref h), (1, .int a1), (4, .int x5_4)]) hx hb dX11_slateAll_28 rfl hl (by decide) rfl (fun ls hl => ?_)
        obtain ⟨v5009, ev5009⟩ : ∃ z : Int32, z = x5_4 + 1 := ⟨_, rfl⟩
        have tv5009 : v5009.toInt = x5_4.toInt + 1 := by rw [ev5009]; exact addT rfl (by decide) (by omega)
        refine lv_iinc (v := v5009) (lv' := [(4, .int v5009), (2, .long v5008), (0, .ref h), (1, .int a1)]) hx hb dX11_slateAll_29 hl (k := 3) rfl (by rw [ev5009]; rfl) (by decide) rfl (fun ls hl => ?_)
        refine lv_goto (tgt := 5) hx hb dX11_slateAll_32 (by decide) ?_
        exact ih5 v5008 v5009 H locs ls (by omega) (by omega) hP hS (lv_sub hl [2, 3, 1, 0] rfl)
  exact B5 _ 0 0 s.heap [] ls (Nat.lt_succ_self _) (by decide) hP hS (lv_sub hl [2, 3, 1, 0] rfl)

set_option maxRecDepth 100000 in
set_option maxHeartbeats 8000000 in
theorem sX11_slateOf (l : Launch) (G : va_G) (cs : Nat → ClassId) (h : Nat) (q : Nat → Nat) (F : Nat → Int32) (A : Nat → Nat → Int32) (D : Int64) (B : Nat → Nat → Int64) (hI : IM F A) (a1 : Int32) (a2 : Int32) (ha1 : (0 : Int) ≤ a1.toInt ∧ a1.toInt ≤ 5) (ha2 : (0 : Int) ≤ a2.toInt ∧ a2.toInt ≤ 5) : SafeL l yX11_slateOf cX11_slateOf 6 (some .long) 1 G (TY cs) [.ref h, .int a1, .int a2] (mS cs h q F A D B) (fun r : Int64 => True) := by
  refine mkP (Qc := QRl (fun r : Int64 => True)) (by decide) (by simp [lg_sl, Value.category]) ?_
  intro p e s m args below meth c ls hx hb hml hr hlk hown ht hK hP hS hl
  have hl : lv_has ls 6 [(0, .ref h), (1, .int a1), (2, .int a2)] := hl
  refine lv_lconst (v := 0) hx hb dX11_slateOf_0 (by decide) ?_
  refine lv_lstore_n (lv' := [(3, .long 0), (0, .ref h), (1, .int a1), (2, .int a2)]) hx hb dX11_slateOf_1 rfl hl (by decide) rfl (fun ls hl => ?_)
  refine lv_iconst (v := 0) hx hb dX11_slateOf_2 (by decide) ?_
  refine lv_istore (lv' := [(5, .int 0), (3, .long 0), (0, .ref h), (1, .int a1), (2, .int a2)]) hx hb dX11_slateOf_3 hl (by decide) rfl (fun ls hl => ?_)
  have B5 : ∀ (n : Nat) (x5_3 : Int64) (x5_5 : Int32) (H : Heap) (locs : List Loc) (ls : Array Slot), (6 - x5_5.toInt).toNat < n → (0 : Int) ≤ x5_5.toInt ∧ x5_5.toInt ≤ 6 → va_P G vwCl (mS cs h q F A D B) H → va_S (fun q => s.heap.size ≤ q) s.heap H locs → lv_has ls 6 [(0, .ref h), (1, .int a1), (2, .int a2), (3, .long x5_3), (5, .int x5_5)] → W p l e (rmk 1 0 0) s m args below meth c H locs 0 0 (MQ below (QRl (fun r : Int64 => True) s.heap.size) args s 0 0 (fun q => s.heap.size ≤ q)) (F0 m 5 ls []) := by
    intro n
    induction n with
    | zero => intro x5_3 x5_5 H locs ls hmeas hx5_5 hP hS hl; exact absurd hmeas (Nat.not_lt_zero _)
    | succ n ih5 =>
      intro x5_3 x5_5 H locs ls hmeas hx5_5 hP hS hl
      refine lv_iload hx hb dX11_slateOf_5 (lv_at hl 4 rfl) ?_
      refine lv_aload_n hx hb dX11_slateOf_7 rfl (lv_at hl 0 rfl) ?_
      refine getF (v := .ref (q 1)) hx hb ht hown hK hP iTX11 0 1 rfl rfl (by decide) fl_RX11_9 rfl dX11_slateOf_8 ?_
      refine lv_iconst (v := 5) hx hb dX11_slateOf_11 (by decide) ?_
      refine va_iald hx hb hK.1 hP 1 0 rfl rfl (show ¬ (_ ∨ _) by decide) dX11_slateOf_12 ?_
      refine W.eq (g2 := F0 m 13 ls [.int (A 1 5), .int x5_5]) rfl ?_
      have zf5001 : (0 : Int) ≤ (A 1 5).toInt ∧ (A 1 5).toInt ≤ 6 := (hI.2 1 5)
      refine lv_icmp_ge (tgt := 35) hx hb dX11_slateOf_13 (by decide) (fun c5002 => ?_) (fun c5002 => ?_)
      · have zc5002 := leK rfl rfl c5002
        refine lv_lload_n hx hb dX11_slateOf_35 rfl (lv_at hl 3 rfl) ?_
        refine lv_lconst (v := 0) hx hb dX11_slateOf_36 (by decide) ?_
        refine W.lcmp hx hb dX11_slateOf_37 ?_
        refine lv_topi (fun v5003 ev5003 => ?_)
        refine lv_if_ne (tgt := 54) hx hb dX11_slateOf_38 (by decide) (fun c5004 => ?_) (fun c5004 => ?_)
        · have zc5004 := neK rfl (show (0 : Int32).toInt = 0 by decide) c5004
          have yc5004 := cmpEQn rfl (show (0 : Int64).toInt = 0 by decide) ev5003 (by omega)
          refine lv_aload_n hx hb dX11_slateOf_54 rfl (lv_at hl 0 rfl) ?_
          refine lv_iload_n hx hb dX11_slateOf_55 rfl (lv_at hl 1 rfl) ?_
          refine lv_iconst (v := 2) hx hb dX11_slateOf_56 (by decide) ?_
          refine lv_iload_n hx hb dX11_slateOf_57 rfl (lv_at hl 2 rfl) ?_
          refine lv_iadd hx hb dX11_slateOf_58 ?_
          refine lv_topi (fun v5005 ev5005 => ?_)
          have tv5005 : v5005.toInt = 2 + a2.toInt := by rw [ev5005]; exact addT (show (2 : Int32).toInt = 2 by decide) rfl (by omega)
          refine behR (runVP (As := [.int a1, .int v5005]) (rest := []) ⟨hx, hb, hml, hown, ht⟩ (sX11_ofMan l G cs h q F A D B hI a1 v5005 (by omega) (by omega)) okV_RX11_234 ⟨by decide, by decide⟩ hK hP [0, 1, 2, 3, 4, 5, 6, 7, 8, 9, 10, 11, 12, 13, 14, 15, 16, 17, 18, 19] rfl 0 rfl rfl hl.1 rfl (Nat.le_of_ble_eq_true rfl) dX11_slateOf_59 ⟨by decide, by decide⟩) hP hS (fun _ h => h) (fun r5006 H locs hr5006 hP hS => ?_)
          have hr5006 : (0 : Int) ≤ r5006.toInt ∧ r5006.toInt ≤ 99 ∧ (v5005.toInt = 1 → r5006.toInt ≤ 63) ∧ (2 ≤ v5005.toInt → r5006.toInt ≤ 9) := hr5006
          refine lv_i2l hx hb dX11_slateOf_62 rfl ?_
          refine lv_topl (fun v5007 ev5007 => ?_)
          have tv5007 : v5007.toInt = r5006.toInt := by rw [ev5007]; exact Int32.toInt_toInt64 _
          exact retRl hx hb hr hlk hS dX11_slateOf_63 (trivial)
        · have zc5004 := eqK rfl (show (0 : Int32).toInt = 0 by decide) c5004
          have yc5004 := cmpEQ rfl (show (0 : Int64).toInt = 0 by decide) ev5003 (by omega)
          refine lv_iload_n hx hb dX11_slateOf_41 rfl (lv_at hl 1 rfl) ?_
          refine lv_iload_n hx hb dX11_slateOf_42 rfl (lv_at hl 2 rfl) ?_
          refine lv_icmp_ne (tgt := 50) hx hb dX11_slateOf_43 (by decide) (fun c5008 => ?_) (fun c5008 => ?_)
          · have zc5008 := neK rfl rfl c5008
            refine lv_lconst (v := 0) hx hb dX11_slateOf_50 (by decide) ?_
            refine lv_goto (tgt := 63) hx hb dX11_slateOf_51 (by decide) ?_
            exact retRl hx hb hr hlk hS dX11_slateOf_63 (trivial)
          · have zc5008 := eqK rfl rfl c5008
            refine lv_lconst (v := 1) hx hb dX11_slateOf_46 (by decide) ?_
            refine lv_goto (tgt := 63) hx hb dX11_slateOf_47 (by decide) ?_
            exact retRl hx hb hr hlk hS dX11_slateOf_63 (trivial)
      · have zc5002 := nleK rfl rfl c5002
        refine lv_lload_n hx hb dX11_slateOf_16 rfl (lv_at hl 3 rfl) ?_
        refine lv_aload_n hx hb dX11_slateOf_17 rfl (lv_at hl 0 rfl) ?_
        refine lv_iload_n hx hb dX11_slateOf_18 rfl (lv_at hl 1 rfl) ?_
        refine lv_iconst (v := 2) hx hb dX11_slateOf_19 (by decide) ?_
        refine lv_iload hx hb dX11_slateOf_20 (lv_at hl 4 rfl) ?_
        refine lv_iadd hx hb dX11_slateOf_22 ?_
        refine lv_topi (fun v5009 ev5009 => ?_)
        have tv5009 : v5009.toInt = 2 + x5_5.toInt := by rw [ev5009]; exact addT (show (2 : Int32).toInt = 2 by decide) rfl (by omega)
        refine behR (runVP (As := [.int a1, .int v5009]) (rest := [.long x5_3]) ⟨hx, hb, hml, hown, ht⟩ (sX11_ofMan l G cs h q F A D B hI a1 v5009 (by omega) (by omega)) okV_RX11_234 ⟨by decide, by decide⟩ hK hP [0, 1, 2, 3, 4, 5, 6, 7, 8, 9, 10, 11, 12, 13, 14, 15, 16, 17, 18, 19] rfl 0 rfl rfl hl.1 rfl (Nat.le_of_ble_eq_true rfl) dX11_slateOf_23 ⟨by decide, by decide⟩) hP hS (fun _ h => h) (fun r5010 H locs hr5010 hP hS => ?_)
        have hr5010 : (0 : Int) ≤ r5010.toInt ∧ r5010.toInt ≤ 99 ∧ (v5009.toInt = 1 → r5010.toInt ≤ 63) ∧ (2 ≤ v5009.toInt → r5010.toInt ≤ 9) := hr5010
        refine lv_i2l hx hb dX11_slateOf_26 rfl ?_
        refine lv_topl (fun v5011 ev5011 => ?_)
        have tv5011 : v5011.toInt = r5010.toInt := by rw [ev5011]; exact Int32.toInt_toInt64 _
        refine lv_ladd hx hb dX11_slateOf_27 ?_
        refine lv_topl (fun v5012 ev5012 => ?_)
        refine lv_lstore_n (lv' := [(3, .long v5012), (0, .ref h), (1, .int a1), (2, .int a2), (5, .int x5_5)]) hx hb dX11_slateOf_28 rfl hl (by decide) rfl (fun ls hl => ?_)
        obtain ⟨v5013, ev5013⟩ : ∃ z : Int32, z = x5_5 + 1 := ⟨_, rfl⟩
        have tv5013 : v5013.toInt = x5_5.toInt + 1 := by rw [ev5013]; exact addT rfl (by decide) (by omega)
        refine lv_iinc (v := v5013) (lv' := [(5, .int v5013), (3, .long v5012), (0, .ref h), (1, .int a1), (2, .int a2)]) hx hb dX11_slateOf_29 hl (k := 4) rfl (by rw [ev5013]; rfl) (by decide) rfl (fun ls hl => ?_)
        refine lv_goto (tgt := 5) hx hb dX11_slateOf_32 (by decide) ?_
        exact ih5 v5012 v5013 H locs ls (by omega) (by omega) hP hS (lv_sub hl [2, 3, 4, 1, 0] rfl)
  exact B5 _ 0 0 s.heap [] ls (Nat.lt_succ_self _) (by decide) hP hS (lv_sub hl [2, 3, 4, 1, 0] rfl)

set_option maxRecDepth 100000 in
set_option maxHeartbeats 8000000 in
theorem sX11_asksRound (l : Launch) (G : va_G) (cs : Nat → ClassId) (h : Nat) (q : Nat → Nat) (F : Nat → Int32) (A : Nat → Nat → Int32) (D : Int64) (B : Nat → Nat → Int64) (hI : IM F A) (a1 : Int32) (a2 : Int32) (ha2 : (0 : Int) ≤ a2.toInt ∧ a2.toInt ≤ 1) : SafeR l yX11_asksRound cX11_asksRound 4 (some .int) 3 G (TY cs) [.ref h, .int a1, .int a2] (mS cs h q F A D B) (fun r : Int32 => r.toInt < 0 ∨ (r.toInt = 0 ∧ 0 ≤ a1.toInt ∧ a1.toInt ≤ 3)) := by
  refine mkP (Qc := QRi (fun r : Int32 => r.toInt < 0 ∨ (r.toInt = 0 ∧ 0 ≤ a1.toInt ∧ a1.toInt ≤ 3))) (by decide) (by simp [lg_sl, Value.category]) ?_
  intro p e s m args below meth c ls hx hb hml hr hlk hown ht hK hP hS hl
  have hl : lv_has ls 4 [(0, .ref h), (1, .int a1), (2, .int a2)] := hl
  refine lv_iload_n hx hb dX11_asksRound_0 rfl (lv_at hl 1 rfl) ?_
  refine behR (runSP (As := [.int a1]) (rest := []) ⟨hx, hb, hml, hown, ht⟩ (sX11_isSlot l G cs a1 ) okS_RX11_290 ⟨by decide, by decide⟩ hK hP [] rfl hl.1 rfl (Nat.le_of_ble_eq_true rfl) dX11_asksRound_1 ⟨by decide, by decide⟩) hP hS (fun _ h => h) (fun r1 H locs hr1 hP hS => ?_)
  have hr1 : (r1.toInt = 1 ∧ 0 ≤ a1.toInt ∧ a1.toInt ≤ 3) ∨ r1.toInt = 0 := hr1
  refine lv_if_eq (tgt := 18) hx hb dX11_asksRound_4 (by decide) (fun c2 => ?_) (fun c2 => ?_)
  · have zc2 := eqK rfl (show (0 : Int32).toInt = 0 by decide) c2
    refine lv_bipush (v := (-2)) hx hb dX11_asksRound_18 (by decide) ?_
    exact retRi hx hb hr hlk hS dX11_asksRound_20 (show (-2 : Int32).toInt < 0 ∨ ((-2 : Int32).toInt = 0 ∧ 0 ≤ a1.toInt ∧ a1.toInt ≤ 3) by have kk : (-2 : Int32).toInt = -2 := (by decide); omega)
  · have zc2 := neK rfl (show (0 : Int32).toInt = 0 by decide) c2
    refine lv_aload_n hx hb dX11_asksRound_7 rfl (lv_at hl 0 rfl) ?_
    refine behR (runVP (As := []) (rest := []) ⟨hx, hb, hml, hown, ht⟩ (sX11_isHouse l G cs h q F A D B hI  ) okV_RX11_83 ⟨by decide, by decide⟩ hK hP [0, 1, 2, 3, 4, 5, 6, 7, 8, 9, 10, 11, 12, 13, 14, 15, 16, 17, 18, 19] rfl 0 rfl rfl hl.1 rfl (Nat.le_of_ble_eq_true rfl) dX11_asksRound_8 ⟨by decide, by decide⟩) hP hS (fun _ h => h) (fun r3 H locs hr3 hP hS => ?_)
    have hr3 : (0 : Int) ≤ r3.toInt ∧ r3.toInt ≤ 1 := hr3
    refine lv_if_eq (tgt := 18) hx hb dX11_asksRound_11 (by decide) (fun c4 => ?_) (fun c4 => ?_)
    · have zc4 := eqK rfl (show (0 : Int32).toInt = 0 by decide) c4
      refine lv_bipush (v := (-2)) hx hb dX11_asksRound_18 (by decide) ?_
      exact retRi hx hb hr hlk hS dX11_asksRound_20 (show (-2 : Int32).toInt < 0 ∨ ((-2 : Int32).toInt = 0 ∧ 0 ≤ a1.toInt ∧ a1.toInt ≤ 3) by have kk : (-2 : Int32).toInt = -2 := (by decide); omega)
    · have zc4 := neK rfl (show (0 : Int32).toInt = 0 by decide) c4
      refine lv_iload_n hx hb dX11_asksRound_14 rfl (lv_at hl 2 rfl) ?_
      refine lv_if_ne (tgt := 21) hx hb dX11_asksRound_15 (by decide) (fun c5 => ?_) (fun c5 => ?_)
      · have zc5 := neK rfl (show (0 : Int32).toInt = 0 by decide) c5
        refine lv_aload_n hx hb dX11_asksRound_21 rfl (lv_at hl 0 rfl) ?_
        refine getF (v := .ref (q 31)) hx hb ht hown hK hP iTX11 0 31 rfl rfl (by decide) fl_RX11_61 rfl dX11_asksRound_22 ?_
        refine lv_iload_n hx hb dX11_asksRound_25 rfl (lv_at hl 1 rfl) ?_
        refine va_iald hx hb hK.1 hP 16 0 rfl rfl (inK rfl (by omega) (by decide)) dX11_asksRound_26 ?_
        refine lv_topi (fun v6 ev6 => ?_)
        have zf7 : (-1 : Int) ≤ v6.toInt ∧ v6.toInt ≤ 60 := by rw [ev6]; exact (hI.2 31 _)
        refine lv_iconst (v := (-1)) hx hb dX11_asksRound_27 (by decide) ?_
        refine lv_icmp_ne (tgt := 34) hx hb dX11_asksRound_28 (by decide) (fun c8 => ?_) (fun c8 => ?_)
        · have zc8 := neK rfl (show (-1 : Int32).toInt = (-1) by decide) c8
          refine lv_iconst (v := 0) hx hb dX11_asksRound_34 (by decide) ?_
          refine lv_istore_n (lv' := [(3, .int 0), (0, .ref h), (1, .int a1), (2, .int a2)]) hx hb dX11_asksRound_35 rfl hl (by decide) rfl (fun ls hl => ?_)
          have B36 : ∀ (n : Nat) (x36_3 : Int32) (H : Heap) (locs : List Loc) (ls : Array Slot), (60 - x36_3.toInt).toNat < n → (0 : Int) ≤ x36_3.toInt ∧ x36_3.toInt ≤ 60 → va_P G vwCl (mS cs h q F A D B) H → va_S (fun q => s.heap.size ≤ q) s.heap H locs → lv_has ls 4 [(0, .ref h), (1, .int a1), (2, .int a2), (3, .int x36_3)] → W p l e (rmk 3 0 0) s m args below meth c H locs 0 0 (MQ below (QRi (fun r : Int32 => r.toInt < 0 ∨ (r.toInt = 0 ∧ 0 ≤ a1.toInt ∧ a1.toInt ≤ 3)) s.heap.size) args s 0 0 (fun q => s.heap.size ≤ q)) (F0 m 36 ls []) := by
            intro n
            induction n with
            | zero => intro x36_3 H locs ls hmeas hx36_3 hP hS hl; exact absurd hmeas (Nat.not_lt_zero _)
            | succ n ih36 =>
              intro x36_3 H locs ls hmeas hx36_3 hP hS hl
              refine lv_iload_n hx hb dX11_asksRound_36 rfl (lv_at hl 3 rfl) ?_
              refine lv_aload_n hx hb dX11_asksRound_37 rfl (lv_at hl 0 rfl) ?_
              refine getF (v := .ref (q 31)) hx hb ht hown hK hP iTX11 0 31 rfl rfl (by decide) fl_RX11_61 rfl dX11_asksRound_38 ?_
              refine lv_iload_n hx hb dX11_asksRound_41 rfl (lv_at hl 1 rfl) ?_
              refine va_iald hx hb hK.1 hP 16 0 rfl rfl (inK rfl (by omega) (by decide)) dX11_asksRound_42 ?_
              refine lv_topi (fun v19001 ev19001 => ?_)
              have zf19002 : (-1 : Int) ≤ v19001.toInt ∧ v19001.toInt ≤ 60 := by rw [ev19001]; exact (hI.2 31 _)
              refine lv_icmp_ge (tgt := 68) hx hb dX11_asksRound_43 (by decide) (fun c19003 => ?_) (fun c19003 => ?_)
              · have zc19003 := leK rfl rfl c19003
                refine lv_iconst (v := 0) hx hb dX11_asksRound_68 (by decide) ?_
                exact retRi hx hb hr hlk hS dX11_asksRound_69 (show (0 : Int32).toInt < 0 ∨ ((0 : Int32).toInt = 0 ∧ 0 ≤ a1.toInt ∧ a1.toInt ≤ 3) by have kk : (0 : Int32).toInt = 0 := (by decide); omega)
              · have zc19003 := nleK rfl rfl c19003
                refine lv_aload_n hx hb dX11_asksRound_46 rfl (lv_at hl 0 rfl) ?_
                refine lv_aload_n hx hb dX11_asksRound_47 rfl (lv_at hl 0 rfl) ?_
                refine lv_iload_n hx hb dX11_asksRound_48 rfl (lv_at hl 1 rfl) ?_
                refine lv_iload_n hx hb dX11_asksRound_49 rfl (lv_at hl 3 rfl) ?_
                refine behRL (runVP (As := [.int a1, .int x36_3]) (rest := [.ref h]) ⟨hx, hb, hml, hown, ht⟩ (sX11_numberAt l G cs h q F A D B hI a1 x36_3 (by omega) (by omega)) okV_RX11_286 ⟨by decide, by decide⟩ hK hP [0, 1, 2, 3, 4, 5, 6, 7, 8, 9, 10, 11, 12, 13, 14, 15, 16, 17, 18, 19] rfl 0 rfl rfl hl.1 rfl (Nat.le_of_ble_eq_true rfl) dX11_asksRound_50 ⟨by decide, by decide⟩) hP hS (fun _ h => h) (fun r19004 H locs hr19004 hP hS => ?_)
                refine behR (runVP (As := [.long r19004]) (rest := []) ⟨hx, hb, hml, hown, ht⟩ (sX11_isRoomOrNone l G cs h q F A D B hI r19004 ) okV_RX11_275 ⟨by decide, by decide⟩ hK hP [0, 1, 2, 3, 4, 5, 6, 7, 8, 9, 10, 11, 12, 13, 14, 15, 16, 17, 18, 19] rfl 0 rfl rfl hl.1 rfl (Nat.le_of_ble_eq_true rfl) dX11_asksRound_53 ⟨by decide, by decide⟩) hP hS (fun _ h => h) (fun r19005 H locs hr19005 hP hS => ?_)
                have hr19005 : (r19005.toInt = 1 ∧ -1 ≤ r19004.toInt ∧ r19004.toInt ≤ 6) ∨ r19005.toInt = 0 := hr19005
                refine lv_if_ne (tgt := 62) hx hb dX11_asksRound_56 (by decide) (fun c19006 => ?_) (fun c19006 => ?_)
                · have zc19006 := neK rfl (show (0 : Int32).toInt = 0 by decide) c19006
                  obtain ⟨v19007, ev19007⟩ : ∃ z : Int32, z = x36_3 + 1 := ⟨_, rfl⟩
                  have tv19007 : v19007.toInt = x36_3.toInt + 1 := by rw [ev19007]; exact addT rfl (by decide) (by omega)
                  refine lv_iinc (v := v19007) (lv' := [(3, .int v19007), (0, .ref h), (1, .int a1), (2, .int a2)]) hx hb dX11_asksRound_62 hl (k := 3) rfl (by rw [ev19007]; rfl) (by decide) rfl (fun ls hl => ?_)
                  refine lv_goto (tgt := 36) hx hb dX11_asksRound_65 (by decide) ?_
                  exact ih36 v19007 H locs ls (by omega) (by omega) hP hS (lv_sub hl [1, 2, 3, 0] rfl)
                · have zc19006 := eqK rfl (show (0 : Int32).toInt = 0 by decide) c19006
                  refine lv_bipush (v := (-2)) hx hb dX11_asksRound_59 (by decide) ?_
                  exact retRi hx hb hr hlk hS dX11_asksRound_61 (show (-2 : Int32).toInt < 0 ∨ ((-2 : Int32).toInt = 0 ∧ 0 ≤ a1.toInt ∧ a1.toInt ≤ 3) by have kk : (-2 : Int32).toInt = -2 := (by decide); omega)
          exact B36 _ 0 H locs ls (Nat.lt_succ_self _) (by decide) hP hS (lv_sub hl [1, 2, 3, 0] rfl)
        · have zc8 := eqK rfl (show (-1 : Int32).toInt = (-1) by decide) c8
          refine lv_bipush (v := (-6)) hx hb dX11_asksRound_31 (by decide) ?_
          exact retRi hx hb hr hlk hS dX11_asksRound_33 (show (-6 : Int32).toInt < 0 ∨ ((-6 : Int32).toInt = 0 ∧ 0 ≤ a1.toInt ∧ a1.toInt ≤ 3) by have kk : (-6 : Int32).toInt = -6 := (by decide); omega)
      · have zc5 := eqK rfl (show (0 : Int32).toInt = 0 by decide) c5
        refine lv_bipush (v := (-2)) hx hb dX11_asksRound_18 (by decide) ?_
        exact retRi hx hb hr hlk hS dX11_asksRound_20 (show (-2 : Int32).toInt < 0 ∨ ((-2 : Int32).toInt = 0 ∧ 0 ≤ a1.toInt ∧ a1.toInt ≤ 3) by have kk : (-2 : Int32).toInt = -2 := (by decide); omega)

set_option maxRecDepth 100000 in
set_option maxHeartbeats 8000000 in
theorem sX11_asksHabit (l : Launch) (G : va_G) (cs : Nat → ClassId) (h : Nat) (q : Nat → Nat) (F : Nat → Int32) (A : Nat → Nat → Int32) (D : Int64) (B : Nat → Nat → Int64) (hI : IM F A) (a1 : Int32) (a2 : Int32) (ha2 : (0 : Int) ≤ a2.toInt ∧ a2.toInt ≤ 1) : SafeR l yX11_asksHabit cX11_asksHabit 4 (some .int) 2 G (TY cs) [.ref h, .int a1, .int a2] (mS cs h q F A D B) (fun r : Int32 => r.toInt < 0 ∨ (r.toInt = 0 ∧ 0 ≤ a1.toInt ∧ a1.toInt ≤ 3)) := by
  refine mkP (Qc := QRi (fun r : Int32 => r.toInt < 0 ∨ (r.toInt = 0 ∧ 0 ≤ a1.toInt ∧ a1.toInt ≤ 3))) (by decide) (by simp [lg_sl, Value.category]) ?_
  intro p e s m args below meth c ls hx hb hml hr hlk hown ht hK hP hS hl
  have hl : lv_has ls 4 [(0, .ref h), (1, .int a1), (2, .int a2)] := hl
  refine lv_iload_n hx hb dX11_asksHabit_0 rfl (lv_at hl 1 rfl) ?_
  refine behR (runSP (As := [.int a1]) (rest := []) ⟨hx, hb, hml, hown, ht⟩ (sX11_isSlot l G cs a1 ) okS_RX11_290 ⟨by decide, by decide⟩ hK hP [] rfl hl.1 rfl (Nat.le_of_ble_eq_true rfl) dX11_asksHabit_1 ⟨by decide, by decide⟩) hP hS (fun _ h => h) (fun r1 H locs hr1 hP hS => ?_)
  have hr1 : (r1.toInt = 1 ∧ 0 ≤ a1.toInt ∧ a1.toInt ≤ 3) ∨ r1.toInt = 0 := hr1
  refine lv_if_eq (tgt := 18) hx hb dX11_asksHabit_4 (by decide) (fun c2 => ?_) (fun c2 => ?_)
  · have zc2 := eqK rfl (show (0 : Int32).toInt = 0 by decide) c2
    refine lv_bipush (v := (-2)) hx hb dX11_asksHabit_18 (by decide) ?_
    exact retRi hx hb hr hlk hS dX11_asksHabit_20 (show (-2 : Int32).toInt < 0 ∨ ((-2 : Int32).toInt = 0 ∧ 0 ≤ a1.toInt ∧ a1.toInt ≤ 3) by have kk : (-2 : Int32).toInt = -2 := (by decide); omega)
  · have zc2 := neK rfl (show (0 : Int32).toInt = 0 by decide) c2
    refine lv_aload_n hx hb dX11_asksHabit_7 rfl (lv_at hl 0 rfl) ?_
    refine behR (runVP (As := []) (rest := []) ⟨hx, hb, hml, hown, ht⟩ (sX11_isHouse l G cs h q F A D B hI  ) okV_RX11_83 ⟨by decide, by decide⟩ hK hP [0, 1, 2, 3, 4, 5, 6, 7, 8, 9, 10, 11, 12, 13, 14, 15, 16, 17, 18, 19] rfl 0 rfl rfl hl.1 rfl (Nat.le_of_ble_eq_true rfl) dX11_asksHabit_8 ⟨by decide, by decide⟩) hP hS (fun _ h => h) (fun r3 H locs hr3 hP hS => ?_)
    have hr3 : (0 : Int) ≤ r3.toInt ∧ r3.toInt ≤ 1 := hr3
    refine lv_if_eq (tgt := 18) hx hb dX11_asksHabit_11 (by decide) (fun c4 => ?_) (fun c4 => ?_)
    · have zc4 := eqK rfl (show (0 : Int32).toInt = 0 by decide) c4
      refine lv_bipush (v := (-2)) hx hb dX11_asksHabit_18 (by decide) ?_
      exact retRi hx hb hr hlk hS dX11_asksHabit_20 (show (-2 : Int32).toInt < 0 ∨ ((-2 : Int32).toInt = 0 ∧ 0 ≤ a1.toInt ∧ a1.toInt ≤ 3) by have kk : (-2 : Int32).toInt = -2 := (by decide); omega)
    · have zc4 := neK rfl (show (0 : Int32).toInt = 0 by decide) c4
      refine lv_iload_n hx hb dX11_asksHabit_14 rfl (lv_at hl 2 rfl) ?_
      refine lv_if_ne (tgt := 21) hx hb dX11_asksHabit_15 (by decide) (fun c5 => ?_) (fun c5 => ?_)
      · have zc5 := neK rfl (show (0 : Int32).toInt = 0 by decide) c5
        refine lv_aload_n hx hb dX11_asksHabit_21 rfl (lv_at hl 0 rfl) ?_
        refine getF (v := .ref (q 31)) hx hb ht hown hK hP iTX11 0 31 rfl rfl (by decide) fl_RX11_61 rfl dX11_asksHabit_22 ?_
        refine lv_iload_n hx hb dX11_asksHabit_25 rfl (lv_at hl 1 rfl) ?_
        refine va_iald hx hb hK.1 hP 16 0 rfl rfl (inK rfl (by omega) (by decide)) dX11_asksHabit_26 ?_
        refine lv_topi (fun v6 ev6 => ?_)
        have zf7 : (-1 : Int) ≤ v6.toInt ∧ v6.toInt ≤ 60 := by rw [ev6]; exact (hI.2 31 _)
        refine lv_iconst (v := (-1)) hx hb dX11_asksHabit_27 (by decide) ?_
        refine lv_icmp_ne (tgt := 34) hx hb dX11_asksHabit_28 (by decide) (fun c8 => ?_) (fun c8 => ?_)
        · have zc8 := neK rfl (show (-1 : Int32).toInt = (-1) by decide) c8
          refine lv_iconst (v := 0) hx hb dX11_asksHabit_34 (by decide) ?_
          refine lv_istore_n (lv' := [(3, .int 0), (0, .ref h), (1, .int a1), (2, .int a2)]) hx hb dX11_asksHabit_35 rfl hl (by decide) rfl (fun ls hl => ?_)
          have B36 : ∀ (n : Nat) (x36_3 : Int32) (H : Heap) (locs : List Loc) (ls : Array Slot), (60 - x36_3.toInt).toNat < n → (0 : Int) ≤ x36_3.toInt ∧ x36_3.toInt ≤ 60 → va_P G vwCl (mS cs h q F A D B) H → va_S (fun q => s.heap.size ≤ q) s.heap H locs → lv_has ls 4 [(0, .ref h), (1, .int a1), (2, .int a2), (3, .int x36_3)] → W p l e (rmk 2 0 0) s m args below meth c H locs 0 0 (MQ below (QRi (fun r : Int32 => r.toInt < 0 ∨ (r.toInt = 0 ∧ 0 ≤ a1.toInt ∧ a1.toInt ≤ 3)) s.heap.size) args s 0 0 (fun q => s.heap.size ≤ q)) (F0 m 36 ls []) := by
            intro n
            induction n with
            | zero => intro x36_3 H locs ls hmeas hx36_3 hP hS hl; exact absurd hmeas (Nat.not_lt_zero _)
            | succ n ih36 =>
              intro x36_3 H locs ls hmeas hx36_3 hP hS hl
              refine lv_iload_n hx hb dX11_asksHabit_36 rfl (lv_at hl 3 rfl) ?_
              refine lv_aload_n hx hb dX11_asksHabit_37 rfl (lv_at hl 0 rfl) ?_
              refine getF (v := .ref (q 31)) hx hb ht hown hK hP iTX11 0 31 rfl rfl (by decide) fl_RX11_61 rfl dX11_asksHabit_38 ?_
              refine lv_iload_n hx hb dX11_asksHabit_41 rfl (lv_at hl 1 rfl) ?_
              refine va_iald hx hb hK.1 hP 16 0 rfl rfl (inK rfl (by omega) (by decide)) dX11_asksHabit_42 ?_
              refine lv_topi (fun v19001 ev19001 => ?_)
              have zf19002 : (-1 : Int) ≤ v19001.toInt ∧ v19001.toInt ≤ 60 := by rw [ev19001]; exact (hI.2 31 _)
              refine lv_icmp_ge (tgt := 68) hx hb dX11_asksHabit_43 (by decide) (fun c19003 => ?_) (fun c19003 => ?_)
              · have zc19003 := leK rfl rfl c19003
                refine lv_iconst (v := 0) hx hb dX11_asksHabit_68 (by decide) ?_
                exact retRi hx hb hr hlk hS dX11_asksHabit_69 (show (0 : Int32).toInt < 0 ∨ ((0 : Int32).toInt = 0 ∧ 0 ≤ a1.toInt ∧ a1.toInt ≤ 3) by have kk : (0 : Int32).toInt = 0 := (by decide); omega)
              · have zc19003 := nleK rfl rfl c19003
                refine lv_aload_n hx hb dX11_asksHabit_46 rfl (lv_at hl 0 rfl) ?_
                refine lv_aload_n hx hb dX11_asksHabit_47 rfl (lv_at hl 0 rfl) ?_
                refine lv_iload_n hx hb dX11_asksHabit_48 rfl (lv_at hl 1 rfl) ?_
                refine lv_iload_n hx hb dX11_asksHabit_49 rfl (lv_at hl 3 rfl) ?_
                refine behRL (runVP (As := [.int a1, .int x36_3]) (rest := [.ref h]) ⟨hx, hb, hml, hown, ht⟩ (sX11_numberAt l G cs h q F A D B hI a1 x36_3 (by omega) (by omega)) okV_RX11_286 ⟨by decide, by decide⟩ hK hP [0, 1, 2, 3, 4, 5, 6, 7, 8, 9, 10, 11, 12, 13, 14, 15, 16, 17, 18, 19] rfl 0 rfl rfl hl.1 rfl (Nat.le_of_ble_eq_true rfl) dX11_asksHabit_50 ⟨by decide, by decide⟩) hP hS (fun _ h => h) (fun r19004 H locs hr19004 hP hS => ?_)
                refine behR (runVP (As := [.long r19004]) (rest := []) ⟨hx, hb, hml, hown, ht⟩ (sX11_isRoom l G cs h q F A D B hI r19004 ) okV_RX11_89 ⟨by decide, by decide⟩ hK hP [0, 1, 2, 3, 4, 5, 6, 7, 8, 9, 10, 11, 12, 13, 14, 15, 16, 17, 18, 19] rfl 0 rfl rfl hl.1 rfl (Nat.le_of_ble_eq_true rfl) dX11_asksHabit_53 ⟨by decide, by decide⟩) hP hS (fun _ h => h) (fun r19005 H locs hr19005 hP hS => ?_)
                have hr19005 : (r19005.toInt = 1 ∧ 0 ≤ r19004.toInt ∧ r19004.toInt < (A 1 4).toInt ∧ r19004.toInt ≤ 6 ∧ (A 1 4).toInt ≤ 7) ∨ r19005.toInt = 0 := hr19005
                refine lv_if_ne (tgt := 62) hx hb dX11_asksHabit_56 (by decide) (fun c19006 => ?_) (fun c19006 => ?_)
                · have zc19006 := neK rfl (show (0 : Int32).toInt = 0 by decide) c19006
                  obtain ⟨v19007, ev19007⟩ : ∃ z : Int32, z = x36_3 + 1 := ⟨_, rfl⟩
                  have tv19007 : v19007.toInt = x36_3.toInt + 1 := by rw [ev19007]; exact addT rfl (by decide) (by omega)
                  refine lv_iinc (v := v19007) (lv' := [(3, .int v19007), (0, .ref h), (1, .int a1), (2, .int a2)]) hx hb dX11_asksHabit_62 hl (k := 3) rfl (by rw [ev19007]; rfl) (by decide) rfl (fun ls hl => ?_)
                  refine lv_goto (tgt := 36) hx hb dX11_asksHabit_65 (by decide) ?_
                  exact ih36 v19007 H locs ls (by omega) (by omega) hP hS (lv_sub hl [1, 2, 3, 0] rfl)
                · have zc19006 := eqK rfl (show (0 : Int32).toInt = 0 by decide) c19006
                  refine lv_bipush (v := (-2)) hx hb dX11_asksHabit_59 (by decide) ?_
                  exact retRi hx hb hr hlk hS dX11_asksHabit_61 (show (-2 : Int32).toInt < 0 ∨ ((-2 : Int32).toInt = 0 ∧ 0 ≤ a1.toInt ∧ a1.toInt ≤ 3) by have kk : (-2 : Int32).toInt = -2 := (by decide); omega)
          exact B36 _ 0 H locs ls (Nat.lt_succ_self _) (by decide) hP hS (lv_sub hl [1, 2, 3, 0] rfl)
        · have zc8 := eqK rfl (show (-1 : Int32).toInt = (-1) by decide) c8
          refine lv_bipush (v := (-6)) hx hb dX11_asksHabit_31 (by decide) ?_
          exact retRi hx hb hr hlk hS dX11_asksHabit_33 (show (-6 : Int32).toInt < 0 ∨ ((-6 : Int32).toInt = 0 ∧ 0 ≤ a1.toInt ∧ a1.toInt ≤ 3) by have kk : (-6 : Int32).toInt = -6 := (by decide); omega)
      · have zc5 := eqK rfl (show (0 : Int32).toInt = 0 by decide) c5
        refine lv_bipush (v := (-2)) hx hb dX11_asksHabit_18 (by decide) ?_
        exact retRi hx hb hr hlk hS dX11_asksHabit_20 (show (-2 : Int32).toInt < 0 ∨ ((-2 : Int32).toInt = 0 ∧ 0 ≤ a1.toInt ∧ a1.toInt ≤ 3) by have kk : (-2 : Int32).toInt = -2 := (by decide); omega)

set_option maxRecDepth 100000 in
set_option maxHeartbeats 8000000 in
theorem sX11_callIn (l : Launch) (G : va_G) (cs : Nat → ClassId) (h : Nat) (q : Nat → Nat) (F : Nat → Int32) (A : Nat → Nat → Int32) (D : Int64) (B : Nat → Nat → Int64) (hI : IM F A) (a1 : Int32) (a2 : Int32) (ha1 : (-1 : Int) ≤ a1.toInt ∧ a1.toInt ≤ 6) (ha2 : (0 : Int) ≤ a2.toInt ∧ a2.toInt ≤ 9) : ImpI l yX11_callIn cX11_callIn 4 (some .int) 3 0 0 G (TY cs) [.ref h, .int a1, .int a2] (mS cs h q F A D B) (fun (r : Int32) (u : Int32 × (Nat → Int32)) => True) (fun u : Int32 × (Nat → Int32) => (mS cs h q (upd F 18 u.1) (vA A 15 u.2) D B)) := by
  refine mkD (Qc := (QDi G (fun (r : Int32) (u : Int32 × (Nat → Int32)) => True) (fun u : Int32 × (Nat → Int32) => (mS cs h q (upd F 18 u.1) (vA A 15 u.2) D B)))) (by decide) (by simp [lg_sl, Value.category]) ?_
  intro p e s m args below meth c ls A0 hx hb hml hr hlk hown hmn ht hK hP hD hS hA hl
  have hl : lv_has ls 4 [(0, .ref h), (1, .int a1), (2, .int a2)] := hl
  refine lv_iload_n hx hb dX11_callIn_0 rfl (lv_at hl 1 rfl) ?_
  refine lv_iconst (v := (-1)) hx hb dX11_callIn_1 (by decide) ?_
  refine lv_icmp_ne (tgt := 7) hx hb dX11_callIn_2 (by decide) (fun c1 => ?_) (fun c1 => ?_)
  · have zc1 := neK rfl (show (-1 : Int32).toInt = (-1) by decide) c1
    refine lv_aload_n hx hb dX11_callIn_7 rfl (lv_at hl 0 rfl) ?_
    refine lv_iload_n hx hb dX11_callIn_8 rfl (lv_at hl 1 rfl) ?_
    refine lv_iload_n hx hb dX11_callIn_9 rfl (lv_at hl 2 rfl) ?_
    refine behR (runVP (As := [.int a1, .int a2]) (rest := []) ⟨hx, hb, hml, hown, ht⟩ (sX11_wouldFind l G cs h q F A D B hI a1 a2 (by omega) (by omega)) okV_RX11_252 ⟨by decide, by decide⟩ hK hP [0, 1, 2, 3, 4, 5, 6, 7, 8, 9, 10, 11, 12, 13, 14, 15, 16, 17, 18, 19] rfl 0 rfl rfl hl.1 rfl (Nat.le_of_ble_eq_true rfl) dX11_callIn_10 ⟨by decide, by decide⟩) hP hS hA (fun r2 H locs hr2 hP hS => ?_)
    refine lv_istore_n (lv' := [(3, .int r2), (0, .ref h), (1, .int a1), (2, .int a2)]) hx hb dX11_callIn_13 rfl hl (by decide) rfl (fun ls hl => ?_)
    refine lv_aload_n hx hb dX11_callIn_14 rfl (lv_at hl 1 rfl) ?_
    refine getF (v := .ref (q 15)) hx hb ht hown hK hP iTX11 0 15 rfl rfl (by decide) fl_RX11_34 rfl dX11_callIn_15 ?_
    refine lv_iload_n hx hb dX11_callIn_18 rfl (lv_at hl 2 rfl) ?_
    refine lv_dup2_11 hx hb dX11_callIn_19 rfl rfl ?_
    refine va_iald hx hb hK.1 hP 7 0 rfl rfl (inK rfl (by omega) (by decide)) dX11_callIn_20 ?_
    refine lv_topi (fun v3 ev3 => ?_)
    refine lv_iload_n hx hb dX11_callIn_21 rfl (lv_at hl 0 rfl) ?_
    refine lv_isub hx hb dX11_callIn_22 ?_
    refine lv_topi (fun v4 ev4 => ?_)
    refine va_iast hx hb hK.1 hP hD hS 7 0 rfl rfl (inK rfl (by omega) (by decide)) dX11_callIn_23 (fun H locs hP hD hS => ?_)
    obtain ⟨g5, hP, hD⟩ : ∃ g5 : Nat → Int32, va_P G vwCl (mS cs h q F (vA A 15 g5) D B) H ∧ va_D A0 (mS cs h q F (vA A 15 g5) D B) := ⟨_, hP, hD⟩
    refine lv_aload_n hx hb dX11_callIn_24 rfl (lv_at hl 1 rfl) ?_
    refine lv_dup hx hb dX11_callIn_25 rfl ?_
    refine getF (v := .int (F 18)) hx hb ht hown hK hP iTX11 0 18 rfl rfl (by decide) fl_RX11_249 rfl dX11_callIn_26 ?_
    refine lv_iload_n hx hb dX11_callIn_29 rfl (lv_at hl 0 rfl) ?_
    refine lv_iadd hx hb dX11_callIn_30 ?_
    refine lv_topi (fun v6 ev6 => ?_)
    refine putD hx hb ht hown hK hP hD hS iTX11 tyX11 tyX11_ok nmX11 0 18 rfl rfl (by decide) fl_RX11_249 rfl rfl rfl (Nat.le_of_ble_eq_true rfl) dX11_callIn_31 (fun H locs hP hD hS => ?_)
    have hP : va_P G vwCl (mS cs h q (upd F 18 v6) (vA A 15 g5) D B) H := hP
    have hD : va_D A0 (mS cs h q (upd F 18 v6) (vA A 15 g5) D B) := hD
    refine lv_iload_n hx hb dX11_callIn_34 rfl (lv_at hl 0 rfl) ?_
    exact retDi (v6, g5) hx hb hr hlk hP hD hS dX11_callIn_35 (trivial) (Nat.le_of_ble_eq_true rfl) (Nat.le_of_ble_eq_true rfl)
  · have zc1 := eqK rfl (show (-1 : Int32).toInt = (-1) by decide) c1
    refine lv_iconst (v := 0) hx hb dX11_callIn_5 (by decide) ?_
    exact retDi ((F 18), (A 15)) hx hb hr hlk hP hD hS dX11_callIn_6 (trivial) (Nat.le_of_ble_eq_true rfl) (Nat.le_of_ble_eq_true rfl)

