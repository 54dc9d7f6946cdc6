set_option maxRecDepth 100000 in
set_option maxHeartbeats 8000000 in
theorem sX11_in (l : Launch) (G : va_G) (cs : Nat → ClassId) (a1 : Int64) (a2 : Int64) (a3 : Int64) : SafeR l yX11_in cX11_in 6 (some .boolean) 0 G (TY cs) [.long a1, .long a2, .long a3] [] (fun r : Int32 => (r.toInt = 1 ∧ a2.toInt ≤ a1.toInt ∧ a1.toInt ≤ a3.toInt) ∨ (r.toInt = 0 ∧ (a1.toInt < a2.toInt ∨ a3.toInt < a1.toInt))) := by
  refine mkP (Qc := QRi (fun r : Int32 => (r.toInt = 1 ∧ a2.toInt ≤ a1.toInt ∧ a1.toInt ≤ a3.toInt) ∨ (r.toInt = 0 ∧ (a1.toInt < a2.toInt ∨ a3.toInt < a1.toInt)))) (by decide) (by simp [lg_sl, Value.category]) ?_
  intro p e s m args below meth c ls hx hb hml hr hlk hown ht hK hP hS hl
  have hl : lv_has ls 6 [(0, .long a1), (2, .long a2), (4, .long a3)] := hl
  refine lv_lload_n hx hb dX11_in_0 rfl (lv_at hl 0 rfl) ?_
  refine lv_lload_n hx hb dX11_in_1 rfl (lv_at hl 1 rfl) ?_
  refine W.lcmp hx hb dX11_in_2 ?_
  refine lv_topi (fun v1 ev1 => ?_)
  refine lv_if_lt (tgt := 17) hx hb dX11_in_3 (by decide) (fun c2 => ?_) (fun c2 => ?_)
  · have zc2 := ltK rfl (show (0 : Int32).toInt = 0 by decide) c2
    have yc2 := cmpLT rfl rfl ev1 (by omega)
    refine lv_iconst (v := 0) hx hb dX11_in_17 (by decide) ?_
    exact retRz hx hb hr hlk hS dX11_in_18 (rfl) (show ((0 : Int32).toInt = 1 ∧ a2.toInt ≤ a1.toInt ∧ a1.toInt ≤ a3.toInt) ∨ ((0 : Int32).toInt = 0 ∧ (a1.toInt < a2.toInt ∨ a3.toInt < a1.toInt)) by have kk : (0 : Int32).toInt = 0 := (by decide); omega)
  · have zc2 := nltK rfl (show (0 : Int32).toInt = 0 by decide) c2
    have yc2 := cmpLTn rfl rfl ev1 (by omega)
    refine lv_lload_n hx hb dX11_in_6 rfl (lv_at hl 0 rfl) ?_
    refine lv_lload hx hb dX11_in_7 (lv_at hl 2 rfl) ?_
    refine W.lcmp hx hb dX11_in_9 ?_
    refine lv_topi (fun v3 ev3 => ?_)
    refine lv_if_gt (tgt := 17) hx hb dX11_in_10 (by decide) (fun c4 => ?_) (fun c4 => ?_)
    · have zc4 := ltK (show (0 : Int32).toInt = 0 by decide) rfl c4
      have yc4 := cmpGT rfl rfl ev3 (by omega)
      refine lv_iconst (v := 0) hx hb dX11_in_17 (by decide) ?_
      exact retRz hx hb hr hlk hS dX11_in_18 (rfl) (show ((0 : Int32).toInt = 1 ∧ a2.toInt ≤ a1.toInt ∧ a1.toInt ≤ a3.toInt) ∨ ((0 : Int32).toInt = 0 ∧ (a1.toInt < a2.toInt ∨ a3.toInt < a1.toInt)) by have kk : (0 : Int32).toInt = 0 := (by decide); omega)
    · have zc4 := nltK (show (0 : Int32).toInt = 0 by decide) rfl c4
      have yc4 := cmpGTn rfl rfl ev3 (by omega)
      refine lv_iconst (v := 1) hx hb dX11_in_13 (by decide) ?_
      refine lv_goto (tgt := 18) hx hb dX11_in_14 (by decide) ?_
      exact retRz hx hb hr hlk hS dX11_in_18 (rfl) (show ((1 : Int32).toInt = 1 ∧ a2.toInt ≤ a1.toInt ∧ a1.toInt ≤ a3.toInt) ∨ ((1 : Int32).toInt = 0 ∧ (a1.toInt < a2.toInt ∨ a3.toInt < a1.toInt)) by have kk : (1 : Int32).toInt = 1 := (by decide); omega)

set_option maxRecDepth 100000 in
set_option maxHeartbeats 8000000 in
theorem sX11_bits (l : Launch) (G : va_G) (cs : Nat → ClassId) (a1 : Int32) : SafeR l yX11_bits cX11_bits 3 (some .int) 0 G (TY cs) [.int a1] [] (fun r : Int32 => True) := by
  refine mkP (Qc := QRi (fun r : Int32 => True)) (by decide) (by simp [lg_sl, Value.category]) ?_
  intro p e s m args below meth c ls hx hb hml hr hlk hown ht hK hP hS hl
  have hl : lv_has ls 3 [(0, .int a1)] := hl
  refine lv_iconst (v := 0) hx hb dX11_bits_0 (by decide) ?_
  refine lv_istore_n (lv' := [(1, .int 0), (0, .int a1)]) hx hb dX11_bits_1 rfl hl (by decide) rfl (fun ls hl => ?_)
  refine lv_iconst (v := 0) hx hb dX11_bits_2 (by decide) ?_
  refine lv_istore_n (lv' := [(2, .int 0), (1, .int 0), (0, .int a1)]) hx hb dX11_bits_3 rfl hl (by decide) rfl (fun ls hl => ?_)
  have B4 : ∀ (n : Nat) (x4_1 : Int32) (x4_2 : Int32) (H : Heap) (locs : List Loc) (ls : Array Slot), (8 - x4_2.toInt).toNat < n → (0 : Int) ≤ x4_2.toInt ∧ x4_2.toInt ≤ 8 → va_P G vwCl [] H → va_S (fun q => s.heap.size ≤ q) s.heap H locs → lv_has ls 3 [(0, .int a1), (1, .int x4_1), (2, .int x4_2)] → W p l e (rmk 0 0 0) s m args below meth c H locs 0 0 (MQ below (QRi (fun r : Int32 => True) s.heap.size) args s 0 0 (fun q => s.heap.size ≤ q)) (F0 m 4 ls []) := by
    intro n
    induction n with
    | zero => intro x4_1 x4_2 H locs ls hmeas hx4_2 hP hS hl; exact absurd hmeas (Nat.not_lt_zero _)
    | succ n ih4 =>
      intro x4_1 x4_2 H locs ls hmeas hx4_2 hP hS hl
      refine lv_iload_n hx hb dX11_bits_4 rfl (lv_at hl 2 rfl) ?_
      refine lv_bipush (v := 8) hx hb dX11_bits_5 (by decide) ?_
      refine lv_icmp_ge (tgt := 24) hx hb dX11_bits_7 (by decide) (fun c5001 => ?_) (fun c5001 => ?_)
      · have zc5001 := leK (show (8 : Int32).toInt = 8 by decide) rfl c5001
        refine lv_iload_n hx hb dX11_bits_24 rfl (lv_at hl 1 rfl) ?_
        exact retRi hx hb hr hlk hS dX11_bits_25 (trivial)
      · have zc5001 := nleK (show (8 : Int32).toInt = 8 by decide) rfl c5001
        refine lv_iload_n hx hb dX11_bits_10 rfl (lv_at hl 1 rfl) ?_
        refine lv_iload_n hx hb dX11_bits_11 rfl (lv_at hl 0 rfl) ?_
        refine lv_iload_n hx hb dX11_bits_12 rfl (lv_at hl 2 rfl) ?_
        refine lv_ishr hx hb dX11_bits_13 ?_
        refine lv_topi (fun v5002 ev5002 => ?_)
        refine lv_iconst (v := 1) hx hb dX11_bits_14 (by decide) ?_
        refine lv_iand hx hb dX11_bits_15 ?_
        refine lv_topi (fun v5003 ev5003 => ?_)
        have tv5003 : 0 ≤ v5003.toInt ∧ v5003.toInt ≤ 1 := by rw [ev5003]; exact andT 1 (by decide) (by decide) (by decide)
        refine lv_iadd hx hb dX11_bits_16 ?_
        refine lv_topi (fun v5004 ev5004 => ?_)
        refine lv_istore_n (lv' := [(1, .int v5004), (0, .int a1), (2, .int x4_2)]) hx hb dX11_bits_17 rfl hl (by decide) rfl (fun ls hl => ?_)
        obtain ⟨v5005, ev5005⟩ : ∃ z : Int32, z = x4_2 + 1 := ⟨_, rfl⟩
        have tv5005 : v5005.toInt = x4_2.toInt + 1 := by rw [ev5005]; exact addT rfl (by decide) (by omega)
        refine lv_iinc (v := v5005) (lv' := [(2, .int v5005), (1, .int v5004), (0, .int a1)]) hx hb dX11_bits_18 hl (k := 2) rfl (by rw [ev5005]; rfl) (by decide) rfl (fun ls hl => ?_)
        refine lv_goto (tgt := 4) hx hb dX11_bits_21 (by decide) ?_
        exact ih4 v5004 v5005 H locs ls (by omega) (by omega) hP hS (lv_sub hl [2, 1, 0] rfl)
  exact B4 _ 0 0 s.heap [] ls (Nat.lt_succ_self _) (by decide) hP hS (lv_sub hl [2, 1, 0] rfl)

set_option maxRecDepth 100000 in
set_option maxHeartbeats 8000000 in
theorem sX11_bit (l : Launch) (G : va_G) (cs : Nat → ClassId) (a1 : Int32) (a2 : Int32) : SafeR l yX11_bit cX11_bit 2 (some .int) 0 G (TY cs) [.int a1, .int a2] [] (fun r : Int32 => (0 : Int) ≤ r.toInt ∧ r.toInt ≤ 1) := by
  refine mkP (Qc := QRi (fun r : Int32 => (0 : Int) ≤ r.toInt ∧ r.toInt ≤ 1)) (by decide) (by simp [lg_sl, Value.category]) ?_
  intro p e s m args below meth c ls hx hb hml hr hlk hown ht hK hP hS hl
  have hl : lv_has ls 2 [(0, .int a1), (1, .int a2)] := hl
  refine lv_iload_n hx hb dX11_bit_0 rfl (lv_at hl 0 rfl) ?_
  refine lv_iload_n hx hb dX11_bit_1 rfl (lv_at hl 1 rfl) ?_
  refine lv_ishr hx hb dX11_bit_2 ?_
  refine lv_topi (fun v1 ev1 => ?_)
  refine lv_iconst (v := 1) hx hb dX11_bit_3 (by decide) ?_
  refine lv_iand hx hb dX11_bit_4 ?_
  refine lv_topi (fun v2 ev2 => ?_)
  have tv2 : 0 ≤ v2.toInt ∧ v2.toInt ≤ 1 := by rw [ev2]; exact andT 1 (by decide) (by decide) (by decide)
  exact retRi hx hb hr hlk hS dX11_bit_5 (show (0 : Int) ≤ v2.toInt ∧ v2.toInt ≤ 1 by omega)

set_option maxRecDepth 100000 in
set_option maxHeartbeats 8000000 in
theorem sX11_isHouse (l : Launch) (G : va_G) (cs : Nat → ClassId) (h : Nat) (q : Nat → Nat) (F : Nat → Int32) (A : Nat → Nat → Int32) (D : Int64) (B : Nat → Nat → Int64) (hI : IM F A) : SafeR l yX11_isHouse cX11_isHouse 1 (some .boolean) 0 G (TY cs) [.ref h] (mS cs h q F A D B) (fun r : Int32 => (0 : Int) ≤ r.toInt ∧ r.toInt ≤ 1) := by
  refine mkP (Qc := QRi (fun r : Int32 => (0 : Int) ≤ r.toInt ∧ r.toInt ≤ 1)) (by decide) (by simp [lg_sl, Value.category]) ?_
  intro p e s m args below meth c ls hx hb hml hr hlk hown ht hK hP hS hl
  have hl : lv_has ls 1 [(0, .ref h)] := hl
  refine lv_aload_n hx hb dX11_isHouse_0 rfl (lv_at hl 0 rfl) ?_
  refine getF (v := .ref (q 1)) hx hb ht hown hK hP iTX11 0 1 rfl rfl (by decide) fl_RX11_9 rfl dX11_isHouse_1 ?_
  refine lv_bipush (v := 6) hx hb dX11_isHouse_4 (by decide) ?_
  refine va_iald hx hb hK.1 hP 1 0 rfl rfl (show ¬ (_ ∨ _) by decide) dX11_isHouse_6 ?_
  refine W.eq (g2 := F0 m 7 ls [.int (A 1 6)]) rfl ?_
  refine lv_if_le (tgt := 14) hx hb dX11_isHouse_7 (by decide) (fun c1 => ?_) (fun c1 => ?_)
  · have zc1 := leK rfl (show (0 : Int32).toInt = 0 by decide) c1
    refine lv_iconst (v := 0) hx hb dX11_isHouse_14 (by decide) ?_
    exact retRz hx hb hr hlk hS dX11_isHouse_15 (rfl) (show (0 : Int) ≤ (0 : Int32).toInt ∧ (0 : Int32).toInt ≤ 1 by have kk : (0 : Int32).toInt = 0 := (by decide); omega)
  · have zc1 := nleK rfl (show (0 : Int32).toInt = 0 by decide) c1
    refine lv_iconst (v := 1) hx hb dX11_isHouse_10 (by decide) ?_
    refine lv_goto (tgt := 15) hx hb dX11_isHouse_11 (by decide) ?_
    exact retRz hx hb hr hlk hS dX11_isHouse_15 (rfl) (show (0 : Int) ≤ (1 : Int32).toInt ∧ (1 : Int32).toInt ≤ 1 by have kk : (1 : Int32).toInt = 1 := (by decide); omega)

set_option maxRecDepth 100000 in
set_option maxHeartbeats 8000000 in
theorem sX11_isRoom (l : Launch) (G : va_G) (cs : Nat → ClassId) (h : Nat) (q : Nat → Nat) (F : Nat → Int32) (A : Nat → Nat → Int32) (D : Int64) (B : Nat → Nat → Int64) (hI : IM F A) (a1 : Int64) : SafeR l yX11_isRoom cX11_isRoom 3 (some .boolean) 1 G (TY cs) [.ref h, .long a1] (mS cs h q F A D B) (fun r : Int32 => (r.toInt = 1 ∧ 0 ≤ a1.toInt ∧ a1.toInt < (A 1 4).toInt ∧ a1.toInt ≤ 6 ∧ (A 1 4).toInt ≤ 7) ∨ r.toInt = 0) := by
  refine mkP (Qc := QRi (fun r : Int32 => (r.toInt = 1 ∧ 0 ≤ a1.toInt ∧ a1.toInt < (A 1 4).toInt ∧ a1.toInt ≤ 6 ∧ (A 1 4).toInt ≤ 7) ∨ r.toInt = 0)) (by decide) (by simp [lg_sl, Value.category]) ?_
  intro p e s m args below meth c ls hx hb hml hr hlk hown ht hK hP hS hl
  have hl : lv_has ls 3 [(0, .ref h), (1, .long a1)] := hl
  refine lv_lload_n hx hb dX11_isRoom_0 rfl (lv_at hl 1 rfl) ?_
  refine lv_lconst (v := 0) hx hb dX11_isRoom_1 (by decide) ?_
  refine lv_aload_n hx hb dX11_isRoom_2 rfl (lv_at hl 0 rfl) ?_
  refine getF (v := .ref (q 1)) hx hb ht hown hK hP iTX11 0 1 rfl rfl (by decide) fl_RX11_9 rfl dX11_isRoom_3 ?_
  refine lv_iconst (v := 4) hx hb dX11_isRoom_6 (by decide) ?_
  refine va_iald hx hb hK.1 hP 1 0 rfl rfl (show ¬ (_ ∨ _) by decide) dX11_isRoom_7 ?_
  refine W.eq (g2 := F0 m 8 ls [.int (A 1 4), .long 0, .long a1]) rfl ?_
  have zf1 : (0 : Int) ≤ (A 1 4).toInt ∧ (A 1 4).toInt ≤ 7 := (hI.2 1 4)
  refine lv_iconst (v := 1) hx hb dX11_isRoom_8 (by decide) ?_
  refine lv_isub hx hb dX11_isRoom_9 ?_
  refine lv_topi (fun v2 ev2 => ?_)
  have tv2 : v2.toInt = (A 1 4).toInt - 1 := by rw [ev2]; exact subT rfl (show (1 : Int32).toInt = 1 by decide) (by omega)
  refine lv_i2l hx hb dX11_isRoom_10 rfl ?_
  refine lv_topl (fun v3 ev3 => ?_)
  have tv3 : v3.toInt = v2.toInt := by rw [ev3]; exact Int32.toInt_toInt64 _
  refine behR (runSP (As := [.long a1, .long 0, .long v3]) (rest := []) ⟨hx, hb, hml, hown, ht⟩ (sX11_in l G cs a1 0 v3 ) okS_RX11_79 ⟨by decide, by decide⟩ hK hP [] rfl hl.1 rfl (Nat.le_of_ble_eq_true rfl) dX11_isRoom_11 ⟨by decide, by decide⟩) hP hS (fun _ h => h) (fun r4 H locs hr4 hP hS => ?_)
  have kk5 : (0 : Int64).toInt = 0 := by decide
  have hr4 : (r4.toInt = 1 ∧ (0 : Int64).toInt ≤ a1.toInt ∧ a1.toInt ≤ v3.toInt) ∨ (r4.toInt = 0 ∧ (a1.toInt < (0 : Int64).toInt ∨ v3.toInt < a1.toInt)) := hr4
  exact retRz hx hb hr hlk hS dX11_isRoom_14 (narZ (by omega)) (show (r4.toInt = 1 ∧ 0 ≤ a1.toInt ∧ a1.toInt < (A 1 4).toInt ∧ a1.toInt ≤ 6 ∧ (A 1 4).toInt ≤ 7) ∨ r4.toInt = 0 by omega)

set_option maxRecDepth 100000 in
set_option maxHeartbeats 8000000 in
theorem sX11_isRoomOrNone (l : Launch) (G : va_G) (cs : Nat → ClassId) (h : Nat) (q : Nat → Nat) (F : Nat → Int32) (A : Nat → Nat → Int32) (D : Int64) (B : Nat → Nat → Int64) (hI : IM F A) (a1 : Int64) : SafeR l yX11_isRoomOrNone cX11_isRoomOrNone 3 (some .boolean) 2 G (TY cs) [.ref h, .long a1] (mS cs h q F A D B) (fun r : Int32 => (r.toInt = 1 ∧ -1 ≤ a1.toInt ∧ a1.toInt ≤ 6) ∨ r.toInt = 0) := by
  refine mkP (Qc := QRi (fun r : Int32 => (r.toInt = 1 ∧ -1 ≤ a1.toInt ∧ a1.toInt ≤ 6) ∨ r.toInt = 0)) (by decide) (by simp [lg_sl, Value.category]) ?_
  intro p e s m args below meth c ls hx hb hml hr hlk hown ht hK hP hS hl
  have hl : lv_has ls 3 [(0, .ref h), (1, .long a1)] := hl
  refine lv_aload_n hx hb dX11_isRoomOrNone_0 rfl (lv_at hl 0 rfl) ?_
  refine behR (runVP (As := []) (rest := []) ⟨hx, hb, hml, hown, ht⟩ (sX11_isHouse l G cs h q F A D B hI  ) okV_RX11_83 ⟨by decide, by decide⟩ hK hP [0, 1, 2, 3, 4, 5, 6, 7, 8, 9, 10, 11, 12, 13, 14, 15, 16, 17, 18, 19] rfl 0 rfl rfl hl.1 rfl (Nat.le_of_ble_eq_true rfl) dX11_isRoomOrNone_1 ⟨by decide, by decide⟩) hP hS (fun _ h => h) (fun r1 H locs hr1 hP hS => ?_)
  have hr1 : (0 : Int) ≤ r1.toInt ∧ r1.toInt ≤ 1 := hr1
  have B15 : ∀ (H : Heap) (locs : List Loc) (ls : Array Slot), va_P G vwCl (mS cs h q F A D B) H → va_S (fun q => s.heap.size ≤ q) s.heap H locs → lv_has ls 3 [(0, .ref h), (1, .long a1)] → W p l e (rmk 2 0 0) s m args below meth c H locs 0 0 (MQ below (QRi (fun r : Int32 => (r.toInt = 1 ∧ -1 ≤ a1.toInt ∧ a1.toInt ≤ 6) ∨ r.toInt = 0) s.heap.size) args s 0 0 (fun q => s.heap.size ≤ q)) (F0 m 15 ls []) := by
    intro H locs ls hP hS hl
    refine lv_aload_n hx hb dX11_isRoomOrNone_15 rfl (lv_at hl 0 rfl) ?_
    refine lv_lload_n hx hb dX11_isRoomOrNone_16 rfl (lv_at hl 1 rfl) ?_
    refine behR (runVP (As := [.long a1]) (rest := []) ⟨hx, hb, hml, hown, ht⟩ (sX11_isRoom l G cs h q F A D B hI a1 ) okV_RX11_89 ⟨by decide, by decide⟩ hK hP [0, 1, 2, 3, 4, 5, 6, 7, 8, 9, 10, 11, 12, 13, 14, 15, 16, 17, 18, 19] rfl 0 rfl rfl hl.1 rfl (Nat.le_of_ble_eq_true rfl) dX11_isRoomOrNone_17 ⟨by decide, by decide⟩) hP hS (fun _ h => h) (fun r8001 H locs hr8001 hP hS => ?_)
    have hr8001 : (r8001.toInt = 1 ∧ 0 ≤ a1.toInt ∧ a1.toInt < (A 1 4).toInt ∧ a1.toInt ≤ 6 ∧ (A 1 4).toInt ≤ 7) ∨ r8001.toInt = 0 := hr8001
    refine lv_if_eq (tgt := 27) hx hb dX11_isRoomOrNone_20 (by decide) (fun c8002 => ?_) (fun c8002 => ?_)
    · have zc8002 := eqK rfl (show (0 : Int32).toInt = 0 by decide) c8002
      refine lv_iconst (v := 0) hx hb dX11_isRoomOrNone_27 (by decide) ?_
      exact retRz hx hb hr hlk hS dX11_isRoomOrNone_28 (rfl) (show ((0 : Int32).toInt = 1 ∧ -1 ≤ a1.toInt ∧ a1.toInt ≤ 6) ∨ (0 : Int32).toInt = 0 by have kk : (0 : Int32).toInt = 0 := (by decide); omega)
    · have zc8002 := neK rfl (show (0 : Int32).toInt = 0 by decide) c8002
      refine lv_iconst (v := 1) hx hb dX11_isRoomOrNone_23 (by decide) ?_
      refine lv_goto (tgt := 28) hx hb dX11_isRoomOrNone_24 (by decide) ?_
      exact retRz hx hb hr hlk hS dX11_isRoomOrNone_28 (rfl) (show ((1 : Int32).toInt = 1 ∧ -1 ≤ a1.toInt ∧ a1.toInt ≤ 6) ∨ (1 : Int32).toInt = 0 by have kk : (1 : Int32).toInt = 1 := (by decide); omega)
  refine lv_if_eq (tgt := 15) hx hb dX11_isRoomOrNone_4 (by decide) (fun c2 => ?_) (fun c2 => ?_)
  · have zc2 := eqK rfl (show (0 : Int32).toInt = 0 by decide) c2
    exact B15 H locs ls hP hS (lv_sub hl [0, 1] rfl)
  · have zc2 := neK rfl (show (0 : Int32).toInt = 0 by decide) c2
    refine lv_lload_n hx hb dX11_isRoomOrNone_7 rfl (lv_at hl 1 rfl) ?_
    refine lv_ldc2 hx hb hown (ht _ kl_RX11_87) dX11_isRoomOrNone_8 ?_
    refine W.lcmp hx hb dX11_isRoomOrNone_11 ?_
    refine lv_topi (fun v3 ev3 => ?_)
    refine lv_if_eq (tgt := 23) hx hb dX11_isRoomOrNone_12 (by decide) (fun c4 => ?_) (fun c4 => ?_)
    · have zc4 := eqK rfl (show (0 : Int32).toInt = 0 by decide) c4
      have yc4 := cmpEQ rfl (show (-1 : Int64).toInt = (-1) by decide) ev3 (by omega)
      refine lv_iconst (v := 1) hx hb dX11_isRoomOrNone_23 (by decide) ?_
      refine lv_goto (tgt := 28) hx hb dX11_isRoomOrNone_24 (by decide) ?_
      exact retRz hx hb hr hlk hS dX11_isRoomOrNone_28 (rfl) (show ((1 : Int32).toInt = 1 ∧ -1 ≤ a1.toInt ∧ a1.toInt ≤ 6) ∨ (1 : Int32).toInt = 0 by have kk : (1 : Int32).toInt = 1 := (by decide); omega)
    · have zc4 := neK rfl (show (0 : Int32).toInt = 0 by decide) c4
      have yc4 := cmpEQn rfl (show (-1 : Int64).toInt = (-1) by decide) ev3 (by omega)
      exact B15 H locs ls hP hS (lv_sub hl [0, 1] rfl)

set_option maxRecDepth 100000 in
set_option maxHeartbeats 8000000 in
theorem sX11_isMan (l : Launch) (G : va_G) (cs : Nat → ClassId) (h : Nat) (q : Nat → Nat) (F : Nat → Int32) (A : Nat → Nat → Int32) (D : Int64) (B : Nat → Nat → Int64) (hI : IM F A) (a1 : Int32) : SafeR l yX11_isMan cX11_isMan 2 (some .boolean) 1 G (TY cs) [.ref h, .int a1] (mS cs h q F A D B) (fun r : Int32 => (r.toInt = 1 ∧ 0 ≤ a1.toInt ∧ a1.toInt < (A 1 5).toInt ∧ a1.toInt ≤ 5 ∧ (A 1 5).toInt ≤ 6) ∨ r.toInt = 0) := by
  refine mkP (Qc := QRi (fun r : Int32 => (r.toInt = 1 ∧ 0 ≤ a1.toInt ∧ a1.toInt < (A 1 5).toInt ∧ a1.toInt ≤ 5 ∧ (A 1 5).toInt ≤ 6) ∨ r.toInt = 0)) (by decide) (by simp [lg_sl, Value.category]) ?_
  intro p e s m args below meth c ls hx hb hml hr hlk hown ht hK hP hS hl
  have hl : lv_has ls 2 [(0, .ref h), (1, .int a1)] := hl
  refine lv_iload_n hx hb dX11_isMan_0 rfl (lv_at hl 1 rfl) ?_
  refine lv_i2l hx hb dX11_isMan_1 rfl ?_
  have bb1 := i32b a1
  refine lv_topl (fun v2 ev2 => ?_)
  have tv2 : v2.toInt = a1.toInt := by rw [ev2]; exact Int32.toInt_toInt64 _
  refine lv_lconst (v := 0) hx hb dX11_isMan_2 (by decide) ?_
  refine lv_aload_n hx hb dX11_isMan_3 rfl (lv_at hl 0 rfl) ?_
  refine getF (v := .ref (q 1)) hx hb ht hown hK hP iTX11 0 1 rfl rfl (by decide) fl_RX11_9 rfl dX11_isMan_4 ?_
  refine lv_iconst (v := 5) hx hb dX11_isMan_7 (by decide) ?_
  refine va_iald hx hb hK.1 hP 1 0 rfl rfl (show ¬ (_ ∨ _) by decide) dX11_isMan_8 ?_
  refine W.eq (g2 := F0 m 9 ls [.int (A 1 5), .long 0, .long v2]) rfl ?_
  have zf3 : (0 : Int) ≤ (A 1 5).toInt ∧ (A 1 5).toInt ≤ 6 := (hI.2 1 5)
  refine lv_iconst (v := 1) hx hb dX11_isMan_9 (by decide) ?_
  refine lv_isub hx hb dX11_isMan_10 ?_
  refine lv_topi (fun v4 ev4 => ?_)
  have tv4 : v4.toInt = (A 1 5).toInt - 1 := by rw [ev4]; exact subT rfl (show (1 : Int32).toInt = 1 by decide) (by omega)
  refine lv_i2l hx hb dX11_isMan_11 rfl ?_
  refine lv_topl (fun v5 ev5 => ?_)
  have tv5 : v5.toInt = v4.toInt := by rw [ev5]; exact Int32.toInt_toInt64 _
  refine behR (runSP (As := [.long v2, .long 0, .long v5]) (rest := []) ⟨hx, hb, hml, hown, ht⟩ (sX11_in l G cs v2 0 v5 ) okS_RX11_79 ⟨by decide, by decide⟩ hK hP [] rfl hl.1 rfl (Nat.le_of_ble_eq_true rfl) dX11_isMan_12 ⟨by decide, by decide⟩) hP hS (fun _ h => h) (fun r6 H locs hr6 hP hS => ?_)
  have kk7 : (0 : Int64).toInt = 0 := by decide
  have hr6 : (r6.toInt = 1 ∧ (0 : Int64).toInt ≤ v2.toInt ∧ v2.toInt ≤ v5.toInt) ∨ (r6.toInt = 0 ∧ (v2.toInt < (0 : Int64).toInt ∨ v5.toInt < v2.toInt)) := hr6
  exact retRz hx hb hr hlk hS dX11_isMan_15 (narZ (by omega)) (show (r6.toInt = 1 ∧ 0 ≤ a1.toInt ∧ a1.toInt < (A 1 5).toInt ∧ a1.toInt ≤ 5 ∧ (A 1 5).toInt ≤ 6) ∨ r6.toInt = 0 by omega)

set_option maxRecDepth 100000 in
set_option maxHeartbeats 8000000 in
theorem sX11_areMen (l : Launch) (G : va_G) (cs : Nat → ClassId) (h : Nat) (q : Nat → Nat) (F : Nat → Int32) (A : Nat → Nat → Int32) (D : Int64) (B : Nat → Nat → Int64) (hI : IM F A) (a1 : Int32) : SafeR l yX11_areMen cX11_areMen 2 (some .boolean) 1 G (TY cs) [.ref h, .int a1] (mS cs h q F A D B) (fun r : Int32 => (0 : Int) ≤ r.toInt ∧ r.toInt ≤ 1) := by
  refine mkP (Qc := QRi (fun r : Int32 => (0 : Int) ≤ r.toInt ∧ r.toInt ≤ 1)) (by decide) (by simp [lg_sl, Value.category]) ?_
  intro p e s m args below meth c ls hx hb hml hr hlk hown ht hK hP hS hl
  have hl : lv_has ls 2 [(0, .ref h), (1, .int a1)] := hl
  refine lv_aload_n hx hb dX11_areMen_0 rfl (lv_at hl 0 rfl) ?_
  refine behR (runVP (As := []) (rest := []) ⟨hx, hb, hml, hown, ht⟩ (sX11_isHouse l G cs h q F A D B hI  ) okV_RX11_83 ⟨by decide, by decide⟩ hK hP [0, 1, 2, 3, 4, 5, 6, 7, 8, 9, 10, 11, 12, 13, 14, 15, 16, 17, 18, 19] rfl 0 rfl rfl hl.1 rfl (Nat.le_of_ble_eq_true rfl) dX11_areMen_1 ⟨by decide, by decide⟩) hP hS (fun _ h => h) (fun r1 H locs hr1 hP hS => ?_)
  have hr1 : (0 : Int) ≤ r1.toInt ∧ r1.toInt ≤ 1 := hr1
  refine lv_if_eq (tgt := 31) hx hb dX11_areMen_4 (by decide) (fun c2 => ?_) (fun c2 => ?_)
  · have zc2 := eqK rfl (show (0 : Int32).toInt = 0 by decide) c2
    refine lv_iconst (v := 0) hx hb dX11_areMen_31 (by decide) ?_
    exact retRz hx hb hr hlk hS dX11_areMen_32 (rfl) (show (0 : Int) ≤ (0 : Int32).toInt ∧ (0 : Int32).toInt ≤ 1 by have kk : (0 : Int32).toInt = 0 := (by decide); omega)
  · have zc2 := neK rfl (show (0 : Int32).toInt = 0 by decide) c2
    refine lv_iload_n hx hb dX11_areMen_7 rfl (lv_at hl 1 rfl) ?_
    refine lv_i2l hx hb dX11_areMen_8 rfl ?_
    have bb3 := i32b a1
    refine lv_topl (fun v4 ev4 => ?_)
    have tv4 : v4.toInt = a1.toInt := by rw [ev4]; exact Int32.toInt_toInt64 _
    refine lv_lconst (v := 1) hx hb dX11_areMen_9 (by decide) ?_
    refine lv_iconst (v := 1) hx hb dX11_areMen_10 (by decide) ?_
    refine lv_aload_n hx hb dX11_areMen_11 rfl (lv_at hl 0 rfl) ?_
    refine getF (v := .ref (q 1)) hx hb ht hown hK hP iTX11 0 1 rfl rfl (by decide) fl_RX11_9 rfl dX11_areMen_12 ?_
    refine lv_iconst (v := 5) hx hb dX11_areMen_15 (by decide) ?_
    refine va_iald hx hb hK.1 hP 1 0 rfl rfl (show ¬ (_ ∨ _) by decide) dX11_areMen_16 ?_
    refine W.eq (g2 := F0 m 17 ls [.int (A 1 5), .int 1, .long 1, .long v4]) rfl ?_
    have zf5 : (0 : Int) ≤ (A 1 5).toInt ∧ (A 1 5).toInt ≤ 6 := (hI.2 1 5)
    refine lv_ishl hx hb dX11_areMen_17 ?_
    refine lv_topi (fun v6 ev6 => ?_)
    have tv6 : (1 : Int) ≤ v6.toInt ∧ v6.toInt ≤ 128 := by rw [ev6]; exact shl1 rfl (by omega)
    refine lv_iconst (v := 1) hx hb dX11_areMen_18 (by decide) ?_
    refine lv_isub hx hb dX11_areMen_19 ?_
    refine lv_topi (fun v7 ev7 => ?_)
    have tv7 : v7.toInt = v6.toInt - 1 := by rw [ev7]; exact subT rfl (show (1 : Int32).toInt = 1 by decide) (by omega)
    refine lv_i2l hx hb dX11_areMen_20 rfl ?_
    refine lv_topl (fun v8 ev8 => ?_)
    have tv8 : v8.toInt = v7.toInt := by rw [ev8]; exact Int32.toInt_toInt64 _
    refine behR (runSP (As := [.long v4, .long 1, .long v8]) (rest := []) ⟨hx, hb, hml, hown, ht⟩ (sX11_in l G cs v4 1 v8 ) okS_RX11_79 ⟨by decide, by decide⟩ hK hP [] rfl hl.1 rfl (Nat.le_of_ble_eq_true rfl) dX11_areMen_21 ⟨by decide, by decide⟩) hP hS (fun _ h => h) (fun r9 H locs hr9 hP hS => ?_)
    have kk10 : (1 : Int64).toInt = 1 := by decide
    have hr9 : (r9.toInt = 1 ∧ (1 : Int64).toInt ≤ v4.toInt ∧ v4.toInt ≤ v8.toInt) ∨ (r9.toInt = 0 ∧ (v4.toInt < (1 : Int64).toInt ∨ v8.toInt < v4.toInt)) := hr9
    refine lv_if_eq (tgt := 31) hx hb dX11_areMen_24 (by decide) (fun c11 => ?_) (fun c11 => ?_)
    · have zc11 := eqK rfl (show (0 : Int32).toInt = 0 by decide) c11
      refine lv_iconst (v := 0) hx hb dX11_areMen_31 (by decide) ?_
      exact retRz hx hb hr hlk hS dX11_areMen_32 (rfl) (show (0 : Int) ≤ (0 : Int32).toInt ∧ (0 : Int32).toInt ≤ 1 by have kk : (0 : Int32).toInt = 0 := (by decide); omega)
    · have zc11 := neK rfl (show (0 : Int32).toInt = 0 by decide) c11
      refine lv_iconst (v := 1) hx hb dX11_areMen_27 (by decide) ?_
      refine lv_goto (tgt := 32) hx hb dX11_areMen_28 (by decide) ?_
      exact retRz hx hb hr hlk hS dX11_areMen_32 (rfl) (show (0 : Int) ≤ (1 : Int32).toInt ∧ (1 : Int32).toInt ≤ 1 by have kk : (1 : Int32).toInt = 1 := (by decide); omega)

set_option maxRecDepth 100000 in
set_option maxHeartbeats 8000000 in
theorem sX11_of (l : Launch) (G : va_G) (cs : Nat → ClassId) (h : Nat) (q : Nat → Nat) (F : Nat → Int32) (A : Nat → Nat → Int32) (D : Int64) (B : Nat → Nat → Int64) (hI : IM F A) (a1 : Int32) (a2 : Int32) (ha1 : (0 : Int) ≤ a1.toInt ∧ a1.toInt ≤ 6) (ha2 : (0 : Int) ≤ a2.toInt ∧ a2.toInt ≤ 3) : SafeR l yX11_of cX11_of 3 (some .int) 0 G (TY cs) [.ref h, .int a1, .int a2] (mS cs h q F A D B) (fun r : Int32 => (0 : Int) ≤ r.toInt ∧ r.toInt ≤ 999 ∧ (a2.toInt = 3 → r.toInt ≤ 127) ∧ (a2.toInt = 2 → r.toInt ≤ 99)) := by
  refine mkP (Qc := QRi (fun r : Int32 => (0 : Int) ≤ r.toInt ∧ r.toInt ≤ 999 ∧ (a2.toInt = 3 → r.toInt ≤ 127) ∧ (a2.toInt = 2 → r.toInt ≤ 99))) (by decide) (by simp [lg_sl, Value.category]) ?_
  intro p e s m args below meth c ls hx hb hml hr hlk hown ht hK hP hS hl
  have hl : lv_has ls 3 [(0, .ref h), (1, .int a1), (2, .int a2)] := hl
  refine lv_aload_n hx hb dX11_of_0 rfl (lv_at hl 0 rfl) ?_
  refine getF (v := .ref (q 1)) hx hb ht hown hK hP iTX11 0 1 rfl rfl (by decide) fl_RX11_9 rfl dX11_of_1 ?_
  refine lv_bipush (v := 8) hx hb dX11_of_4 (by decide) ?_
  refine lv_iconst (v := 4) hx hb dX11_of_6 (by decide) ?_
  refine lv_iload_n hx hb dX11_of_7 rfl (lv_at hl 1 rfl) ?_
  refine lv_imul hx hb dX11_of_8 ?_
  refine lv_topi (fun v1 ev1 => ?_)
  have tv1 : v1.toInt = 4 * a1.toInt := by rw [ev1]; exact mulT (show (4 : Int32).toInt = 4 by decide) rfl (by omega)
  refine lv_iadd hx hb dX11_of_9 ?_
  refine lv_topi (fun v2 ev2 => ?_)
  have tv2 : v2.toInt = 8 + v1.toInt := by rw [ev2]; exact addT (show (8 : Int32).toInt = 8 by decide) rfl (by omega)
  refine lv_iload_n hx hb dX11_of_10 rfl (lv_at hl 2 rfl) ?_
  refine lv_iadd hx hb dX11_of_11 ?_
  refine lv_topi (fun v3 ev3 => ?_)
  have tv3 : v3.toInt = v2.toInt + a2.toInt := by rw [ev3]; exact addT rfl rfl (by omega)
  refine va_iald hx hb hK.1 hP 1 0 rfl rfl (inK rfl (by omega) (by decide)) dX11_of_12 ?_
  refine lv_topi (fun v4 ev4 => ?_)
  have zl : (0 : Int) ≤ v4.toInt ∧ v4.toInt ≤ 999 ∧ (a2.toInt = 3 → v4.toInt ≤ 127) ∧ (a2.toInt = 2 → v4.toInt ≤ 99) := by rw [ev4]; exact of_fact (r := a1.toInt) hI (by omega) ha1 ha2
  exact retRi hx hb hr hlk hS dX11_of_13 (show (0 : Int) ≤ v4.toInt ∧ v4.toInt ≤ 999 ∧ (a2.toInt = 3 → v4.toInt ≤ 127) ∧ (a2.toInt = 2 → v4.toInt ≤ 99) by omega)

set_option maxRecDepth 100000 in
set_option maxHeartbeats 8000000 in
theorem sX11_ofMan (l : Launch) (G : va_G) (cs : Nat → ClassId) (h : Nat) (q : Nat → Nat) (F : Nat → Int32) (A : Nat → Nat → Int32) (D : Int64) (B : Nat → Nat → Int64) (hI : IM F A) (a1 : Int32) (a2 : Int32) (ha1 : (0 : Int) ≤ a1.toInt ∧ a1.toInt ≤ 5) (ha2 : (0 : Int) ≤ a2.toInt ∧ a2.toInt ≤ 7) : SafeR l yX11_ofMan cX11_ofMan 3 (some .int) 0 G (TY cs) [.ref h, .int a1, .int a2] (mS cs h q F A D B) (fun r : Int32 => (0 : Int) ≤ r.toInt ∧ r.toInt ≤ 99 ∧ (a2.toInt = 1 → r.toInt ≤ 63) ∧ (2 ≤ a2.toInt → r.toInt ≤ 9)) := by
  refine mkP (Qc := QRi (fun r : Int32 => (0 : Int) ≤ r.toInt ∧ r.toInt ≤ 99 ∧ (a2.toInt = 1 → r.toInt ≤ 63) ∧ (2 ≤ a2.toInt → r.toInt ≤ 9))) (by decide) (by simp [lg_sl, Value.category]) ?_
  intro p e s m args below meth c ls hx hb hml hr hlk hown ht hK hP hS hl
  have hl : lv_has ls 3 [(0, .ref h), (1, .int a1), (2, .int a2)] := hl
  refine lv_aload_n hx hb dX11_ofMan_0 rfl (lv_at hl 0 rfl) ?_
  refine getF (v := .ref (q 1)) hx hb ht hown hK hP iTX11 0 1 rfl rfl (by decide) fl_RX11_9 rfl dX11_ofMan_1 ?_
  refine lv_bipush (v := 36) hx hb dX11_ofMan_4 (by decide) ?_
  refine lv_bipush (v := 8) hx hb dX11_ofMan_6 (by decide) ?_
  refine lv_iload_n hx hb dX11_ofMan_8 rfl (lv_at hl 1 rfl) ?_
  refine lv_imul hx hb dX11_ofMan_9 ?_
  refine lv_topi (fun v1 ev1 => ?_)
  have tv1 : v1.toInt = 8 * a1.toInt := by rw [ev1]; exact mulT (show (8 : Int32).toInt = 8 by decide) rfl (by omega)
  refine lv_iadd hx hb dX11_ofMan_10 ?_
  refine lv_topi (fun v2 ev2 => ?_)
  have tv2 : v2.toInt = 36 + v1.toInt := by rw [ev2]; exact addT (show (36 : Int32).toInt = 36 by decide) rfl (by omega)
  refine lv_iload_n hx hb dX11_ofMan_11 rfl (lv_at hl 2 rfl) ?_
  refine lv_iadd hx hb dX11_ofMan_12 ?_
  refine lv_topi (fun v3 ev3 => ?_)
  have tv3 : v3.toInt = v2.toInt + a2.toInt := by rw [ev3]; exact addT rfl rfl (by omega)
  refine va_iald hx hb hK.1 hP 1 0 rfl rfl (inK rfl (by omega) (by decide)) dX11_ofMan_13 ?_
  refine lv_topi (fun v4 ev4 => ?_)
  have zl : (0 : Int) ≤ v4.toInt ∧ v4.toInt ≤ 99 ∧ (a2.toInt = 1 → v4.toInt ≤ 63) ∧ (2 ≤ a2.toInt → v4.toInt ≤ 9) := by rw [ev4]; exact om_fact (r := a1.toInt) hI (by omega) ha1 ha2
  exact retRi hx hb hr hlk hS dX11_ofMan_14 (show (0 : Int) ≤ v4.toInt ∧ v4.toInt ≤ 99 ∧ (a2.toInt = 1 → v4.toInt ≤ 63) ∧ (2 ≤ a2.toInt → v4.toInt ≤ 9) by omega)

set_option maxRecDepth 100000 in
set_option maxHeartbeats 8000000 in
theorem sX11_allRooms (l : Launch) (G : va_G) (cs : Nat → ClassId) (h : Nat) (q : Nat → Nat) (F : Nat → Int32) (A : Nat → Nat → Int32) (D : Int64) (B : Nat → Nat → Int64) (hI : IM F A) : SafeR l yX11_allRooms cX11_allRooms 1 (some .int) 0 G (TY cs) [.ref h] (mS cs h q F A D B) (fun r : Int32 => (0 : Int) ≤ r.toInt ∧ r.toInt ≤ 127) := by
  refine mkP (Qc := QRi (fun r : Int32 => (0 : Int) ≤ r.toInt ∧ r.toInt ≤ 127)) (by decide) (by simp [lg_sl, Value.category]) ?_
  intro p e s m args below meth c ls hx hb hml hr hlk hown ht hK hP hS hl
  have hl : lv_has ls 1 [(0, .ref h)] := hl
  refine lv_iconst (v := 1) hx hb dX11_allRooms_0 (by decide) ?_
  refine lv_aload_n hx hb dX11_allRooms_1 rfl (lv_at hl 0 rfl) ?_
  refine getF (v := .ref (q 1)) hx hb ht hown hK hP iTX11 0 1 rfl rfl (by decide) fl_RX11_9 rfl dX11_allRooms_2 ?_
  refine lv_iconst (v := 4) hx hb dX11_allRooms_5 (by decide) ?_
  refine va_iald hx hb hK.1 hP 1 0 rfl rfl (show ¬ (_ ∨ _) by decide) dX11_allRooms_6 ?_
  refine W.eq (g2 := F0 m 7 ls [.int (A 1 4), .int 1]) rfl ?_
  have zf1 : (0 : Int) ≤ (A 1 4).toInt ∧ (A 1 4).toInt ≤ 7 := (hI.2 1 4)
  refine lv_ishl hx hb dX11_allRooms_7 ?_
  refine lv_topi (fun v2 ev2 => ?_)
  have tv2 : (1 : Int) ≤ v2.toInt ∧ v2.toInt ≤ 128 := by rw [ev2]; exact shl1 rfl (by omega)
  refine lv_iconst (v := 1) hx hb dX11_allRooms_8 (by decide) ?_
  refine lv_isub hx hb dX11_allRooms_9 ?_
  refine lv_topi (fun v3 ev3 => ?_)
  have tv3 : v3.toInt = v2.toInt - 1 := by rw [ev3]; exact subT rfl (show (1 : Int32).toInt = 1 by decide) (by omega)
  exact retRi hx hb hr hlk hS dX11_allRooms_10 (show (0 : Int) ≤ v3.toInt ∧ v3.toInt ≤ 127 by omega)

set_option maxRecDepth 100000 in
set_option maxHeartbeats 8000000 in
theorem sX11_end (l : Launch) (G : va_G) (cs : Nat → ClassId) (h : Nat) (q : Nat → Nat) (F : Nat → Int32) (A : Nat → Nat → Int32) (D : Int64) (B : Nat → Nat → Int64) (hI : IM F A) (a1 : Int32) : ImpI l yX11_end cX11_end 2 (some .int) 1 0 0 G (TY cs) [.ref h, .int a1] (mS cs h q F A D B) (fun (r : Int32) (u : Int32) => ((0 : Int) ≤ u.toInt ∧ u.toInt ≤ 900) ∧ (True)) (fun u : Int32 => (mS cs h q (upd F 5 u) A D B)) := by
  refine mkD (Qc := (QDi G (fun (r : Int32) (u : Int32) => ((0 : Int) ≤ u.toInt ∧ u.toInt ≤ 900) ∧ (True)) (fun u : Int32 => (mS cs h q (upd F 5 u) A D B)))) (by decide) (by simp [lg_sl, Value.category]) ?_
  intro p e s m args below meth c ls A0 hx hb hml hr hlk hown hmn ht hK hP hD hS hA hl
  have hl : lv_has ls 2 [(0, .ref h), (1, .int a1)] := hl
  refine lv_iload_n hx hb dX11_end_0 rfl (lv_at hl 1 rfl) ?_
  refine lv_i2l hx hb dX11_end_1 rfl ?_
  have bb1 := i32b a1
  refine lv_topl (fun v2 ev2 => ?_)
  have tv2 : v2.toInt = a1.toInt := by rw [ev2]; exact Int32.toInt_toInt64 _
  refine lv_lconst (v := 0) hx hb dX11_end_2 (by decide) ?_
  refine lv_aload_n hx hb dX11_end_3 rfl (lv_at hl 0 rfl) ?_
  refine getF (v := .int (F 5)) hx hb ht hown hK hP iTX11 0 5 rfl rfl (by decide) fl_RX11_93 rfl dX11_end_4 ?_
  have zf3 : (0 : Int) ≤ (F 5).toInt ∧ (F 5).toInt ≤ 900 := hI.1 5
  refine lv_i2l hx hb dX11_end_7 rfl ?_
  refine lv_topl (fun v4 ev4 => ?_)
  have tv4 : v4.toInt = (F 5).toInt := by rw [ev4]; exact Int32.toInt_toInt64 _
  refine behR (runSP (As := [.long v2, .long 0, .long v4]) (rest := []) ⟨hx, hb, hml, hown, ht⟩ (sX11_in l G cs v2 0 v4 ) okS_RX11_79 ⟨by decide, by decide⟩ hK hP [] rfl hl.1 rfl (Nat.le_of_ble_eq_true rfl) dX11_end_8 ⟨by decide, by decide⟩) hP hS hA (fun r5 H locs hr5 hP hS => ?_)
  have kk6 : (0 : Int64).toInt = 0 := by decide
  have hr5 : (r5.toInt = 1 ∧ (0 : Int64).toInt ≤ v2.toInt ∧ v2.toInt ≤ v4.toInt) ∨ (r5.toInt = 0 ∧ (v2.toInt < (0 : Int64).toInt ∨ v4.toInt < v2.toInt)) := hr5
  refine lv_if_ne (tgt := 16) hx hb dX11_end_11 (by decide) (fun c7 => ?_) (fun c7 => ?_)
  · have zc7 := neK rfl (show (0 : Int32).toInt = 0 by decide) c7
    refine lv_aload_n hx hb dX11_end_16 rfl (lv_at hl 0 rfl) ?_
    refine lv_iload_n hx hb dX11_end_17 rfl (lv_at hl 1 rfl) ?_
    refine putD hx hb ht hown hK hP hD hS iTX11 tyX11 tyX11_ok nmX11 0 5 rfl rfl (by decide) fl_RX11_93 rfl rfl rfl (Nat.le_of_ble_eq_true rfl) dX11_end_18 (fun H locs hP hD hS => ?_)
    have hP : va_P G vwCl (mS cs h q (upd F 5 a1) A D B) H := hP
    have hD : va_D A0 (mS cs h q (upd F 5 a1) A D B) := hD
    refine lv_iload_n hx hb dX11_end_21 rfl (lv_at hl 1 rfl) ?_
    exact retDi a1 hx hb hr hlk hP hD hS dX11_end_22 (⟨show (0 : Int) ≤ a1.toInt ∧ a1.toInt ≤ 900 by omega, trivial⟩) (Nat.le_of_ble_eq_true rfl) (Nat.le_of_ble_eq_true rfl)
  · have zc7 := eqK rfl (show (0 : Int32).toInt = 0 by decide) c7
    refine lv_iconst (v := (-1)) hx hb dX11_end_14 (by decide) ?_
    exact retDi (F 5) hx hb hr hlk hP hD hS dX11_end_15 (⟨hI.1 5, trivial⟩) (Nat.le_of_ble_eq_true rfl) (Nat.le_of_ble_eq_true rfl)

