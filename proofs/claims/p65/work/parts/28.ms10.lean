set_option maxRecDepth 100000 in
set_option maxHeartbeats 8000000 in
theorem sX11_list (l : Launch) (G : va_G) (cs : Nat → ClassId) (h : Nat) (q : Nat → Nat) (F : Nat → Int32) (A : Nat → Nat → Int32) (D : Int64) (B : Nat → Nat → Int64) (hI : IM F A) (a1 : Int32) : SafeR l yX11_list cX11_list 4 (some .int) 2 G (TY cs) [.ref h, .int a1] (mS cs h q F A D B) (fun r : Int32 => True) := by
  refine mkP (Qc := QRi (fun r : Int32 => True)) (by decide) (by simp [lg_sl, Value.category]) ?_
  intro p e s m args below meth c ls hx hb hml hr hlk hown ht hK hP hS hl
  have hl : lv_has ls 4 [(0, .ref h), (1, .int a1)] := hl
  refine lv_aload_n hx hb dX11_list_0 rfl (lv_at hl 0 rfl) ?_
  refine lv_iload_n hx hb dX11_list_1 rfl (lv_at hl 1 rfl) ?_
  refine behR (runVP (As := [.int a1]) (rest := []) ⟨hx, hb, hml, hown, ht⟩ (sX11_areMen l G cs h q F A D B hI a1 ) okV_RX11_375 ⟨by decide, by decide⟩ hK hP [0, 1, 2, 3, 4, 5, 6, 7, 8, 9, 10, 11, 12, 13, 14, 15, 16, 17, 18, 19] rfl 0 rfl rfl hl.1 rfl (Nat.le_of_ble_eq_true rfl) dX11_list_2 ⟨by decide, by decide⟩) hP hS (fun _ h => h) (fun r1 H locs hr1 hP hS => ?_)
  have hr1 : (r1.toInt = 1 ∧ 1 ≤ a1.toInt ∧ a1.toInt ≤ 63 ∧ a1.toInt < P2 ((A 1) 5).toInt) ∨ r1.toInt = 0 := hr1
  refine lv_if_ne (tgt := 11) hx hb dX11_list_5 (by decide) (fun c2 => ?_) (fun c2 => ?_)
  · have zc2 := neK rfl (show (0 : Int32).toInt = 0 by decide) c2
    refine lv_iconst (v := (-1)) hx hb dX11_list_11 (by decide) ?_
    refine lv_istore_n (lv' := [(2, .int (-1)), (0, .ref h), (1, .int a1)]) hx hb dX11_list_12 rfl hl (by decide) rfl (fun ls hl => ?_)
    refine lv_iconst (v := 0) hx hb dX11_list_13 (by decide) ?_
    refine lv_istore_n (lv' := [(3, .int 0), (2, .int (-1)), (0, .ref h), (1, .int a1)]) hx hb dX11_list_14 rfl hl (by decide) rfl (fun ls hl => ?_)
    have B15 : ∀ (n : Nat) (x15_2 : Int32) (x15_3 : Int32) (H : Heap) (locs : List Loc) (ls : Array Slot), (64 - x15_3.toInt).toNat < n → (-1 : Int) ≤ x15_2.toInt ∧ x15_2.toInt ≤ 63 → (0 : Int) ≤ x15_3.toInt ∧ x15_3.toInt ≤ 64 → va_P G vwCl (mS cs h q F A D B) H → va_S (fun q => s.heap.size ≤ q) s.heap H locs → lv_has ls 4 [(0, .ref h), (1, .int a1), (2, .int x15_2), (3, .int x15_3)] → W p l e (rmk 2 0 0) s m args below meth c H locs 0 0 (MQ below (QRi (fun r : Int32 => True) s.heap.size) args s 0 0 (fun q => s.heap.size ≤ q)) (F0 m 15 ls []) := by
      intro n
      induction n with
      | zero => intro x15_2 x15_3 H locs ls hmeas hx15_2 hx15_3 hP hS hl; exact absurd hmeas (Nat.not_lt_zero _)
      | succ n ih15 =>
        intro x15_2 x15_3 H locs ls hmeas hx15_2 hx15_3 hP hS hl
        refine lv_iload_n hx hb dX11_list_15 rfl (lv_at hl 3 rfl) ?_
        refine lv_bipush (v := 64) hx hb dX11_list_16 (by decide) ?_
        refine lv_icmp_ge (tgt := 58) hx hb dX11_list_18 (by decide) (fun c11001 => ?_) (fun c11001 => ?_)
        · have zc11001 := leK (show (64 : Int32).toInt = 64 by decide) rfl c11001
          refine lv_iload_n hx hb dX11_list_58 rfl (lv_at hl 2 rfl) ?_
          exact retRi hx hb hr hlk hS dX11_list_59 (trivial)
        · have zc11001 := nleK (show (64 : Int32).toInt = 64 by decide) rfl c11001
          refine lv_iload_n hx hb dX11_list_21 rfl (lv_at hl 2 rfl) ?_
          refine lv_iconst (v := (-1)) hx hb dX11_list_22 (by decide) ?_
          have B51 : ∀ (s51_0 : Int32) (H : Heap) (locs : List Loc) (ls : Array Slot), (-1 : Int) ≤ s51_0.toInt ∧ s51_0.toInt ≤ 63 → va_P G vwCl (mS cs h q F A D B) H → va_S (fun q => s.heap.size ≤ q) s.heap H locs → lv_has ls 4 [(0, .ref h), (1, .int a1), (3, .int x15_3)] → W p l e (rmk 2 0 0) s m args below meth c H locs 0 0 (MQ below (QRi (fun r : Int32 => True) s.heap.size) args s 0 0 (fun q => s.heap.size ≤ q)) (F0 m 51 ls [.int s51_0]) := by
            intro s51_0 H locs ls hs51_0 hP hS hl
            refine lv_istore_n (lv' := [(2, .int s51_0), (0, .ref h), (1, .int a1), (3, .int x15_3)]) hx hb dX11_list_51 rfl hl (by decide) rfl (fun ls hl => ?_)
            obtain ⟨v30001, ev30001⟩ : ∃ z : Int32, z = x15_3 + 1 := ⟨_, rfl⟩
            have tv30001 : v30001.toInt = x15_3.toInt + 1 := by rw [ev30001]; exact addT rfl (by decide) (by omega)
            refine lv_iinc (v := v30001) (lv' := [(3, .int v30001), (2, .int s51_0), (0, .ref h), (1, .int a1)]) hx hb dX11_list_52 hl (k := 3) rfl (by rw [ev30001]; rfl) (by decide) rfl (fun ls hl => ?_)
            refine lv_goto (tgt := 15) hx hb dX11_list_55 (by decide) ?_
            exact ih15 s51_0 v30001 H locs ls (by omega) (by omega) (by omega) hP hS (lv_sub hl [2, 3, 1, 0] rfl)
          have B50 : ∀ (H : Heap) (locs : List Loc) (ls : Array Slot), va_P G vwCl (mS cs h q F A D B) H → va_S (fun q => s.heap.size ≤ q) s.heap H locs → lv_has ls 4 [(0, .ref h), (1, .int a1), (2, .int x15_2), (3, .int x15_3)] → W p l e (rmk 2 0 0) s m args below meth c H locs 0 0 (MQ below (QRi (fun r : Int32 => True) s.heap.size) args s 0 0 (fun q => s.heap.size ≤ q)) (F0 m 50 ls []) := by
            intro H locs ls hP hS hl
            refine lv_iload_n hx hb dX11_list_50 rfl (lv_at hl 2 rfl) ?_
            exact B51 x15_2 H locs ls (by omega) hP hS (lv_sub hl [0, 1, 3] rfl)
          have B37 : ∀ (H : Heap) (locs : List Loc) (ls : Array Slot), va_P G vwCl (mS cs h q F A D B) H → va_S (fun q => s.heap.size ≤ q) s.heap H locs → lv_has ls 4 [(0, .ref h), (1, .int a1), (2, .int x15_2), (3, .int x15_3)] → W p l e (rmk 2 0 0) s m args below meth c H locs 0 0 (MQ below (QRi (fun r : Int32 => True) s.heap.size) args s 0 0 (fun q => s.heap.size ≤ q)) (F0 m 37 ls []) := by
            intro H locs ls hP hS hl
            refine lv_aload_n hx hb dX11_list_37 rfl (lv_at hl 0 rfl) ?_
            refine lv_iload_n hx hb dX11_list_38 rfl (lv_at hl 1 rfl) ?_
            refine lv_iload_n hx hb dX11_list_39 rfl (lv_at hl 3 rfl) ?_
            refine behR (runVP (As := [.int a1, .int x15_3]) (rest := []) ⟨hx, hb, hml, hown, ht⟩ (sX11_tellsApart l G cs h q F A D B hI a1 x15_3 ) okV_RX11_381 ⟨by decide, by decide⟩ hK hP [0, 1, 2, 3, 4, 5, 6, 7, 8, 9, 10, 11, 12, 13, 14, 15, 16, 17, 18, 19] rfl 0 rfl rfl hl.1 rfl (Nat.le_of_ble_eq_true rfl) dX11_list_40 ⟨by decide, by decide⟩) hP hS (fun _ h => h) (fun r22001 H locs hr22001 hP hS => ?_)
            have hr22001 : (0 : Int) ≤ r22001.toInt ∧ r22001.toInt ≤ 1 := hr22001
            refine lv_if_eq (tgt := 50) hx hb dX11_list_43 (by decide) (fun c22002 => ?_) (fun c22002 => ?_)
            · have zc22002 := eqK rfl (show (0 : Int32).toInt = 0 by decide) c22002
              exact B50 H locs ls hP hS (lv_sub hl [0, 1, 2, 3] rfl)
            · have zc22002 := neK rfl (show (0 : Int32).toInt = 0 by decide) c22002
              refine lv_iload_n hx hb dX11_list_46 rfl (lv_at hl 3 rfl) ?_
              refine lv_goto (tgt := 51) hx hb dX11_list_47 (by decide) ?_
              exact B51 x15_3 H locs ls (by omega) hP hS (lv_sub hl [0, 1, 3] rfl)
          refine lv_icmp_eq (tgt := 37) hx hb dX11_list_23 (by decide) (fun c11002 => ?_) (fun c11002 => ?_)
          · have zc11002 := eqK rfl (show (-1 : Int32).toInt = (-1) by decide) c11002
            exact B37 H locs ls hP hS (lv_sub hl [0, 1, 2, 3] rfl)
          · have zc11002 := neK rfl (show (-1 : Int32).toInt = (-1) by decide) c11002
            refine lv_iload_n hx hb dX11_list_26 rfl (lv_at hl 3 rfl) ?_
            refine behR (runSP (As := [.int x15_3]) (rest := []) ⟨hx, hb, hml, hown, ht⟩ (sX11_bits l G cs x15_3 ) okS_RX11_255 ⟨by decide, by decide⟩ hK hP [] rfl hl.1 rfl (Nat.le_of_ble_eq_true rfl) dX11_list_27 ⟨by decide, by decide⟩) hP hS (fun _ h => h) (fun r11003 H locs hr11003 hP hS => ?_)
            refine lv_iload_n hx hb dX11_list_30 rfl (lv_at hl 2 rfl) ?_
            refine behR (runSP (As := [.int x15_2]) (rest := [.int r11003]) ⟨hx, hb, hml, hown, ht⟩ (sX11_bits l G cs x15_2 ) okS_RX11_255 ⟨by decide, by decide⟩ hK hP [] rfl hl.1 rfl (Nat.le_of_ble_eq_true rfl) dX11_list_31 ⟨by decide, by decide⟩) hP hS (fun _ h => h) (fun r11004 H locs hr11004 hP hS => ?_)
            refine lv_icmp_ge (tgt := 50) hx hb dX11_list_34 (by decide) (fun c11005 => ?_) (fun c11005 => ?_)
            · have zc11005 := leK rfl rfl c11005
              exact B50 H locs ls hP hS (lv_sub hl [0, 1, 2, 3] rfl)
            · have zc11005 := nleK rfl rfl c11005
              exact B37 H locs ls hP hS (lv_sub hl [0, 1, 2, 3] rfl)
    exact B15 _ (-1) 0 H locs ls (Nat.lt_succ_self _) (by decide) (by decide) hP hS (lv_sub hl [2, 3, 1, 0] rfl)
  · have zc2 := eqK rfl (show (0 : Int32).toInt = 0 by decide) c2
    refine lv_bipush (v := (-2)) hx hb dX11_list_8 (by decide) ?_
    exact retRi hx hb hr hlk hS dX11_list_10 (trivial)

set_option maxRecDepth 100000 in
set_option maxHeartbeats 8000000 in
theorem sX11_divisor (l : Launch) (G : va_G) (cs : Nat → ClassId) (a1 : Int64) (a2 : Int64) : SafeL l yX11_divisor cX11_divisor 10 (some .long) 0 G (TY cs) [.long a1, .long a2] [] (fun r : Int64 => ¬ (a1.toInt = 0 ∧ a2.toInt = 0) → ¬ r.toInt = 0) := by
  refine mkP (Qc := QRl (fun r : Int64 => ¬ (a1.toInt = 0 ∧ a2.toInt = 0) → ¬ r.toInt = 0)) (by decide) (by simp [lg_sl, Value.category]) ?_
  intro p e s m args below meth c ls hx hb hml hr hlk hown ht hK hP hS hl
  have hl : lv_has ls 10 [(0, .long a1), (2, .long a2)] := hl
  refine lv_lload_n hx hb dX11_divisor_0 rfl (lv_at hl 0 rfl) ?_
  refine lv_lstore (lv' := [(4, .long a1), (0, .long a1), (2, .long a2)]) hx hb dX11_divisor_1 hl (by decide) rfl (fun ls hl => ?_)
  refine lv_lload_n hx hb dX11_divisor_3 rfl (lv_at hl 2 rfl) ?_
  refine lv_lstore (lv' := [(6, .long a2), (4, .long a1), (0, .long a1), (2, .long a2)]) hx hb dX11_divisor_4 hl (by decide) rfl (fun ls hl => ?_)
  have B6 : ∀ (n : Nat) (x6_4 : Int64) (x6_6 : Int64) (H : Heap) (locs : List Loc) (ls : Array Slot), x6_6.toInt.natAbs < n → (¬ (a1.toInt = 0 ∧ a2.toInt = 0) → ¬ (x6_4.toInt = 0 ∧ x6_6.toInt = 0)) → va_P G vwCl [] H → va_S (fun q => s.heap.size ≤ q) s.heap H locs → lv_has ls 10 [(4, .long x6_4), (6, .long x6_6)] → W p l e (rmk 0 0 0) s m args below meth c H locs 0 0 (MQ below (QRl (fun r : Int64 => ¬ (a1.toInt = 0 ∧ a2.toInt = 0) → ¬ r.toInt = 0) s.heap.size) args s 0 0 (fun q => s.heap.size ≤ q)) (F0 m 6 ls []) := by
    intro n
    induction n with
    | zero => intro x6_4 x6_6 H locs ls hmeas hxy hP hS hl; exact absurd hmeas (Nat.not_lt_zero _)
    | succ n ih6 =>
      intro x6_4 x6_6 H locs ls hmeas hxy hP hS hl
      refine lv_lload hx hb dX11_divisor_6 (lv_at hl 1 rfl) ?_
      refine lv_lconst (v := 0) hx hb dX11_divisor_8 (by decide) ?_
      refine W.lcmp hx hb dX11_divisor_9 ?_
      refine lv_topi (fun v5001 ev5001 => ?_)
      refine lv_if_eq (tgt := 31) hx hb dX11_divisor_10 (by decide) (fun c5002 => ?_) (fun c5002 => ?_)
      · have zc5002 := eqK rfl (show (0 : Int32).toInt = 0 by decide) c5002
        have yc5002 := cmpEQ rfl (show (0 : Int64).toInt = 0 by decide) ev5001 (by omega)
        refine lv_lload hx hb dX11_divisor_31 (lv_at hl 0 rfl) ?_
        exact retRl hx hb hr hlk hS dX11_divisor_33 (show ¬ (a1.toInt = 0 ∧ a2.toInt = 0) → ¬ x6_4.toInt = 0 by omega)
      · have zc5002 := neK rfl (show (0 : Int32).toInt = 0 by decide) c5002
        have yc5002 := cmpEQn rfl (show (0 : Int64).toInt = 0 by decide) ev5001 (by omega)
        refine lv_lload hx hb dX11_divisor_13 (lv_at hl 0 rfl) ?_
        refine lv_lload hx hb dX11_divisor_15 (lv_at hl 1 rfl) ?_
        refine lv_lrem hx hb dX11_divisor_17 (n0L rfl (by omega)) ?_
        refine lv_topl (fun v5003 ev5003 => ?_)
        have uv5003 : v5003.toInt.natAbs < x6_6.toInt.natAbs := by rw [ev5003]; exact remN (by omega)
        refine lv_lstore (lv' := [(8, .long v5003), (4, .long x6_4), (6, .long x6_6)]) hx hb dX11_divisor_18 hl (by decide) rfl (fun ls hl => ?_)
        refine lv_lload hx hb dX11_divisor_20 (lv_at hl 2 rfl) ?_
        refine lv_lstore (lv' := [(4, .long x6_6), (8, .long v5003), (6, .long x6_6)]) hx hb dX11_divisor_22 hl (by decide) rfl (fun ls hl => ?_)
        refine lv_lload hx hb dX11_divisor_24 (lv_at hl 1 rfl) ?_
        refine lv_lstore (lv' := [(6, .long v5003), (4, .long x6_6), (8, .long v5003)]) hx hb dX11_divisor_26 hl (by decide) rfl (fun ls hl => ?_)
        refine lv_goto (tgt := 6) hx hb dX11_divisor_28 (by decide) ?_
        exact ih6 x6_6 v5003 H locs ls (by omega) (by have k0 : (0 : Int32).toInt = 0 := (by decide); have k1 : (1 : Int32).toInt = 1 := (by decide); omega) hP hS (lv_sub hl [1, 0] rfl)
  exact B6 _ a1 a2 s.heap [] ls (Nat.lt_succ_self _) (by have k0 : (0 : Int32).toInt = 0 := (by decide); have k1 : (1 : Int32).toInt = 1 := (by decide); omega) hP hS (lv_sub hl [1, 0] rfl)

set_option maxRecDepth 100000 in
set_option maxHeartbeats 8000000 in
theorem sX11_part (l : Launch) (G : va_G) (cs : Nat → ClassId) (a1 : Int64) (a2 : Int64) (a3 : Int32) (hnz : ¬ (a1.toInt = 0 ∧ a2.toInt = 0)) : SafeL l yX11_part cX11_part 5 (some .long) 1 G (TY cs) [.long a1, .long a2, .int a3] [] (fun r : Int64 => True) := by
  refine mkP (Qc := QRl (fun r : Int64 => True)) (by decide) (by simp [lg_sl, Value.category]) ?_
  intro p e s m args below meth c ls hx hb hml hr hlk hown ht hK hP hS hl
  have hl : lv_has ls 5 [(0, .long a1), (2, .long a2), (4, .int a3)] := hl
  refine lv_iload hx hb dX11_part_0 (lv_at hl 2 rfl) ?_
  refine lv_if_ne (tgt := 9) hx hb dX11_part_2 (by decide) (fun c1 => ?_) (fun c1 => ?_)
  · have zc1 := neK rfl (show (0 : Int32).toInt = 0 by decide) c1
    refine lv_lload_n hx hb dX11_part_9 rfl (lv_at hl 1 rfl) ?_
    refine lv_lload_n hx hb dX11_part_10 rfl (lv_at hl 0 rfl) ?_
    refine lv_lload_n hx hb dX11_part_11 rfl (lv_at hl 1 rfl) ?_
    refine behRL (runSP (As := [.long a1, .long a2]) (rest := [.long a2]) ⟨hx, hb, hml, hown, ht⟩ (sX11_divisor l G cs a1 a2 ) okS_RX11_384 ⟨by decide, by decide⟩ hK hP [] rfl hl.1 rfl (Nat.le_of_ble_eq_true rfl) dX11_part_12 ⟨by decide, by decide⟩) hP hS (fun _ h => h) (fun r2 H locs hr2 hP hS => ?_)
    have hr2 : ¬ (a1.toInt = 0 ∧ a2.toInt = 0) → ¬ r2.toInt = 0 := hr2
    refine lv_ldiv hx hb dX11_part_15 (n0L rfl (by omega)) ?_
    refine lv_topl (fun v3 ev3 => ?_)
    exact retRl hx hb hr hlk hS dX11_part_16 (trivial)
  · have zc1 := eqK rfl (show (0 : Int32).toInt = 0 by decide) c1
    refine lv_lload_n hx hb dX11_part_5 rfl (lv_at hl 0 rfl) ?_
    refine lv_goto (tgt := 10) hx hb dX11_part_6 (by decide) ?_
    refine lv_lload_n hx hb dX11_part_10 rfl (lv_at hl 0 rfl) ?_
    refine lv_lload_n hx hb dX11_part_11 rfl (lv_at hl 1 rfl) ?_
    refine behRL (runSP (As := [.long a1, .long a2]) (rest := [.long a1]) ⟨hx, hb, hml, hown, ht⟩ (sX11_divisor l G cs a1 a2 ) okS_RX11_384 ⟨by decide, by decide⟩ hK hP [] rfl hl.1 rfl (Nat.le_of_ble_eq_true rfl) dX11_part_12 ⟨by decide, by decide⟩) hP hS (fun _ h => h) (fun r4 H locs hr4 hP hS => ?_)
    have hr4 : ¬ (a1.toInt = 0 ∧ a2.toInt = 0) → ¬ r4.toInt = 0 := hr4
    refine lv_ldiv hx hb dX11_part_15 (n0L rfl (by omega)) ?_
    refine lv_topl (fun v5 ev5 => ?_)
    exact retRl hx hb hr hlk hS dX11_part_16 (trivial)

set_option maxRecDepth 100000 in
set_option maxHeartbeats 8000000 in
theorem sX11_meant (l : Launch) (G : va_G) (cs : Nat → ClassId) (h : Nat) (q : Nat → Nat) (F : Nat → Int32) (A : Nat → Nat → Int32) (D : Int64) (B : Nat → Nat → Int64) (hI : IM F A) (a1 : Int32) (a2 : Int32) (a3 : Int32) (hWG : WG (A 1)) : SafeR l yX11_meant cX11_meant 6 (some .int) 2 G (TY cs) [.ref h, .int a1, .int a2, .int a3] (mS cs h q F A D B) (fun r : Int32 => True) := by
  refine mkP (Qc := QRi (fun r : Int32 => True)) (by decide) (by simp [lg_sl, Value.category]) ?_
  intro p e s m args below meth c ls hx hb hml hr hlk hown ht hK hP hS hl
  have hl : lv_has ls 6 [(0, .ref h), (1, .int a1), (2, .int a2), (3, .int a3)] := hl
  refine lv_aload_n hx hb dX11_meant_0 rfl (lv_at hl 0 rfl) ?_
  refine lv_iload_n hx hb dX11_meant_1 rfl (lv_at hl 1 rfl) ?_
  refine behR (runVP (As := [.int a1]) (rest := []) ⟨hx, hb, hml, hown, ht⟩ (sX11_areMen l G cs h q F A D B hI a1 ) okV_RX11_375 ⟨by decide, by decide⟩ hK hP [0, 1, 2, 3, 4, 5, 6, 7, 8, 9, 10, 11, 12, 13, 14, 15, 16, 17, 18, 19] rfl 0 rfl rfl hl.1 rfl (Nat.le_of_ble_eq_true rfl) dX11_meant_2 ⟨by decide, by decide⟩) hP hS (fun _ h => h) (fun r1 H locs hr1 hP hS => ?_)
  have hr1 : (r1.toInt = 1 ∧ 1 ≤ a1.toInt ∧ a1.toInt ≤ 63 ∧ a1.toInt < P2 ((A 1) 5).toInt) ∨ r1.toInt = 0 := hr1
  refine lv_if_eq (tgt := 26) hx hb dX11_meant_5 (by decide) (fun c2 => ?_) (fun c2 => ?_)
  · have zc2 := eqK rfl (show (0 : Int32).toInt = 0 by decide) c2
    refine lv_bipush (v := (-2)) hx hb dX11_meant_26 (by decide) ?_
    exact retRi hx hb hr hlk hS dX11_meant_28 (trivial)
  · have zc2 := neK rfl (show (0 : Int32).toInt = 0 by decide) c2
    refine lv_aload_n hx hb dX11_meant_8 rfl (lv_at hl 0 rfl) ?_
    refine lv_iload_n hx hb dX11_meant_9 rfl (lv_at hl 2 rfl) ?_
    refine behR (runVP (As := [.int a2]) (rest := []) ⟨hx, hb, hml, hown, ht⟩ (sX11_isMan l G cs h q F A D B hI a2 ) okV_RX11_230 ⟨by decide, by decide⟩ hK hP [0, 1, 2, 3, 4, 5, 6, 7, 8, 9, 10, 11, 12, 13, 14, 15, 16, 17, 18, 19] rfl 0 rfl rfl hl.1 rfl (Nat.le_of_ble_eq_true rfl) dX11_meant_10 ⟨by decide, by decide⟩) hP hS (fun _ h => h) (fun r3 H locs hr3 hP hS => ?_)
    have hr3 : (r3.toInt = 1 ∧ 0 ≤ a2.toInt ∧ a2.toInt < (A 1 5).toInt ∧ a2.toInt ≤ 5 ∧ (A 1 5).toInt ≤ 6) ∨ r3.toInt = 0 := hr3
    refine lv_if_eq (tgt := 26) hx hb dX11_meant_13 (by decide) (fun c4 => ?_) (fun c4 => ?_)
    · have zc4 := eqK rfl (show (0 : Int32).toInt = 0 by decide) c4
      refine lv_bipush (v := (-2)) hx hb dX11_meant_26 (by decide) ?_
      exact retRi hx hb hr hlk hS dX11_meant_28 (trivial)
    · have zc4 := neK rfl (show (0 : Int32).toInt = 0 by decide) c4
      refine lv_iload_n hx hb dX11_meant_16 rfl (lv_at hl 3 rfl) ?_
      refine lv_i2l hx hb dX11_meant_17 rfl ?_
      have bb5 := i32b a3
      refine lv_topl (fun v6 ev6 => ?_)
      have tv6 : v6.toInt = a3.toInt := by rw [ev6]; exact Int32.toInt_toInt64 _
      refine lv_lconst (v := 0) hx hb dX11_meant_18 (by decide) ?_
      refine lv_lconst (v := 1) hx hb dX11_meant_19 (by decide) ?_
      refine behR (runSP (As := [.long v6, .long 0, .long 1]) (rest := []) ⟨hx, hb, hml, hown, ht⟩ (sX11_in l G cs v6 0 1 ) okS_RX11_79 ⟨by decide, by decide⟩ hK hP [] rfl hl.1 rfl (Nat.le_of_ble_eq_true rfl) dX11_meant_20 ⟨by decide, by decide⟩) hP hS (fun _ h => h) (fun r7 H locs hr7 hP hS => ?_)
      have kk8 : (0 : Int64).toInt = 0 := by decide
      have kk9 : (1 : Int64).toInt = 1 := by decide
      have hr7 : (r7.toInt = 1 ∧ (0 : Int64).toInt ≤ v6.toInt ∧ v6.toInt ≤ (1 : Int64).toInt) ∨ (r7.toInt = 0 ∧ (v6.toInt < (0 : Int64).toInt ∨ (1 : Int64).toInt < v6.toInt)) := hr7
      refine lv_if_ne (tgt := 29) hx hb dX11_meant_23 (by decide) (fun c10 => ?_) (fun c10 => ?_)
      · have zc10 := neK rfl (show (0 : Int32).toInt = 0 by decide) c10
        refine lv_iconst (v := 0) hx hb dX11_meant_29 (by decide) ?_
        refine lv_istore (lv' := [(4, .int 0), (0, .ref h), (1, .int a1), (2, .int a2), (3, .int a3)]) hx hb dX11_meant_30 hl (by decide) rfl (fun ls hl => ?_)
        refine lv_iconst (v := 0) hx hb dX11_meant_32 (by decide) ?_
        refine lv_istore (lv' := [(5, .int 0), (4, .int 0), (0, .ref h), (1, .int a1), (2, .int a2), (3, .int a3)]) hx hb dX11_meant_33 hl (by decide) rfl (fun ls hl => ?_)
        have B35 : ∀ (n : Nat) (x35_4 : Int32) (x35_5 : Int32) (H : Heap) (locs : List Loc) (ls : Array Slot), (6 - x35_5.toInt).toNat < n → (0 : Int) ≤ x35_4.toInt ∧ x35_4.toInt ≤ 594 → (0 : Int) ≤ x35_5.toInt ∧ x35_5.toInt ≤ 6 → ((1 ≤ x35_4.toInt ∨ BZ a1 x35_5.toInt) ∧ x35_4.toInt ≤ 99 * x35_5.toInt ∧ x35_5.toInt ≤ (A 1 5).toInt) → va_P G vwCl (mS cs h q F A D B) H → va_S (fun q => s.heap.size ≤ q) s.heap H locs → lv_has ls 6 [(0, .ref h), (1, .int a1), (2, .int a2), (3, .int a3), (4, .int x35_4), (5, .int x35_5)] → W p l e (rmk 2 0 0) s m args below meth c H locs 0 0 (MQ below (QRi (fun r : Int32 => True) s.heap.size) args s 0 0 (fun q => s.heap.size ≤ q)) (F0 m 35 ls []) := by
          intro n
          induction n with
          | zero => intro x35_4 x35_5 H locs ls hmeas hx35_4 hx35_5 hbz hP hS hl; exact absurd hmeas (Nat.not_lt_zero _)
          | succ n ih35 =>
            intro x35_4 x35_5 H locs ls hmeas hx35_4 hx35_5 hbz hP hS hl
            refine lv_iload hx hb dX11_meant_35 (lv_at hl 5 rfl) ?_
            refine lv_aload_n hx hb dX11_meant_37 rfl (lv_at hl 0 rfl) ?_
            refine getF (v := .ref (q 1)) hx hb ht hown hK hP iTX11 0 1 rfl rfl (by decide) fl_RX11_9 rfl dX11_meant_38 ?_
            refine lv_iconst (v := 5) hx hb dX11_meant_41 (by decide) ?_
            refine va_iald hx hb hK.1 hP 1 0 rfl rfl (show ¬ (_ ∨ _) by decide) dX11_meant_42 ?_
            refine W.eq (g2 := F0 m 43 ls [.int (A 1 5), .int x35_5]) rfl ?_
            have zf19001 : (0 : Int) ≤ (A 1 5).toInt ∧ (A 1 5).toInt ≤ 6 := (hI.2 1 5)
            refine lv_icmp_ge (tgt := 71) hx hb dX11_meant_43 (by decide) (fun c19002 => ?_) (fun c19002 => ?_)
            · have zc19002 := leK rfl rfl c19002
              have ha9 : 1 ≤ x35_4.toInt := hbz.1.resolve_right (fun q9 => BZx q9 (n := (A 1 5).toInt) (by omega) (by have q8 : (0 : Int) ≤ (A 1 5).toInt ∧ (A 1 5).toInt ≤ 6 := hI.2 1 5; omega) (by omega))
              refine lv_iload_n hx hb dX11_meant_71 rfl (lv_at hl 1 rfl) ?_
              refine lv_iload_n hx hb dX11_meant_72 rfl (lv_at hl 2 rfl) ?_
              refine behR (runSP (As := [.int a1, .int a2]) (rest := []) ⟨hx, hb, hml, hown, ht⟩ (sX11_bit l G cs a1 a2 ) okS_RX11_258 ⟨by decide, by decide⟩ hK hP [] rfl hl.1 rfl (Nat.le_of_ble_eq_true rfl) dX11_meant_73 ⟨by decide, by decide⟩) hP hS (fun _ h => h) (fun r19003 H locs hr19003 hP hS => ?_)
              have hr19003 : r19003 = bitE a1 a2 ∧ (0 : Int) ≤ r19003.toInt ∧ r19003.toInt ≤ 1 := hr19003
              refine lv_aload_n hx hb dX11_meant_76 rfl (lv_at hl 0 rfl) ?_
              refine lv_iload_n hx hb dX11_meant_77 rfl (lv_at hl 2 rfl) ?_
              refine lv_iconst (v := 0) hx hb dX11_meant_78 (by decide) ?_
              refine behR (runVP (As := [.int a2, .int 0]) (rest := [.int r19003]) ⟨hx, hb, hml, hown, ht⟩ (sX11_ofMan l G cs h q F A D B hI a2 0 (by omega) (by decide)) okV_RX11_234 ⟨by decide, by decide⟩ hK hP [0, 1, 2, 3, 4, 5, 6, 7, 8, 9, 10, 11, 12, 13, 14, 15, 16, 17, 18, 19] rfl 0 rfl rfl hl.1 rfl (Nat.le_of_ble_eq_true rfl) dX11_meant_79 ⟨by decide, by decide⟩) hP hS (fun _ h => h) (fun r19004 H locs hr19004 hP hS => ?_)
              have kk19005 : (0 : Int32).toInt = 0 := by decide
              have hr19004 : r19004 = (A 1) (36 + 8 * a2.toNatClampNeg + (0 : Int32).toNatClampNeg) ∧ (0 : Int) ≤ r19004.toInt ∧ r19004.toInt ≤ 99 ∧ ((0 : Int32).toInt = 1 → r19004.toInt ≤ 63) ∧ (2 ≤ (0 : Int32).toInt → r19004.toInt ≤ 9) := hr19004
              refine lv_imul hx hb dX11_meant_82 ?_
              refine lv_topi (fun v19006 ev19006 => ?_)
              have tv19006 : (r19003.toInt = 0 ∧ v19006.toInt = 0) ∨ (r19003.toInt = 1 ∧ v19006.toInt = r19004.toInt) := by rw [ev19006]; exact mul01T rfl rfl (by omega)
              refine lv_i2l hx hb dX11_meant_83 rfl ?_
              refine lv_topl (fun v19007 ev19007 => ?_)
              have tv19007 : v19007.toInt = v19006.toInt := by rw [ev19007]; exact Int32.toInt_toInt64 _
              refine lv_iload hx hb dX11_meant_84 (lv_at hl 4 rfl) ?_
              refine lv_i2l hx hb dX11_meant_86 rfl ?_
              refine lv_topl (fun v19008 ev19008 => ?_)
              have tv19008 : v19008.toInt = x35_4.toInt := by rw [ev19008]; exact Int32.toInt_toInt64 _
              refine lv_iload_n hx hb dX11_meant_87 rfl (lv_at hl 3 rfl) ?_
              refine behRL (runSP (As := [.long v19007, .long v19008, .int a3]) (rest := []) ⟨hx, hb, hml, hown, ht⟩ (sX11_part l G cs v19007 v19008 a3  (show ¬ (v19007.toInt = 0 ∧ v19008.toInt = 0) from (by omega))) okS_RX11_388 ⟨by decide, by decide⟩ hK hP [] rfl hl.1 rfl (Nat.le_of_ble_eq_true rfl) dX11_meant_88 ⟨by decide, by decide⟩) hP hS (fun _ h => h) (fun r19009 H locs hr19009 hP hS => ?_)
              refine lv_l2i hx hb dX11_meant_91 rfl ?_
              refine lv_topi (fun v19010 ev19010 => ?_)
              exact retRi hx hb hr hlk hS dX11_meant_92 (trivial)
            · have zc19002 := nleK rfl rfl c19002
              refine lv_iload hx hb dX11_meant_46 (lv_at hl 4 rfl) ?_
              refine lv_iload_n hx hb dX11_meant_48 rfl (lv_at hl 1 rfl) ?_
              refine lv_iload hx hb dX11_meant_49 (lv_at hl 5 rfl) ?_
              refine behR (runSP (As := [.int a1, .int x35_5]) (rest := [.int x35_4]) ⟨hx, hb, hml, hown, ht⟩ (sX11_bit l G cs a1 x35_5 ) okS_RX11_258 ⟨by decide, by decide⟩ hK hP [] rfl hl.1 rfl (Nat.le_of_ble_eq_true rfl) dX11_meant_51 ⟨by decide, by decide⟩) hP hS (fun _ h => h) (fun r19011 H locs hr19011 hP hS => ?_)
              have hr19011 : r19011 = bitE a1 x35_5 ∧ (0 : Int) ≤ r19011.toInt ∧ r19011.toInt ≤ 1 := hr19011
              refine lv_aload_n hx hb dX11_meant_54 rfl (lv_at hl 0 rfl) ?_
              refine lv_iload hx hb dX11_meant_55 (lv_at hl 5 rfl) ?_
              refine lv_iconst (v := 0) hx hb dX11_meant_57 (by decide) ?_
              refine behR (runVP (As := [.int x35_5, .int 0]) (rest := [.int r19011, .int x35_4]) ⟨hx, hb, hml, hown, ht⟩ (sX11_ofMan l G cs h q F A D B hI x35_5 0 (by omega) (by decide)) okV_RX11_234 ⟨by decide, by decide⟩ hK hP [0, 1, 2, 3, 4, 5, 6, 7, 8, 9, 10, 11, 12, 13, 14, 15, 16, 17, 18, 19] rfl 0 rfl rfl hl.1 rfl (Nat.le_of_ble_eq_true rfl) dX11_meant_58 ⟨by decide, by decide⟩) hP hS (fun _ h => h) (fun r19012 H locs hr19012 hP hS => ?_)
              have kk19013 : (0 : Int32).toInt = 0 := by decide
              have hr19012 : r19012 = (A 1) (36 + 8 * x35_5.toNatClampNeg + (0 : Int32).toNatClampNeg) ∧ (0 : Int) ≤ r19012.toInt ∧ r19012.toInt ≤ 99 ∧ ((0 : Int32).toInt = 1 → r19012.toInt ≤ 63) ∧ (2 ≤ (0 : Int32).toInt → r19012.toInt ≤ 9) := hr19012
              refine lv_imul hx hb dX11_meant_61 ?_
              refine lv_topi (fun v19014 ev19014 => ?_)
              have tv19014 : (r19011.toInt = 0 ∧ v19014.toInt = 0) ∨ (r19011.toInt = 1 ∧ v19014.toInt = r19012.toInt) := by rw [ev19014]; exact mul01T rfl rfl (by omega)
              refine lv_iadd hx hb dX11_meant_62 ?_
              refine lv_topi (fun v19015 ev19015 => ?_)
              have tv19015 : v19015.toInt = x35_4.toInt + v19014.toInt := by rw [ev19015]; exact addT rfl rfl (by omega)
              refine lv_istore (lv' := [(4, .int v19015), (0, .ref h), (1, .int a1), (2, .int a2), (3, .int a3), (5, .int x35_5)]) hx hb dX11_meant_63 hl (by decide) rfl (fun ls hl => ?_)
              obtain ⟨v19016, ev19016⟩ : ∃ z : Int32, z = x35_5 + 1 := ⟨_, rfl⟩
              have tv19016 : v19016.toInt = x35_5.toInt + 1 := by rw [ev19016]; exact addT rfl (by decide) (by omega)
              refine lv_iinc (v := v19016) (lv' := [(5, .int v19016), (4, .int v19015), (0, .ref h), (1, .int a1), (2, .int a2), (3, .int a3)]) hx hb dX11_meant_65 hl (k := 5) rfl (by rw [ev19016]; rfl) (by decide) rfl (fun ls hl => ?_)
              refine lv_goto (tgt := 35) hx hb dX11_meant_68 (by decide) ?_
              exact ih35 v19015 v19016 H locs ls (by omega) (by omega) (by omega) ⟨BZs hbz.1 (by omega) hr19011.1 tv19014 (by rw [hr19012.1]; exact hWG x35_5.toNatClampNeg (by have y1 := clK (i := x35_5) rfl (by omega); omega)) (by omega) tv19016 tv19015, by omega, by omega⟩ hP hS (lv_sub hl [2, 3, 4, 5, 1, 0] rfl)
        exact B35 _ 0 0 H locs ls (Nat.lt_succ_self _) (by decide) (by decide) ⟨Or.inr (fun j hj => absurd hj (by have k0 : (0 : Int32).toInt = 0 := (by decide); omega)), by decide, (hI.2 1 5).1⟩ hP hS (lv_sub hl [2, 3, 4, 5, 1, 0] rfl)
      · have zc10 := eqK rfl (show (0 : Int32).toInt = 0 by decide) c10
        refine lv_bipush (v := (-2)) hx hb dX11_meant_26 (by decide) ?_
        exact retRi hx hb hr hlk hS dX11_meant_28 (trivial)

set_option maxRecDepth 100000 in
set_option maxHeartbeats 8000000 in
theorem sX11_slateAll (l : Launch) (G : va_G) (cs : Nat → ClassId) (h : Nat) (q : Nat → Nat) (F : Nat → Int32) (A : Nat → Nat → Int32) (D : Int64) (B : Nat → Nat → Int64) (hI : IM F A) (a1 : Int32) (ha1 : (0 : Int) ≤ a1.toInt ∧ a1.toInt ≤ 5) : SafeL l yX11_slateAll cX11_slateAll 5 (some .long) 1 G (TY cs) [.ref h, .int a1] (mS cs h q F A D B) (fun r : Int64 => r.toInt = sA (A 1) a1.toNatClampNeg ∧ 1 ≤ r.toInt ∧ r.toInt ≤ 54) := by
  refine mkP (Qc := QRl (fun r : Int64 => r.toInt = sA (A 1) a1.toNatClampNeg ∧ 1 ≤ r.toInt ∧ r.toInt ≤ 54)) (by decide) (by simp [lg_sl, Value.category]) ?_
  intro p e s m args below meth c ls hx hb hml hr hlk hown ht hK hP hS hl
  have hl : lv_has ls 5 [(0, .ref h), (1, .int a1)] := hl
  refine lv_lconst (v := 0) hx hb dX11_slateAll_0 (by decide) ?_
  refine lv_lstore_n (lv' := [(2, .long 0), (0, .ref h), (1, .int a1)]) hx hb dX11_slateAll_1 rfl hl (by decide) rfl (fun ls hl => ?_)
  refine lv_iconst (v := 0) hx hb dX11_slateAll_2 (by decide) ?_
  refine lv_istore (lv' := [(4, .int 0), (2, .long 0), (0, .ref h), (1, .int a1)]) hx hb dX11_slateAll_3 hl (by decide) rfl (fun ls hl => ?_)
  have B5 : ∀ (n : Nat) (x5_2 : Int64) (x5_4 : Int32) (H : Heap) (locs : List Loc) (ls : Array Slot), (6 - x5_4.toInt).toNat < n → (0 : Int) ≤ x5_2.toInt ∧ x5_2.toInt ≤ 54 → (0 : Int) ≤ x5_4.toInt ∧ x5_4.toInt ≤ 6 → (x5_2.toInt = SS (A 1) a1.toNatClampNeg x5_4.toNatClampNeg ∧ 0 ≤ x5_2.toInt ∧ x5_2.toInt ≤ 9 * x5_4.toInt ∧ x5_4.toInt ≤ (A 1 5).toInt) → va_P G vwCl (mS cs h q F A D B) H → va_S (fun q => s.heap.size ≤ q) s.heap H locs → lv_has ls 5 [(0, .ref h), (1, .int a1), (2, .long x5_2), (4, .int x5_4)] → W p l e (rmk 1 0 0) s m args below meth c H locs 0 0 (MQ below (QRl (fun r : Int64 => r.toInt = sA (A 1) a1.toNatClampNeg ∧ 1 ≤ r.toInt ∧ r.toInt ≤ 54) s.heap.size) args s 0 0 (fun q => s.heap.size ≤ q)) (F0 m 5 ls []) := by
    intro n
    induction n with
    | zero => intro x5_2 x5_4 H locs ls hmeas hx5_2 hx5_4 hss hP hS hl; exact absurd hmeas (Nat.not_lt_zero _)
    | succ n ih5 =>
      intro x5_2 x5_4 H locs ls hmeas hx5_2 hx5_4 hss hP hS hl
      refine lv_iload hx hb dX11_slateAll_5 (lv_at hl 3 rfl) ?_
      refine lv_aload_n hx hb dX11_slateAll_7 rfl (lv_at hl 0 rfl) ?_
      refine getF (v := .ref (q 1)) hx hb ht hown hK hP iTX11 0 1 rfl rfl (by decide) fl_RX11_9 rfl dX11_slateAll_8 ?_
      refine lv_iconst (v := 5) hx hb dX11_slateAll_11 (by decide) ?_
      refine va_iald hx hb hK.1 hP 1 0 rfl rfl (show ¬ (_ ∨ _) by decide) dX11_slateAll_12 ?_
      refine W.eq (g2 := F0 m 13 ls [.int (A 1 5), .int x5_4]) rfl ?_
      have zf5001 : (0 : Int) ≤ (A 1 5).toInt ∧ (A 1 5).toInt ≤ 6 := (hI.2 1 5)
      refine lv_icmp_ge (tgt := 35) hx hb dX11_slateAll_13 (by decide) (fun c5002 => ?_) (fun c5002 => ?_)
      · have zc5002 := leK rfl rfl c5002
        refine lv_lload_n hx hb dX11_slateAll_35 rfl (lv_at hl 2 rfl) ?_
        refine lv_lconst (v := 0) hx hb dX11_slateAll_36 (by decide) ?_
        refine W.lcmp hx hb dX11_slateAll_37 ?_
        refine lv_topi (fun v5003 ev5003 => ?_)
        refine lv_if_ne (tgt := 45) hx hb dX11_slateAll_38 (by decide) (fun c5004 => ?_) (fun c5004 => ?_)
        · have zc5004 := neK rfl (show (0 : Int32).toInt = 0 by decide) c5004
          have yc5004 := cmpEQn rfl (show (0 : Int64).toInt = 0 by decide) ev5003 (by omega)
          refine lv_lload_n hx hb dX11_slateAll_45 rfl (lv_at hl 2 rfl) ?_
          exact retRl hx hb hr hlk hS dX11_slateAll_46 (⟨by have q1 : x5_4 = A 1 5 := Int32.toInt_inj.mp (by omega); have q2 := hss.1; rw [q1] at q2; unfold sA; rw [if_neg (by omega)]; exact q2, by omega, by have q9 : (0 : Int) ≤ (A 1 5).toInt ∧ (A 1 5).toInt ≤ 6 := hI.2 1 5; omega⟩)
        · have zc5004 := eqK rfl (show (0 : Int32).toInt = 0 by decide) c5004
          have yc5004 := cmpEQ rfl (show (0 : Int64).toInt = 0 by decide) ev5003 (by omega)
          refine lv_lconst (v := 1) hx hb dX11_slateAll_41 (by decide) ?_
          refine lv_goto (tgt := 46) hx hb dX11_slateAll_42 (by decide) ?_
          exact retRl hx hb hr hlk hS dX11_slateAll_46 (⟨by have q1 : x5_4 = A 1 5 := Int32.toInt_inj.mp (by omega); have q2 := hss.1; rw [q1] at q2; rw [show (1 : Int64).toInt = 1 by decide]; unfold sA; rw [if_pos (by omega)], by decide, by decide⟩)
      · have zc5002 := nleK rfl rfl c5002
        refine lv_lload_n hx hb dX11_slateAll_16 rfl (lv_at hl 2 rfl) ?_
        refine lv_aload_n hx hb dX11_slateAll_17 rfl (lv_at hl 0 rfl) ?_
        refine lv_iload_n hx hb dX11_slateAll_18 rfl (lv_at hl 1 rfl) ?_
        refine lv_iconst (v := 2) hx hb dX11_slateAll_19 (by decide) ?_
        refine lv_iload hx hb dX11_slateAll_20 (lv_at hl 3 rfl) ?_
        refine lv_iadd hx hb dX11_slateAll_22 ?_
        refine lv_topi (fun v5005 ev5005 => ?_)
        have tv5005 : v5005.toInt = 2 + x5_4.toInt := by rw [ev5005]; exact addT (show (2 : Int32).toInt = 2 by decide) rfl (by omega)
        refine behR (runVP (As := [.int a1, .int v5005]) (rest := [.long x5_2]) ⟨hx, hb, hml, hown, ht⟩ (sX11_ofMan l G cs h q F A D B hI a1 v5005 (by omega) (by omega)) okV_RX11_234 ⟨by decide, by decide⟩ hK hP [0, 1, 2, 3, 4, 5, 6, 7, 8, 9, 10, 11, 12, 13, 14, 15, 16, 17, 18, 19] rfl 0 rfl rfl hl.1 rfl (Nat.le_of_ble_eq_true rfl) dX11_slateAll_23 ⟨by decide, by decide⟩) hP hS (fun _ h => h) (fun r5006 H locs hr5006 hP hS => ?_)
        have hr5006 : r5006 = (A 1) (36 + 8 * a1.toNatClampNeg + v5005.toNatClampNeg) ∧ (0 : Int) ≤ r5006.toInt ∧ r5006.toInt ≤ 99 ∧ (v5005.toInt = 1 → r5006.toInt ≤ 63) ∧ (2 ≤ v5005.toInt → r5006.toInt ≤ 9) := hr5006
        refine lv_i2l hx hb dX11_slateAll_26 rfl ?_
        refine lv_topl (fun v5007 ev5007 => ?_)
        have tv5007 : v5007.toInt = r5006.toInt := by rw [ev5007]; exact Int32.toInt_toInt64 _
        refine lv_ladd hx hb dX11_slateAll_27 ?_
        refine lv_topl (fun v5008 ev5008 => ?_)
        have tv5008 : v5008.toInt = x5_2.toInt + v5007.toInt := by rw [ev5008]; exact addL rfl rfl (by omega)
        refine lv_lstore_n (lv' := [(2, .long v5008), (0, .ref h), (1, .int a1), (4, .int x5_4)]) hx hb dX11_slateAll_28 rfl hl (by decide) rfl (fun ls hl => ?_)
        obtain ⟨v5009, ev5009⟩ : ∃ z : Int32, z = x5_4 + 1 := ⟨_, rfl⟩
        have tv5009 : v5009.toInt = x5_4.toInt + 1 := by rw [ev5009]; exact addT rfl (by decide) (by omega)
        refine lv_iinc (v := v5009) (lv' := [(4, .int v5009), (2, .long v5008), (0, .ref h), (1, .int a1)]) hx hb dX11_slateAll_29 hl (k := 3) rfl (by rw [ev5009]; rfl) (by decide) rfl (fun ls hl => ?_)
        refine lv_goto (tgt := 5) hx hb dX11_slateAll_32 (by decide) ?_
        exact ih5 v5008 v5009 H locs ls (by omega) (by omega) (by omega) ⟨SSs hss.1 (by omega) tv5009 hr5006.1 (by have y1 := clK (i := v5005) rfl (by omega); have y2 := clK (i := x5_4) rfl (by omega); omega) (by omega), by omega, by omega, by omega⟩ hP hS (lv_sub hl [2, 3, 1, 0] rfl)
  exact B5 _ 0 0 s.heap [] ls (Nat.lt_succ_self _) (by decide) (by decide) ⟨by rfl, by decide, by decide, (hI.2 1 5).1⟩ hP hS (lv_sub hl [2, 3, 1, 0] rfl)

set_option maxRecDepth 100000 in
set_option maxHeartbeats 8000000 in
theorem sX11_slateOf (l : Launch) (G : va_G) (cs : Nat → ClassId) (h : Nat) (q : Nat → Nat) (F : Nat → Int32) (A : Nat → Nat → Int32) (D : Int64) (B : Nat → Nat → Int64) (hI : IM F A) (a1 : Int32) (a2 : Int32) (ha1 : (0 : Int) ≤ a1.toInt ∧ a1.toInt ≤ 5) (ha2 : (0 : Int) ≤ a2.toInt ∧ a2.toInt ≤ 5) : SafeL l yX11_slateOf cX11_slateOf 6 (some .long) 1 G (TY cs) [.ref h, .int a1, .int a2] (mS cs h q F A D B) (fun r : Int64 => r.toInt = sO (A 1) a1.toNatClampNeg a2.toNatClampNeg ∧ 0 ≤ r.toInt ∧ r.toInt ≤ 9) := by
  refine mkP (Qc := QRl (fun r : Int64 => r.toInt = sO (A 1) a1.toNatClampNeg a2.toNatClampNeg ∧ 0 ≤ r.toInt ∧ r.toInt ≤ 9)) (by decide) (by simp [lg_sl, Value.category]) ?_
  intro p e s m args below meth c ls hx hb hml hr hlk hown ht hK hP hS hl
  have hl : lv_has ls 6 [(0, .ref h), (1, .int a1), (2, .int a2)] := hl
  refine lv_lconst (v := 0) hx hb dX11_slateOf_0 (by decide) ?_
  refine lv_lstore_n (lv' := [(3, .long 0), (0, .ref h), (1, .int a1), (2, .int a2)]) hx hb dX11_slateOf_1 rfl hl (by decide) rfl (fun ls hl => ?_)
  refine lv_iconst (v := 0) hx hb dX11_slateOf_2 (by decide) ?_
  refine lv_istore (lv' := [(5, .int 0), (3, .long 0), (0, .ref h), (1, .int a1), (2, .int a2)]) hx hb dX11_slateOf_3 hl (by decide) rfl (fun ls hl => ?_)
  have B5 : ∀ (n : Nat) (x5_3 : Int64) (x5_5 : Int32) (H : Heap) (locs : List Loc) (ls : Array Slot), (6 - x5_5.toInt).toNat < n → (0 : Int) ≤ x5_3.toInt ∧ x5_3.toInt ≤ 54 → (0 : Int) ≤ x5_5.toInt ∧ x5_5.toInt ≤ 6 → (x5_3.toInt = SS (A 1) a1.toNatClampNeg x5_5.toNatClampNeg ∧ 0 ≤ x5_3.toInt ∧ x5_3.toInt ≤ 9 * x5_5.toInt ∧ x5_5.toInt ≤ (A 1 5).toInt) → va_P G vwCl (mS cs h q F A D B) H → va_S (fun q => s.heap.size ≤ q) s.heap H locs → lv_has ls 6 [(0, .ref h), (1, .int a1), (2, .int a2), (3, .long x5_3), (5, .int x5_5)] → W p l e (rmk 1 0 0) s m args below meth c H locs 0 0 (MQ below (QRl (fun r : Int64 => r.toInt = sO (A 1) a1.toNatClampNeg a2.toNatClampNeg ∧ 0 ≤ r.toInt ∧ r.toInt ≤ 9) s.heap.size) args s 0 0 (fun q => s.heap.size ≤ q)) (F0 m 5 ls []) := by
    intro n
    induction n with
    | zero => intro x5_3 x5_5 H locs ls hmeas hx5_3 hx5_5 hss hP hS hl; exact absurd hmeas (Nat.not_lt_zero _)
    | succ n ih5 =>
      intro x5_3 x5_5 H locs ls hmeas hx5_3 hx5_5 hss hP hS hl
      refine lv_iload hx hb dX11_slateOf_5 (lv_at hl 4 rfl) ?_
      refine lv_aload_n hx hb dX11_slateOf_7 rfl (lv_at hl 0 rfl) ?_
      refine getF (v := .ref (q 1)) hx hb ht hown hK hP iTX11 0 1 rfl rfl (by decide) fl_RX11_9 rfl dX11_slateOf_8 ?_
      refine lv_iconst (v := 5) hx hb dX11_slateOf_11 (by decide) ?_
      refine va_iald hx hb hK.1 hP 1 0 rfl rfl (show ¬ (_ ∨ _) by decide) dX11_slateOf_12 ?_
      refine W.eq (g2 := F0 m 13 ls [.int (A 1 5), .int x5_5]) rfl ?_
      have zf5001 : (0 : Int) ≤ (A 1 5).toInt ∧ (A 1 5).toInt ≤ 6 := (hI.2 1 5)
      refine lv_icmp_ge (tgt := 35) hx hb dX11_slateOf_13 (by decide) (fun c5002 => ?_) (fun c5002 => ?_)
      · have zc5002 := leK rfl rfl c5002
        refine lv_lload_n hx hb dX11_slateOf_35 rfl (lv_at hl 3 rfl) ?_
        refine lv_lconst (v := 0) hx hb dX11_slateOf_36 (by decide) ?_
        refine W.lcmp hx hb dX11_slateOf_37 ?_
        refine lv_topi (fun v5003 ev5003 => ?_)
        refine lv_if_ne (tgt := 54) hx hb dX11_slateOf_38 (by decide) (fun c5004 => ?_) (fun c5004 => ?_)
        · have zc5004 := neK rfl (show (0 : Int32).toInt = 0 by decide) c5004
          have yc5004 := cmpEQn rfl (show (0 : Int64).toInt = 0 by decide) ev5003 (by omega)
          refine lv_aload_n hx hb dX11_slateOf_54 rfl (lv_at hl 0 rfl) ?_
          refine lv_iload_n hx hb dX11_slateOf_55 rfl (lv_at hl 1 rfl) ?_
          refine lv_iconst (v := 2) hx hb dX11_slateOf_56 (by decide) ?_
          refine lv_iload_n hx hb dX11_slateOf_57 rfl (lv_at hl 2 rfl) ?_
          refine lv_iadd hx hb dX11_slateOf_58 ?_
          refine lv_topi (fun v5005 ev5005 => ?_)
          have tv5005 : v5005.toInt = 2 + a2.toInt := by rw [ev5005]; exact addT (show (2 : Int32).toInt = 2 by decide) rfl (by omega)
          refine behR (runVP (As := [.int a1, .int v5005]) (rest := []) ⟨hx, hb, hml, hown, ht⟩ (sX11_ofMan l G cs h q F A D B hI a1 v5005 (by omega) (by omega)) okV_RX11_234 ⟨by decide, by decide⟩ hK hP [0, 1, 2, 3, 4, 5, 6, 7, 8, 9, 10, 11, 12, 13, 14, 15, 16, 17, 18, 19] rfl 0 rfl rfl hl.1 rfl (Nat.le_of_ble_eq_true rfl) dX11_slateOf_59 ⟨by decide, by decide⟩) hP hS (fun _ h => h) (fun r5006 H locs hr5006 hP hS => ?_)
          have hr5006 : r5006 = (A 1) (36 + 8 * a1.toNatClampNeg + v5005.toNatClampNeg) ∧ (0 : Int) ≤ r5006.toInt ∧ r5006.toInt ≤ 99 ∧ (v5005.toInt = 1 → r5006.toInt ≤ 63) ∧ (2 ≤ v5005.toInt → r5006.toInt ≤ 9) := hr5006
          refine lv_i2l hx hb dX11_slateOf_62 rfl ?_
          refine lv_topl (fun v5007 ev5007 => ?_)
          have tv5007 : v5007.toInt = r5006.toInt := by rw [ev5007]; exact Int32.toInt_toInt64 _
          exact retRl hx hb hr hlk hS dX11_slateOf_63 (⟨by have q1 : x5_5 = A 1 5 := Int32.toInt_inj.mp (by omega); have q2 := hss.1; rw [q1] at q2; unfold sO; rw [if_neg (by omega)]; exact tv5007.trans (congrArg Int32.toInt (hr5006.1.trans (congrArg (A 1) (by have y1 := clK (i := v5005) rfl (by omega); have y2 := clK (i := a2) rfl (by omega); omega)))), by omega, by omega⟩)
        · have zc5004 := eqK rfl (show (0 : Int32).toInt = 0 by decide) c5004
          have yc5004 := cmpEQ rfl (show (0 : Int64).toInt = 0 by decide) ev5003 (by omega)
          refine lv_iload_n hx hb dX11_slateOf_41 rfl (lv_at hl 1 rfl) ?_
          refine lv_iload_n hx hb dX11_slateOf_42 rfl (lv_at hl 2 rfl) ?_
          refine lv_icmp_ne (tgt := 50) hx hb dX11_slateOf_43 (by decide) (fun c5008 => ?_) (fun c5008 => ?_)
          · have zc5008 := neK rfl rfl c5008
            refine lv_lconst (v := 0) hx hb dX11_slateOf_50 (by decide) ?_
            refine lv_goto (tgt := 63) hx hb dX11_slateOf_51 (by decide) ?_
            exact retRl hx hb hr hlk hS dX11_slateOf_63 (⟨by have q1 : x5_5 = A 1 5 := Int32.toInt_inj.mp (by omega); have q2 := hss.1; rw [q1] at q2; rw [show (0 : Int64).toInt = 0 by decide]; unfold sO; rw [if_pos (by omega), if_neg (fun q8 => by have y1 := clK (i := a1) rfl (by omega); have y2 := clK (i := a2) rfl (by omega); omega)], by decide, by decide⟩)
          · have zc5008 := eqK rfl rfl c5008
            refine lv_lconst (v := 1) hx hb dX11_slateOf_46 (by decide) ?_
            refine lv_goto (tgt := 63) hx hb dX11_slateOf_47 (by decide) ?_
            exact retRl hx hb hr hlk hS dX11_slateOf_63 (⟨by have q1 : x5_5 = A 1 5 := Int32.toInt_inj.mp (by omega); have q2 := hss.1; rw [q1] at q2; rw [show (1 : Int64).toInt = 1 by decide]; unfold sO; rw [if_pos (by omega), if_pos (congrArg Int32.toNatClampNeg (Int32.toInt_inj.mp (by omega)))], by decide, by decide⟩)
      · have zc5002 := nleK rfl rfl c5002
        refine lv_lload_n hx hb dX11_slateOf_16 rfl (lv_at hl 3 rfl) ?_
        refine lv_aload_n hx hb dX11_slateOf_17 rfl (lv_at hl 0 rfl) ?_
        refine lv_iload_n hx hb dX11_slateOf_18 rfl (lv_at hl 1 rfl) ?_
        refine lv_iconst (v := 2) hx hb dX11_slateOf_19 (by decide) ?_
        refine lv_iload hx hb dX11_slateOf_20 (lv_at hl 4 rfl) ?_
        refine lv_iadd hx hb dX11_slateOf_22 ?_
        refine lv_topi (fun v5009 ev5009 => ?_)
        have tv5009 : v5009.toInt = 2 + x5_5.toInt := by rw [ev5009]; exact addT (show (2 : Int32).toInt = 2 by decide) rfl (by omega)
        refine behR (runVP (As := [.int a1, .int v5009]) (rest := [.long x5_3]) ⟨hx, hb, hml, hown, ht⟩ (sX11_ofMan l G cs h q F A D B hI a1 v5009 (by omega) (by omega)) okV_RX11_234 ⟨by decide, by decide⟩ hK hP [0, 1, 2, 3, 4, 5, 6, 7, 8, 9, 10, 11, 12, 13, 14, 15, 16, 17, 18, 19] rfl 0 rfl rfl hl.1 rfl (Nat.le_of_ble_eq_true rfl) dX11_slateOf_23 ⟨by decide, by decide⟩) hP hS (fun _ h => h) (fun r5010 H locs hr5010 hP hS => ?_)
        have hr5010 : r5010 = (A 1) (36 + 8 * a1.toNatClampNeg + v5009.toNatClampNeg) ∧ (0 : Int) ≤ r5010.toInt ∧ r5010.toInt ≤ 99 ∧ (v5009.toInt = 1 → r5010.toInt ≤ 63) ∧ (2 ≤ v5009.toInt → r5010.toInt ≤ 9) := hr5010
        refine lv_i2l hx hb dX11_slateOf_26 rfl ?_
        refine lv_topl (fun v5011 ev5011 => ?_)
        have tv5011 : v5011.toInt = r5010.toInt := by rw [ev5011]; exact Int32.toInt_toInt64 _
        refine lv_ladd hx hb dX11_slateOf_27 ?_
        refine lv_topl (fun v5012 ev5012 => ?_)
        have tv5012 : v5012.toInt = x5_3.toInt + v5011.toInt := by rw [ev5012]; exact addL rfl rfl (by omega)
        refine lv_lstore_n (lv' := [(3, .long v5012), (0, .ref h), (1, .int a1), (2, .int a2), (5, .int x5_5)]) hx hb dX11_slateOf_28 rfl hl (by decide) rfl (fun ls hl => ?_)
        obtain ⟨v5013, ev5013⟩ : ∃ z : Int32, z = x5_5 + 1 := ⟨_, rfl⟩
        have tv5013 : v5013.toInt = x5_5.toInt + 1 := by rw [ev5013]; exact addT rfl (by decide) (by omega)
        refine lv_iinc (v := v5013) (lv' := [(5, .int v5013), (3, .long v5012), (0, .ref h), (1, .int a1), (2, .int a2)]) hx hb dX11_slateOf_29 hl (k := 4) rfl (by rw [ev5013]; rfl) (by decide) rfl (fun ls hl => ?_)
        refine lv_goto (tgt := 5) hx hb dX11_slateOf_32 (by decide) ?_
        exact ih5 v5012 v5013 H locs ls (by omega) (by omega) (by omega) ⟨SSs hss.1 (by omega) tv5013 hr5010.1 (by have y1 := clK (i := v5009) rfl (by omega); have y2 := clK (i := x5_5) rfl (by omega); omega) (by omega), by omega, by omega, by omega⟩ hP hS (lv_sub hl [2, 3, 4, 1, 0] rfl)
  exact B5 _ 0 0 s.heap [] ls (Nat.lt_succ_self _) (by decide) (by decide) ⟨by rfl, by decide, by decide, (hI.2 1 5).1⟩ hP hS (lv_sub hl [2, 3, 4, 1, 0] rfl)

set_option maxRecDepth 100000 in
set_option maxHeartbeats 8000000 in
theorem sX11_likelyRead (l : Launch) (G : va_G) (cs : Nat → ClassId) (h : Nat) (q : Nat → Nat) (F : Nat → Int32) (A : Nat → Nat → Int32) (D : Int64) (B : Nat → Nat → Int64) (hI : IM F A) (a1 : Int32) (a2 : Int32) (ha1 : (0 : Int) ≤ a1.toInt ∧ a1.toInt ≤ 5) (ha2 : (0 : Int) ≤ a2.toInt ∧ a2.toInt ≤ 5) : SafeL l yX11_likelyRead cX11_likelyRead 6 (some .long) 2 G (TY cs) [.ref h, .int a1, .int a2] (mS cs h q F A D B) (fun r : Int64 => r.toInt = LRp (A 1) a1.toNatClampNeg a2.toNatClampNeg ((A 1) 5).toNatClampNeg ∧ 0 ≤ r.toInt ∧ r.toInt ≤ 22092265964736) := by
  refine mkP (Qc := QRl (fun r : Int64 => r.toInt = LRp (A 1) a1.toNatClampNeg a2.toNatClampNeg ((A 1) 5).toNatClampNeg ∧ 0 ≤ r.toInt ∧ r.toInt ≤ 22092265964736)) (by decide) (by simp [lg_sl, Value.category]) ?_
  intro p e s m args below meth c ls hx hb hml hr hlk hown ht hK hP hS hl
  have hl : lv_has ls 6 [(0, .ref h), (1, .int a1), (2, .int a2)] := hl
  refine lv_aload_n hx hb dX11_likelyRead_0 rfl (lv_at hl 0 rfl) ?_
  refine lv_iload_n hx hb dX11_likelyRead_1 rfl (lv_at hl 1 rfl) ?_
  refine lv_iconst (v := 0) hx hb dX11_likelyRead_2 (by decide) ?_
  refine behR (runVP (As := [.int a1, .int 0]) (rest := []) ⟨hx, hb, hml, hown, ht⟩ (sX11_ofMan l G cs h q F A D B hI a1 0 (by omega) (by decide)) okV_RX11_234 ⟨by decide, by decide⟩ hK hP [0, 1, 2, 3, 4, 5, 6, 7, 8, 9, 10, 11, 12, 13, 14, 15, 16, 17, 18, 19] rfl 0 rfl rfl hl.1 rfl (Nat.le_of_ble_eq_true rfl) dX11_likelyRead_3 ⟨by decide, by decide⟩) hP hS (fun _ h => h) (fun r1 H locs hr1 hP hS => ?_)
  have kk2 : (0 : Int32).toInt = 0 := by decide
  have hr1 : r1 = (A 1) (36 + 8 * a1.toNatClampNeg + (0 : Int32).toNatClampNeg) ∧ (0 : Int) ≤ r1.toInt ∧ r1.toInt ≤ 99 ∧ ((0 : Int32).toInt = 1 → r1.toInt ≤ 63) ∧ (2 ≤ (0 : Int32).toInt → r1.toInt ≤ 9) := hr1
  refine lv_i2l hx hb dX11_likelyRead_6 rfl ?_
  refine lv_topl (fun v3 ev3 => ?_)
  have tv3 : v3.toInt = r1.toInt := by rw [ev3]; exact Int32.toInt_toInt64 _
  refine lv_aload_n hx hb dX11_likelyRead_7 rfl (lv_at hl 0 rfl) ?_
  refine lv_iload_n hx hb dX11_likelyRead_8 rfl (lv_at hl 1 rfl) ?_
  refine lv_iload_n hx hb dX11_likelyRead_9 rfl (lv_at hl 2 rfl) ?_
  refine behRL (runVP (As := [.int a1, .int a2]) (rest := [.long v3]) ⟨hx, hb, hml, hown, ht⟩ (sX11_slateOf l G cs h q F A D B hI a1 a2 (by omega) (by omega)) okV_RX11_391 ⟨by decide, by decide⟩ hK hP [0, 1, 2, 3, 4, 5, 6, 7, 8, 9, 10, 11, 12, 13, 14, 15, 16, 17, 18, 19] rfl 0 rfl rfl hl.1 rfl (Nat.le_of_ble_eq_true rfl) dX11_likelyRead_10 ⟨by decide, by decide⟩) hP hS (fun _ h => h) (fun r4 H locs hr4 hP hS => ?_)
  have hr4 : r4.toInt = sO (A 1) a1.toNatClampNeg a2.toNatClampNeg ∧ 0 ≤ r4.toInt ∧ r4.toInt ≤ 9 := hr4
  refine lv_lmul hx hb dX11_likelyRead_13 ?_
  have bb5 := mulB (x := v3.toInt) (y := r4.toInt) (B := 99) (D := 9) (by omega) (by omega) (by omega) (by omega)
  refine lv_topl (fun v6 ev6 => ?_)
  have tv6 : v6.toInt = v3.toInt * r4.toInt := by rw [ev6]; exact mulL rfl rfl (by omega)
  refine lv_lstore_n (lv' := [(3, .long v6), (0, .ref h), (1, .int a1), (2, .int a2)]) hx hb dX11_likelyRead_14 rfl hl (by decide) rfl (fun ls hl => ?_)
  refine lv_iconst (v := 0) hx hb dX11_likelyRead_15 (by decide) ?_
  refine lv_istore (lv' := [(5, .int 0), (3, .long v6), (0, .ref h), (1, .int a1), (2, .int a2)]) hx hb dX11_likelyRead_16 hl (by decide) rfl (fun ls hl => ?_)
  have B18 : ∀ (n : Nat) (x18_3 : Int64) (x18_5 : Int32) (H : Heap) (locs : List Loc) (ls : Array Slot), (6 - x18_5.toInt).toNat < n → (0 : Int) ≤ x18_3.toInt ∧ x18_3.toInt ≤ 22092265964736 → (0 : Int) ≤ x18_5.toInt ∧ x18_5.toInt ≤ 6 → (x18_3.toInt = LRp (A 1) a1.toNatClampNeg a2.toNatClampNeg x18_5.toNatClampNeg ∧ x18_5.toInt ≤ (A 1 5).toInt) → va_P G vwCl (mS cs h q F A D B) H → va_S (fun q => s.heap.size ≤ q) s.heap H locs → lv_has ls 6 [(0, .ref h), (1, .int a1), (3, .long x18_3), (5, .int x18_5)] → W p l e (rmk 2 0 0) s m args below meth c H locs 0 0 (MQ below (QRl (fun r : Int64 => r.toInt = LRp (A 1) a1.toNatClampNeg a2.toNatClampNeg ((A 1) 5).toNatClampNeg ∧ 0 ≤ r.toInt ∧ r.toInt ≤ 22092265964736) s.heap.size) args s 0 0 (fun q => s.heap.size ≤ q)) (F0 m 18 ls []) := by
    intro n
    induction n with
    | zero => intro x18_3 x18_5 H locs ls hmeas hx18_3 hx18_5 hlr hP hS hl; exact absurd hmeas (Nat.not_lt_zero _)
    | succ n ih18 =>
      intro x18_3 x18_5 H locs ls hmeas hx18_3 hx18_5 hlr hP hS hl
      refine lv_iload hx hb dX11_likelyRead_18 (lv_at hl 3 rfl) ?_
      refine lv_aload_n hx hb dX11_likelyRead_20 rfl (lv_at hl 0 rfl) ?_
      refine getF (v := .ref (q 1)) hx hb ht hown hK hP iTX11 0 1 rfl rfl (by decide) fl_RX11_9 rfl dX11_likelyRead_21 ?_
      refine lv_iconst (v := 5) hx hb dX11_likelyRead_24 (by decide) ?_
      refine va_iald hx hb hK.1 hP 1 0 rfl rfl (show ¬ (_ ∨ _) by decide) dX11_likelyRead_25 ?_
      refine W.eq (g2 := F0 m 26 ls [.int (A 1 5), .int x18_5]) rfl ?_
      have zf14001 : (0 : Int) ≤ (A 1 5).toInt ∧ (A 1 5).toInt ≤ 6 := (hI.2 1 5)
      refine lv_icmp_ge (tgt := 54) hx hb dX11_likelyRead_26 (by decide) (fun c14002 => ?_) (fun c14002 => ?_)
      · have zc14002 := leK rfl rfl c14002
        refine lv_lload_n hx hb dX11_likelyRead_54 rfl (lv_at hl 2 rfl) ?_
        exact retRl hx hb hr hlk hS dX11_likelyRead_55 (⟨by have q1 : x18_5 = A 1 5 := Int32.toInt_inj.mp (by omega); have q2 := hlr.1; rw [q1] at q2; exact q2, by omega, by omega⟩)
      · have zc14002 := nleK rfl rfl c14002
        refine lv_lload_n hx hb dX11_likelyRead_29 rfl (lv_at hl 2 rfl) ?_
        refine lv_iload hx hb dX11_likelyRead_30 (lv_at hl 3 rfl) ?_
        refine lv_iload_n hx hb dX11_likelyRead_32 rfl (lv_at hl 1 rfl) ?_
        have B46 : ∀ (s46_0 : Int64) (s46_1 : Int64) (H : Heap) (locs : List Loc) (ls : Array Slot), (1 : Int) ≤ s46_0.toInt ∧ s46_0.toInt ≤ 54 → (0 : Int) ≤ s46_1.toInt ∧ s46_1.toInt ≤ 22092265964736 → (s46_1.toInt = LRp (A 1) a1.toNatClampNeg a2.toNatClampNeg x18_5.toNatClampNeg) → (s46_0.toInt = (if x18_5.toNatClampNeg = a1.toNatClampNeg then 1 else sA (A 1) x18_5.toNatClampNeg) ∧ 1 ≤ s46_0.toInt ∧ s46_0.toInt ≤ 54) → va_P G vwCl (mS cs h q F A D B) H → va_S (fun q => s.heap.size ≤ q) s.heap H locs → lv_has ls 6 [(0, .ref h), (1, .int a1), (5, .int x18_5)] → W p l e (rmk 2 0 0) s m args below meth c H locs 0 0 (MQ below (QRl (fun r : Int64 => r.toInt = LRp (A 1) a1.toNatClampNeg a2.toNatClampNeg ((A 1) 5).toNatClampNeg ∧ 0 ≤ r.toInt ∧ r.toInt ≤ 22092265964736) s.heap.size) args s 0 0 (fun q => s.heap.size ≤ q)) (F0 m 46 ls [.long s46_0, .long s46_1]) := by
          intro s46_0 s46_1 H locs ls hs46_0 hs46_1 hv46 hs46 hP hS hl
          refine lv_lmul hx hb dX11_likelyRead_46 ?_
          have bb29001 := mulB (x := s46_1.toInt) (y := s46_0.toInt) (B := 22092265964736) (D := 54) (by omega) (by omega) (by omega) (by omega)
          refine lv_topl (fun v29002 ev29002 => ?_)
          have tv29002 : v29002.toInt = s46_1.toInt * s46_0.toInt := by rw [ev29002]; exact mulL rfl rfl (by omega)
          refine lv_lstore_n (lv' := [(3, .long v29002), (0, .ref h), (1, .int a1), (5, .int x18_5)]) hx hb dX11_likelyRead_47 rfl hl (by decide) rfl (fun ls hl => ?_)
          have hl9 := LRs (g := (A 1)) (m := a1.toNatClampNeg) (a := a2.toNatClampNeg) (fun j => hI.2 1 j) (by have y1 := clK (i := a1) rfl (by omega); omega) (by have y1 := clK (i := a2) rfl (by omega); omega) hv46 hs46.1 tv29002 (k := x18_5) (by omega)
          obtain ⟨v29003, ev29003⟩ : ∃ z : Int32, z = x18_5 + 1 := ⟨_, rfl⟩
          have tv29003 : v29003.toInt = x18_5.toInt + 1 := by rw [ev29003]; exact addT rfl (by decide) (by omega)
          refine lv_iinc (v := v29003) (lv' := [(5, .int v29003), (3, .long v29002), (0, .ref h), (1, .int a1)]) hx hb dX11_likelyRead_48 hl (k := 3) rfl (by rw [ev29003]; rfl) (by decide) rfl (fun ls hl => ?_)
          refine lv_goto (tgt := 18) hx hb dX11_likelyRead_51 (by decide) ?_
          exact ih18 v29002 v29003 H locs ls (by omega) (by omega) (by omega) ⟨hl9.1.trans (congrArg (LRp (A 1) a1.toNatClampNeg a2.toNatClampNeg) (by have y1 := clK (i := x18_5) rfl (by omega); have y2 := clK (i := v29003) rfl (by omega); omega)), by omega⟩ hP hS (lv_sub hl [2, 3, 1, 0] rfl)
        refine lv_icmp_ne (tgt := 40) hx hb dX11_likelyRead_33 (by decide) (fun c14003 => ?_) (fun c14003 => ?_)
        · have zc14003 := neK rfl rfl c14003
          refine lv_aload_n hx hb dX11_likelyRead_40 rfl (lv_at hl 0 rfl) ?_
          refine lv_iload hx hb dX11_likelyRead_41 (lv_at hl 3 rfl) ?_
          refine behRL (runVP (As := [.int x18_5]) (rest := [.long x18_3]) ⟨hx, hb, hml, hown, ht⟩ (sX11_slateAll l G cs h q F A D B hI x18_5 (by omega)) okV_RX11_394 ⟨by decide, by decide⟩ hK hP [0, 1, 2, 3, 4, 5, 6, 7, 8, 9, 10, 11, 12, 13, 14, 15, 16, 17, 18, 19] rfl 0 rfl rfl hl.1 rfl (Nat.le_of_ble_eq_true rfl) dX11_likelyRead_43 ⟨by decide, by decide⟩) hP hS (fun _ h => h) (fun r14004 H locs hr14004 hP hS => ?_)
          have hr14004 : r14004.toInt = sA (A 1) x18_5.toNatClampNeg ∧ 1 ≤ r14004.toInt ∧ r14004.toInt ≤ 54 := hr14004
          exact B46 r14004 x18_3 H locs ls (by omega) (by omega) hlr.1 ⟨by rw [if_neg (fun q8 => by have y1 := clK (i := a1) rfl (by omega); have y2 := clK (i := x18_5) rfl (by omega); omega)]; exact hr14004.1, by omega, by omega⟩ hP hS (lv_sub hl [0, 1, 3] rfl)
        · have zc14003 := eqK rfl rfl c14003
          refine lv_lconst (v := 1) hx hb dX11_likelyRead_36 (by decide) ?_
          refine lv_goto (tgt := 46) hx hb dX11_likelyRead_37 (by decide) ?_
          exact B46 1 x18_3 H locs ls (by decide) (by omega) hlr.1 ⟨by rw [if_pos (congrArg Int32.toNatClampNeg (Int32.toInt_inj.mp (by omega)))]; decide, by decide, by decide⟩ hP hS (lv_sub hl [0, 1, 3] rfl)
  exact B18 _ v6 0 H locs ls (Nat.lt_succ_self _) (by omega) (by decide) ⟨by rw [tv6, tv3, hr1.1, hr4.1] <;> rfl, (hI.2 1 5).1⟩ hP hS (lv_sub hl [2, 3, 1, 0] rfl)

set_option maxRecDepth 100000 in
set_option maxHeartbeats 8000000 in
theorem sX11_allRead (l : Launch) (G : va_G) (cs : Nat → ClassId) (h : Nat) (q : Nat → Nat) (F : Nat → Int32) (A : Nat → Nat → Int32) (D : Int64) (B : Nat → Nat → Int64) (hI : IM F A) (a1 : Int32) (ha1 : (0 : Int) ≤ a1.toInt ∧ a1.toInt ≤ 5) : SafeL l yX11_allRead cX11_allRead 5 (some .long) 3 G (TY cs) [.ref h, .int a1] (mS cs h q F A D B) (fun r : Int64 => r.toInt = AR (A 1) a1.toNatClampNeg ((A 1) 5).toNatClampNeg) := by
  refine mkP (Qc := QRl (fun r : Int64 => r.toInt = AR (A 1) a1.toNatClampNeg ((A 1) 5).toNatClampNeg)) (by decide) (by simp [lg_sl, Value.category]) ?_
  intro p e s m args below meth c ls hx hb hml hr hlk hown ht hK hP hS hl
  have hl : lv_has ls 5 [(0, .ref h), (1, .int a1)] := hl
  refine lv_lconst (v := 0) hx hb dX11_allRead_0 (by decide) ?_
  refine lv_lstore_n (lv' := [(2, .long 0), (0, .ref h), (1, .int a1)]) hx hb dX11_allRead_1 rfl hl (by decide) rfl (fun ls hl => ?_)
  refine lv_iconst (v := 0) hx hb dX11_allRead_2 (by decide) ?_
  refine lv_istore (lv' := [(4, .int 0), (2, .long 0), (0, .ref h), (1, .int a1)]) hx hb dX11_allRead_3 hl (by decide) rfl (fun ls hl => ?_)
  have B5 : ∀ (n : Nat) (x5_2 : Int64) (x5_4 : Int32) (H : Heap) (locs : List Loc) (ls : Array Slot), (6 - x5_4.toInt).toNat < n → (0 : Int) ≤ x5_2.toInt ∧ x5_2.toInt ≤ 132553595788416 → (0 : Int) ≤ x5_4.toInt ∧ x5_4.toInt ≤ 6 → (x5_2.toInt = AR (A 1) a1.toNatClampNeg x5_4.toNatClampNeg ∧ 0 ≤ x5_2.toInt ∧ x5_2.toInt ≤ 22092265964736 * x5_4.toInt ∧ x5_4.toInt ≤ (A 1 5).toInt) → va_P G vwCl (mS cs h q F A D B) H → va_S (fun q => s.heap.size ≤ q) s.heap H locs → lv_has ls 5 [(0, .ref h), (1, .int a1), (2, .long x5_2), (4, .int x5_4)] → W p l e (rmk 3 0 0) s m args below meth c H locs 0 0 (MQ below (QRl (fun r : Int64 => r.toInt = AR (A 1) a1.toNatClampNeg ((A 1) 5).toNatClampNeg) s.heap.size) args s 0 0 (fun q => s.heap.size ≤ q)) (F0 m 5 ls []) := by
    intro n
    induction n with
    | zero => intro x5_2 x5_4 H locs ls hmeas hx5_2 hx5_4 har hP hS hl; exact absurd hmeas (Nat.not_lt_zero _)
    | succ n ih5 =>
      intro x5_2 x5_4 H locs ls hmeas hx5_2 hx5_4 har hP hS hl
      refine lv_iload hx hb dX11_allRead_5 (lv_at hl 3 rfl) ?_
      refine lv_aload_n hx hb dX11_allRead_7 rfl (lv_at hl 0 rfl) ?_
      refine getF (v := .ref (q 1)) hx hb ht hown hK hP iTX11 0 1 rfl rfl (by decide) fl_RX11_9 rfl dX11_allRead_8 ?_
      refine lv_iconst (v := 5) hx hb dX11_allRead_11 (by decide) ?_
      refine va_iald hx hb hK.1 hP 1 0 rfl rfl (show ¬ (_ ∨ _) by decide) dX11_allRead_12 ?_
      refine W.eq (g2 := F0 m 13 ls [.int (A 1 5), .int x5_4]) rfl ?_
      have zf5001 : (0 : Int) ≤ (A 1 5).toInt ∧ (A 1 5).toInt ≤ 6 := (hI.2 1 5)
      refine lv_icmp_ge (tgt := 32) hx hb dX11_allRead_13 (by decide) (fun c5002 => ?_) (fun c5002 => ?_)
      · have zc5002 := leK rfl rfl c5002
        refine lv_lload_n hx hb dX11_allRead_32 rfl (lv_at hl 2 rfl) ?_
        exact retRl hx hb hr hlk hS dX11_allRead_33 (by have q1 : x5_4 = A 1 5 := Int32.toInt_inj.mp (by omega); have q2 := har.1; rw [q1] at q2; exact q2)
      · have zc5002 := nleK rfl rfl c5002
        refine lv_lload_n hx hb dX11_allRead_16 rfl (lv_at hl 2 rfl) ?_
        refine lv_aload_n hx hb dX11_allRead_17 rfl (lv_at hl 0 rfl) ?_
        refine lv_iload hx hb dX11_allRead_18 (lv_at hl 3 rfl) ?_
        refine lv_iload_n hx hb dX11_allRead_20 rfl (lv_at hl 1 rfl) ?_
        refine behRL (runVP (As := [.int x5_4, .int a1]) (rest := [.long x5_2]) ⟨hx, hb, hml, hown, ht⟩ (sX11_likelyRead l G cs h q F A D B hI x5_4 a1 (by omega) (by omega)) okV_RX11_398 ⟨by decide, by decide⟩ hK hP [0, 1, 2, 3, 4, 5, 6, 7, 8, 9, 10, 11, 12, 13, 14, 15, 16, 17, 18, 19] rfl 0 rfl rfl hl.1 rfl (Nat.le_of_ble_eq_true rfl) dX11_allRead_21 ⟨by decide, by decide⟩) hP hS (fun _ h => h) (fun r5003 H locs hr5003 hP hS => ?_)
        have hr5003 : r5003.toInt = LRp (A 1) x5_4.toNatClampNeg a1.toNatClampNeg ((A 1) 5).toNatClampNeg ∧ 0 ≤ r5003.toInt ∧ r5003.toInt ≤ 22092265964736 := hr5003
        refine lv_ladd hx hb dX11_allRead_24 ?_
        refine lv_topl (fun v5004 ev5004 => ?_)
        have tv5004 : v5004.toInt = x5_2.toInt + r5003.toInt := by rw [ev5004]; exact addL rfl rfl (by omega)
        refine lv_lstore_n (lv' := [(2, .long v5004), (0, .ref h), (1, .int a1), (4, .int x5_4)]) hx hb dX11_allRead_25 rfl hl (by decide) rfl (fun ls hl => ?_)
        obtain ⟨v5005, ev5005⟩ : ∃ z : Int32, z = x5_4 + 1 := ⟨_, rfl⟩
        have tv5005 : v5005.toInt = x5_4.toInt + 1 := by rw [ev5005]; exact addT rfl (by decide) (by omega)
        refine lv_iinc (v := v5005) (lv' := [(4, .int v5005), (2, .long v5004), (0, .ref h), (1, .int a1)]) hx hb dX11_allRead_26 hl (k := 3) rfl (by rw [ev5005]; rfl) (by decide) rfl (fun ls hl => ?_)
        refine lv_goto (tgt := 5) hx hb dX11_allRead_29 (by decide) ?_
        exact ih5 v5004 v5005 H locs ls (by omega) (by omega) (by omega) ⟨ARs har.1 (by omega) tv5005 hr5003.1 tv5004, by omega, by omega, by omega⟩ hP hS (lv_sub hl [2, 3, 1, 0] rfl)
  exact B5 _ 0 0 s.heap [] ls (Nat.lt_succ_self _) (by decide) (by decide) ⟨by rfl, by decide, by decide, (hI.2 1 5).1⟩ hP hS (lv_sub hl [2, 3, 1, 0] rfl)

