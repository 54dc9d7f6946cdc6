set_option maxRecDepth 100000 in
set_option maxHeartbeats 8000000 in
theorem sX11_parts (l : Launch) (G : va_G) (cs : Nat → ClassId) (h : Nat) (q : Nat → Nat) (F : Nat → Int32) (A : Nat → Nat → Int32) (D : Int64) (B : Nat → Nat → Int64) (hI : IM F A) (a1 : Int32) : ImpI l yX11_parts cX11_parts 2 (some .int) 5 0 0 G (TY cs) [.ref h, .int a1] (mS cs h q F A D B) (fun (r : Int32) (u : Int32 × Int32 × (Nat → Int32) × (Nat → Int32)) => True) (fun u : Int32 × Int32 × (Nat → Int32) × (Nat → Int32) => (mS cs h q (upd (upd F 17 u.1) 18 u.2.1) (vA (vA A 15 u.2.2.1) 16 u.2.2.2) D B)) := by
  refine mkD (Qc := (QDi G (fun (r : Int32) (u : Int32 × Int32 × (Nat → Int32) × (Nat → Int32)) => True) (fun u : Int32 × Int32 × (Nat → Int32) × (Nat → Int32) => (mS cs h q (upd (upd F 17 u.1) 18 u.2.1) (vA (vA A 15 u.2.2.1) 16 u.2.2.2) D B)))) (by decide) (by simp [lg_sl, Value.category]) ?_
  intro p e s m args below meth c ls A0 hx hb hml hr hlk hown hmn ht hK hP hD hS hA hl
  have hl : lv_has ls 2 [(0, .ref h), (1, .int a1)] := hl
  refine lv_aload_n hx hb dX11_parts_0 rfl (lv_at hl 0 rfl) ?_
  refine lv_iload_n hx hb dX11_parts_1 rfl (lv_at hl 1 rfl) ?_
  refine lv_i2l hx hb dX11_parts_2 rfl ?_
  have bb1 := i32b a1
  refine lv_topl (fun v2 ev2 => ?_)
  have tv2 : v2.toInt = a1.toInt := by rw [ev2]; exact Int32.toInt_toInt64 _
  refine behR (runVP (As := [.long v2]) (rest := []) ⟨hx, hb, hml, hown, ht⟩ (sX11_isRoomOrNone l G cs h q F A D B hI v2 ) okV_RX11_275 ⟨by decide, by decide⟩ hK hP [0, 1, 2, 3, 4, 5, 6, 7, 8, 9, 10, 11, 12, 13, 14, 15, 16, 17, 18, 19] rfl 0 rfl rfl hl.1 rfl (Nat.le_of_ble_eq_true rfl) dX11_parts_3 ⟨by decide, by decide⟩) hP hS hA (fun r3 H locs hr3 hP hS => ?_)
  have hr3 : (r3.toInt = 1 ∧ -1 ≤ v2.toInt ∧ v2.toInt ≤ 6) ∨ r3.toInt = 0 := hr3
  refine lv_if_ne (tgt := 12) hx hb dX11_parts_6 (by decide) (fun c4 => ?_) (fun c4 => ?_)
  · have zc4 := neK rfl (show (0 : Int32).toInt = 0 by decide) c4
    refine lv_aload_n hx hb dX11_parts_12 rfl (lv_at hl 0 rfl) ?_
    refine behDw (wr := []) (runVD (As := []) (rest := []) ⟨hx, hb, hml, hown, ht⟩ (sX11_asItIs l G cs h q F A D B hI  ) okV_RX11_278 ⟨by decide, by decide⟩ hK hP hD [0, 1, 2, 3, 4, 5, 6, 7, 8, 9, 10, 11, 12, 13, 14, 15, 16, 17, 18, 19] rfl (by decide) rfl 0 rfl rfl hl.1 rfl (Nat.le_of_ble_eq_true rfl) dX11_parts_13 ⟨(Nat.le_of_ble_eq_true rfl), (Nat.le_of_ble_eq_true rfl)⟩) hP hD hS hA [0, 1, 2, 3, 4, 5, 6, 7, 8, 9, 10, 11, 12, 13, 14, 15, 16, 17, 18, 19] [] rfl rfl (by decide) (by decide) (fun u H locs hu hP hD hS => ?_)
    obtain ⟨x5, x6, g7, g8⟩ := u
    have hr9 := hu
    have hP : va_P G vwCl (mS cs h q (upd (upd F 17 x5) 18 x6) (vA (vA A 15 g7) 16 g8) D B) H := hP
    have hD : va_D A0 (mS cs h q (upd (upd F 17 x5) 18 x6) (vA (vA A 15 g7) 16 g8) D B) := hD
    refine lv_iload_n hx hb dX11_parts_16 rfl (lv_at hl 1 rfl) ?_
    refine lv_iconst (v := (-1)) hx hb dX11_parts_17 (by decide) ?_
    refine lv_icmp_ne (tgt := 28) hx hb dX11_parts_18 (by decide) (fun c10 => ?_) (fun c10 => ?_)
    · have zc10 := neK rfl (show (-1 : Int32).toInt = (-1) by decide) c10
      refine lv_aload_n hx hb dX11_parts_28 rfl (lv_at hl 0 rfl) ?_
      refine getF (v := .ref (q 15)) hx hb ht hown hK hP iTX11 0 15 rfl rfl (by decide) fl_RX11_34 rfl dX11_parts_29 ?_
      refine lv_iload_n hx hb dX11_parts_32 rfl (lv_at hl 1 rfl) ?_
      refine va_iald hx hb hK.1 hP 7 0 rfl rfl (inK rfl (by omega) (by decide)) dX11_parts_33 ?_
      refine lv_topi (fun v11 ev11 => ?_)
      exact retDi (x5, x6, g7, g8) hx hb hr hlk hP hD hS dX11_parts_34 (trivial) (Nat.le_of_ble_eq_true rfl) (Nat.le_of_ble_eq_true rfl)
    · have zc10 := eqK rfl (show (-1 : Int32).toInt = (-1) by decide) c10
      refine lv_aload_n hx hb dX11_parts_21 rfl (lv_at hl 0 rfl) ?_
      refine getF (v := .int x5) hx hb ht hown hK hP iTX11 0 17 rfl rfl (by decide) fl_RX11_246 rfl dX11_parts_22 ?_
      refine lv_goto (tgt := 34) hx hb dX11_parts_25 (by decide) ?_
      exact retDi (x5, x6, g7, g8) hx hb hr hlk hP hD hS dX11_parts_34 (trivial) (Nat.le_of_ble_eq_true rfl) (Nat.le_of_ble_eq_true rfl)
  · have zc4 := eqK rfl (show (0 : Int32).toInt = 0 by decide) c4
    refine lv_bipush (v := (-2)) hx hb dX11_parts_9 (by decide) ?_
    exact retDi ((F 17), (F 18), (A 15), (A 16)) hx hb hr hlk hP hD hS dX11_parts_11 (trivial) (Nat.le_of_ble_eq_true rfl) (Nat.le_of_ble_eq_true rfl)

set_option maxRecDepth 100000 in
set_option maxHeartbeats 8000000 in
theorem sX11_found (l : Launch) (G : va_G) (cs : Nat → ClassId) (h : Nat) (q : Nat → Nat) (F : Nat → Int32) (A : Nat → Nat → Int32) (D : Int64) (B : Nat → Nat → Int64) (hI : IM F A) : ImpI l yX11_found cX11_found 1 (some .int) 5 0 0 G (TY cs) [.ref h] (mS cs h q F A D B) (fun (r : Int32) (u : Int32 × Int32 × (Nat → Int32) × (Nat → Int32)) => True) (fun u : Int32 × Int32 × (Nat → Int32) × (Nat → Int32) => (mS cs h q (upd (upd F 17 u.1) 18 u.2.1) (vA (vA A 15 u.2.2.1) 16 u.2.2.2) D B)) := by
  refine mkD (Qc := (QDi G (fun (r : Int32) (u : Int32 × Int32 × (Nat → Int32) × (Nat → Int32)) => True) (fun u : Int32 × Int32 × (Nat → Int32) × (Nat → Int32) => (mS cs h q (upd (upd F 17 u.1) 18 u.2.1) (vA (vA A 15 u.2.2.1) 16 u.2.2.2) D B)))) (by decide) (by simp [lg_sl, Value.category]) ?_
  intro p e s m args below meth c ls A0 hx hb hml hr hlk hown hmn ht hK hP hD hS hA hl
  have hl : lv_has ls 1 [(0, .ref h)] := hl
  refine lv_aload_n hx hb dX11_found_0 rfl (lv_at hl 0 rfl) ?_
  refine behR (runVP (As := []) (rest := []) ⟨hx, hb, hml, hown, ht⟩ (sX11_isHouse l G cs h q F A D B hI  ) okV_RX11_83 ⟨by decide, by decide⟩ hK hP [0, 1, 2, 3, 4, 5, 6, 7, 8, 9, 10, 11, 12, 13, 14, 15, 16, 17, 18, 19] rfl 0 rfl rfl hl.1 rfl (Nat.le_of_ble_eq_true rfl) dX11_found_1 ⟨by decide, by decide⟩) hP hS hA (fun r1 H locs hr1 hP hS => ?_)
  have hr1 : (0 : Int) ≤ r1.toInt ∧ r1.toInt ≤ 1 := hr1
  refine lv_if_ne (tgt := 10) hx hb dX11_found_4 (by decide) (fun c2 => ?_) (fun c2 => ?_)
  · have zc2 := neK rfl (show (0 : Int32).toInt = 0 by decide) c2
    refine lv_aload_n hx hb dX11_found_10 rfl (lv_at hl 0 rfl) ?_
    refine behDw (wr := []) (runVD (As := []) (rest := []) ⟨hx, hb, hml, hown, ht⟩ (sX11_asItIs l G cs h q F A D B hI  ) okV_RX11_278 ⟨by decide, by decide⟩ hK hP hD [0, 1, 2, 3, 4, 5, 6, 7, 8, 9, 10, 11, 12, 13, 14, 15, 16, 17, 18, 19] rfl (by decide) rfl 0 rfl rfl hl.1 rfl (Nat.le_of_ble_eq_true rfl) dX11_found_11 ⟨(Nat.le_of_ble_eq_true rfl), (Nat.le_of_ble_eq_true rfl)⟩) hP hD hS hA [0, 1, 2, 3, 4, 5, 6, 7, 8, 9, 10, 11, 12, 13, 14, 15, 16, 17, 18, 19] [] rfl rfl (by decide) (by decide) (fun u H locs hu hP hD hS => ?_)
    obtain ⟨x3, x4, g5, g6⟩ := u
    have hr7 := hu
    have hP : va_P G vwCl (mS cs h q (upd (upd F 17 x3) 18 x4) (vA (vA A 15 g5) 16 g6) D B) H := hP
    have hD : va_D A0 (mS cs h q (upd (upd F 17 x3) 18 x4) (vA (vA A 15 g5) 16 g6) D B) := hD
    refine lv_aload_n hx hb dX11_found_14 rfl (lv_at hl 0 rfl) ?_
    refine getF (v := .int x4) hx hb ht hown hK hP iTX11 0 18 rfl rfl (by decide) fl_RX11_249 rfl dX11_found_15 ?_
    exact retDi (x3, x4, g5, g6) hx hb hr hlk hP hD hS dX11_found_18 (trivial) (Nat.le_of_ble_eq_true rfl) (Nat.le_of_ble_eq_true rfl)
  · have zc2 := eqK rfl (show (0 : Int32).toInt = 0 by decide) c2
    refine lv_bipush (v := (-2)) hx hb dX11_found_7 (by decide) ?_
    exact retDi ((F 17), (F 18), (A 15), (A 16)) hx hb hr hlk hP hD hS dX11_found_9 (trivial) (Nat.le_of_ble_eq_true rfl) (Nat.le_of_ble_eq_true rfl)

set_option maxRecDepth 100000 in
set_option maxHeartbeats 8000000 in
theorem sX11_likely (l : Launch) (G : va_G) (cs : Nat → ClassId) (h : Nat) (q : Nat → Nat) (F : Nat → Int32) (A : Nat → Nat → Int32) (D : Int64) (B : Nat → Nat → Int64) (hI : IM F A) : ImpI l yX11_likely cX11_likely 3 (some .int) 5 0 0 G (TY cs) [.ref h] (mS cs h q F A D B) (fun (r : Int32) (u : Int32 × Int32 × (Nat → Int32) × (Nat → Int32)) => True) (fun u : Int32 × Int32 × (Nat → Int32) × (Nat → Int32) => (mS cs h q (upd (upd F 17 u.1) 18 u.2.1) (vA (vA A 15 u.2.2.1) 16 u.2.2.2) D B)) := by
  refine mkD (Qc := (QDi G (fun (r : Int32) (u : Int32 × Int32 × (Nat → Int32) × (Nat → Int32)) => True) (fun u : Int32 × Int32 × (Nat → Int32) × (Nat → Int32) => (mS cs h q (upd (upd F 17 u.1) 18 u.2.1) (vA (vA A 15 u.2.2.1) 16 u.2.2.2) D B)))) (by decide) (by simp [lg_sl, Value.category]) ?_
  intro p e s m args below meth c ls A0 hx hb hml hr hlk hown hmn ht hK hP hD hS hA hl
  have hl : lv_has ls 3 [(0, .ref h)] := hl
  refine lv_aload_n hx hb dX11_likely_0 rfl (lv_at hl 0 rfl) ?_
  refine behR (runVP (As := []) (rest := []) ⟨hx, hb, hml, hown, ht⟩ (sX11_isHouse l G cs h q F A D B hI  ) okV_RX11_83 ⟨by decide, by decide⟩ hK hP [0, 1, 2, 3, 4, 5, 6, 7, 8, 9, 10, 11, 12, 13, 14, 15, 16, 17, 18, 19] rfl 0 rfl rfl hl.1 rfl (Nat.le_of_ble_eq_true rfl) dX11_likely_1 ⟨by decide, by decide⟩) hP hS hA (fun r1 H locs hr1 hP hS => ?_)
  have hr1 : (0 : Int) ≤ r1.toInt ∧ r1.toInt ≤ 1 := hr1
  refine lv_if_ne (tgt := 10) hx hb dX11_likely_4 (by decide) (fun c2 => ?_) (fun c2 => ?_)
  · have zc2 := neK rfl (show (0 : Int32).toInt = 0 by decide) c2
    refine lv_aload_n hx hb dX11_likely_10 rfl (lv_at hl 0 rfl) ?_
    refine behDw (wr := []) (runVD (As := []) (rest := []) ⟨hx, hb, hml, hown, ht⟩ (sX11_asItIs l G cs h q F A D B hI  ) okV_RX11_278 ⟨by decide, by decide⟩ hK hP hD [0, 1, 2, 3, 4, 5, 6, 7, 8, 9, 10, 11, 12, 13, 14, 15, 16, 17, 18, 19] rfl (by decide) rfl 0 rfl rfl hl.1 rfl (Nat.le_of_ble_eq_true rfl) dX11_likely_11 ⟨(Nat.le_of_ble_eq_true rfl), (Nat.le_of_ble_eq_true rfl)⟩) hP hD hS hA [0, 1, 2, 3, 4, 5, 6, 7, 8, 9, 10, 11, 12, 13, 14, 15, 16, 17, 18, 19] [] rfl rfl (by decide) (by decide) (fun u H locs hu hP hD hS => ?_)
    obtain ⟨x3, x4, g5, g6⟩ := u
    have hr7 := hu
    have hP : va_P G vwCl (mS cs h q (upd (upd F 17 x3) 18 x4) (vA (vA A 15 g5) 16 g6) D B) H := hP
    have hD : va_D A0 (mS cs h q (upd (upd F 17 x3) 18 x4) (vA (vA A 15 g5) 16 g6) D B) := hD
    refine lv_iconst (v := (-1)) hx hb dX11_likely_14 (by decide) ?_
    refine lv_istore_n (lv' := [(1, .int (-1)), (0, .ref h)]) hx hb dX11_likely_15 rfl hl (by decide) rfl (fun ls hl => ?_)
    refine lv_iconst (v := 0) hx hb dX11_likely_16 (by decide) ?_
    refine lv_istore_n (lv' := [(2, .int 0), (1, .int (-1)), (0, .ref h)]) hx hb dX11_likely_17 rfl hl (by decide) rfl (fun ls hl => ?_)
    have B18 : ∀ (n : Nat) (x18_1 : Int32) (x18_2 : Int32) (H : Heap) (locs : List Loc) (ls : Array Slot), (7 - x18_2.toInt).toNat < n → (-1 : Int) ≤ x18_1.toInt ∧ x18_1.toInt ≤ 6 → (0 : Int) ≤ x18_2.toInt ∧ x18_2.toInt ≤ 7 → va_P G vwCl (mS cs h q (upd (upd F 17 x3) 18 x4) (vA (vA A 15 g5) 16 g6) D B) H → va_D A0 (mS cs h q (upd (upd F 17 x3) 18 x4) (vA (vA A 15 g5) 16 g6) D B) → va_S A0 s.heap H locs → lv_has ls 3 [(0, .ref h), (1, .int x18_1), (2, .int x18_2)] → W p l e (rmk 5 0 0) s m args below meth c H locs 0 0 (MQ below ((QDi G (fun (r : Int32) (u : Int32 × Int32 × (Nat → Int32) × (Nat → Int32)) => True) (fun u : Int32 × Int32 × (Nat → Int32) × (Nat → Int32) => (mS cs h q (upd (upd F 17 u.1) 18 u.2.1) (vA (vA A 15 u.2.2.1) 16 u.2.2.2) D B))) A0) args s 0 0 A0) (F0 m 18 ls []) := by
      intro n
      induction n with
      | zero => intro x18_1 x18_2 H locs ls hmeas hx18_1 hx18_2 hP hD hS hl; exact absurd hmeas (Nat.not_lt_zero _)
      | succ n ih18 =>
        intro x18_1 x18_2 H locs ls hmeas hx18_1 hx18_2 hP hD hS hl
        refine lv_iload_n hx hb dX11_likely_18 rfl (lv_at hl 2 rfl) ?_
        refine lv_aload_n hx hb dX11_likely_19 rfl (lv_at hl 0 rfl) ?_
        refine getF (v := .ref (q 1)) hx hb ht hown hK hP iTX11 0 1 rfl rfl (by decide) fl_RX11_9 rfl dX11_likely_20 ?_
        refine lv_iconst (v := 4) hx hb dX11_likely_23 (by decide) ?_
        refine va_iald hx hb hK.1 hP 1 0 rfl rfl (show ¬ (_ ∨ _) by decide) dX11_likely_24 ?_
        refine W.eq (g2 := F0 m 25 ls [.int (A 1 4), .int x18_2]) rfl ?_
        have zf12001 : (0 : Int) ≤ (A 1 4).toInt ∧ (A 1 4).toInt ≤ 7 := (hI.2 1 4)
        refine lv_icmp_ge (tgt := 60) hx hb dX11_likely_25 (by decide) (fun c12002 => ?_) (fun c12002 => ?_)
        · have zc12002 := leK rfl rfl c12002
          refine lv_iload_n hx hb dX11_likely_60 rfl (lv_at hl 1 rfl) ?_
          exact retDi (x3, x4, g5, g6) hx hb hr hlk hP hD hS dX11_likely_61 (trivial) (Nat.le_of_ble_eq_true rfl) (Nat.le_of_ble_eq_true rfl)
        · have zc12002 := nleK rfl rfl c12002
          refine lv_iload_n hx hb dX11_likely_28 rfl (lv_at hl 1 rfl) ?_
          refine lv_iconst (v := (-1)) hx hb dX11_likely_29 (by decide) ?_
          have B53 : ∀ (s53_0 : Int32) (H : Heap) (locs : List Loc) (ls : Array Slot), (0 : Int) ≤ s53_0.toInt ∧ s53_0.toInt ≤ 6 → va_P G vwCl (mS cs h q (upd (upd F 17 x3) 18 x4) (vA (vA A 15 g5) 16 g6) D B) H → va_D A0 (mS cs h q (upd (upd F 17 x3) 18 x4) (vA (vA A 15 g5) 16 g6) D B) → va_S A0 s.heap H locs → lv_has ls 3 [(0, .ref h), (2, .int x18_2)] → W p l e (rmk 5 0 0) s m args below meth c H locs 0 0 (MQ below ((QDi G (fun (r : Int32) (u : Int32 × Int32 × (Nat → Int32) × (Nat → Int32)) => True) (fun u : Int32 × Int32 × (Nat → Int32) × (Nat → Int32) => (mS cs h q (upd (upd F 17 u.1) 18 u.2.1) (vA (vA A 15 u.2.2.1) 16 u.2.2.2) D B))) A0) args s 0 0 A0) (F0 m 53 ls [.int s53_0]) := by
            intro s53_0 H locs ls hs53_0 hP hD hS hl
            refine lv_istore_n (lv' := [(1, .int s53_0), (0, .ref h), (2, .int x18_2)]) hx hb dX11_likely_53 rfl hl (by decide) rfl (fun ls hl => ?_)
            obtain ⟨v33001, ev33001⟩ : ∃ z : Int32, z = x18_2 + 1 := ⟨_, rfl⟩
            have tv33001 : v33001.toInt = x18_2.toInt + 1 := by rw [ev33001]; exact addT rfl (by decide) (by omega)
            refine lv_iinc (v := v33001) (lv' := [(2, .int v33001), (1, .int s53_0), (0, .ref h)]) hx hb dX11_likely_54 hl (k := 2) rfl (by rw [ev33001]; rfl) (by decide) rfl (fun ls hl => ?_)
            refine lv_goto (tgt := 18) hx hb dX11_likely_57 (by decide) ?_
            exact ih18 s53_0 v33001 H locs ls (by omega) (by omega) (by omega) hP hD hS (lv_sub hl [2, 1, 0] rfl)
          have B48 : ∀ (H : Heap) (locs : List Loc) (ls : Array Slot), va_P G vwCl (mS cs h q (upd (upd F 17 x3) 18 x4) (vA (vA A 15 g5) 16 g6) D B) H → va_D A0 (mS cs h q (upd (upd F 17 x3) 18 x4) (vA (vA A 15 g5) 16 g6) D B) → va_S A0 s.heap H locs → lv_has ls 3 [(0, .ref h), (2, .int x18_2)] → W p l e (rmk 5 0 0) s m args below meth c H locs 0 0 (MQ below ((QDi G (fun (r : Int32) (u : Int32 × Int32 × (Nat → Int32) × (Nat → Int32)) => True) (fun u : Int32 × Int32 × (Nat → Int32) × (Nat → Int32) => (mS cs h q (upd (upd F 17 u.1) 18 u.2.1) (vA (vA A 15 u.2.2.1) 16 u.2.2.2) D B))) A0) args s 0 0 A0) (F0 m 48 ls []) := by
            intro H locs ls hP hD hS hl
            refine lv_iload_n hx hb dX11_likely_48 rfl (lv_at hl 1 rfl) ?_
            refine lv_goto (tgt := 53) hx hb dX11_likely_49 (by decide) ?_
            exact B53 x18_2 H locs ls (by omega) hP hD hS (lv_sub hl [0, 1] rfl)
          refine lv_icmp_eq (tgt := 48) hx hb dX11_likely_30 (by decide) (fun c12003 => ?_) (fun c12003 => ?_)
          · have zc12003 := eqK rfl (show (-1 : Int32).toInt = (-1) by decide) c12003
            exact B48 H locs ls hP hD hS (lv_sub hl [0, 2] rfl)
          · have zc12003 := neK rfl (show (-1 : Int32).toInt = (-1) by decide) c12003
            refine lv_aload_n hx hb dX11_likely_33 rfl (lv_at hl 0 rfl) ?_
            refine getF (v := .ref (q 15)) hx hb ht hown hK hP iTX11 0 15 rfl rfl (by decide) fl_RX11_34 rfl dX11_likely_34 ?_
            refine lv_iload_n hx hb dX11_likely_37 rfl (lv_at hl 2 rfl) ?_
            refine va_iald hx hb hK.1 hP 7 0 rfl rfl (inK rfl (by omega) (by decide)) dX11_likely_38 ?_
            refine lv_topi (fun v12004 ev12004 => ?_)
            refine lv_aload_n hx hb dX11_likely_39 rfl (lv_at hl 0 rfl) ?_
            refine getF (v := .ref (q 15)) hx hb ht hown hK hP iTX11 0 15 rfl rfl (by decide) fl_RX11_34 rfl dX11_likely_40 ?_
            refine lv_iload_n hx hb dX11_likely_43 rfl (lv_at hl 1 rfl) ?_
            refine va_iald hx hb hK.1 hP 7 0 rfl rfl (inK rfl (by omega) (by decide)) dX11_likely_44 ?_
            refine lv_topi (fun v12005 ev12005 => ?_)
            refine lv_icmp_le (tgt := 52) hx hb dX11_likely_45 (by decide) (fun c12006 => ?_) (fun c12006 => ?_)
            · have zc12006 := leK rfl rfl c12006
              refine lv_iload_n hx hb dX11_likely_52 rfl (lv_at hl 1 rfl) ?_
              exact B53 x18_1 H locs ls (by omega) hP hD hS (lv_sub hl [0, 2] rfl)
            · have zc12006 := nleK rfl rfl c12006
              exact B48 H locs ls hP hD hS (lv_sub hl [0, 2] rfl)
    exact B18 _ (-1) 0 H locs ls (Nat.lt_succ_self _) (by decide) (by decide) hP hD hS (lv_sub hl [2, 1, 0] rfl)
  · have zc2 := eqK rfl (show (0 : Int32).toInt = 0 by decide) c2
    refine lv_bipush (v := (-2)) hx hb dX11_likely_7 (by decide) ?_
    exact retDi ((F 17), (F 18), (A 15), (A 16)) hx hb hr hlk hP hD hS dX11_likely_9 (trivial) (Nat.le_of_ble_eq_true rfl) (Nat.le_of_ble_eq_true rfl)

set_option maxRecDepth 100000 in
set_option maxHeartbeats 8000000 in
theorem sX11_here (l : Launch) (G : va_G) (cs : Nat → ClassId) (h : Nat) (q : Nat → Nat) (F : Nat → Int32) (A : Nat → Nat → Int32) (D : Int64) (B : Nat → Nat → Int64) (hI : IM F A) : ImpI l yX11_here cX11_here 1 (some .int) 5 0 0 G (TY cs) [.ref h] (mS cs h q F A D B) (fun (r : Int32) (u : Int32 × Int32 × (Nat → Int32) × (Nat → Int32)) => True) (fun u : Int32 × Int32 × (Nat → Int32) × (Nat → Int32) => (mS cs h q (upd (upd F 17 u.1) 18 u.2.1) (vA (vA A 15 u.2.2.1) 16 u.2.2.2) D B)) := by
  refine mkD (Qc := (QDi G (fun (r : Int32) (u : Int32 × Int32 × (Nat → Int32) × (Nat → Int32)) => True) (fun u : Int32 × Int32 × (Nat → Int32) × (Nat → Int32) => (mS cs h q (upd (upd F 17 u.1) 18 u.2.1) (vA (vA A 15 u.2.2.1) 16 u.2.2.2) D B)))) (by decide) (by simp [lg_sl, Value.category]) ?_
  intro p e s m args below meth c ls A0 hx hb hml hr hlk hown hmn ht hK hP hD hS hA hl
  have hl : lv_has ls 1 [(0, .ref h)] := hl
  refine lv_aload_n hx hb dX11_here_0 rfl (lv_at hl 0 rfl) ?_
  refine behR (runVP (As := []) (rest := []) ⟨hx, hb, hml, hown, ht⟩ (sX11_isHouse l G cs h q F A D B hI  ) okV_RX11_83 ⟨by decide, by decide⟩ hK hP [0, 1, 2, 3, 4, 5, 6, 7, 8, 9, 10, 11, 12, 13, 14, 15, 16, 17, 18, 19] rfl 0 rfl rfl hl.1 rfl (Nat.le_of_ble_eq_true rfl) dX11_here_1 ⟨by decide, by decide⟩) hP hS hA (fun r1 H locs hr1 hP hS => ?_)
  have hr1 : (0 : Int) ≤ r1.toInt ∧ r1.toInt ≤ 1 := hr1
  refine lv_if_ne (tgt := 10) hx hb dX11_here_4 (by decide) (fun c2 => ?_) (fun c2 => ?_)
  · have zc2 := neK rfl (show (0 : Int32).toInt = 0 by decide) c2
    refine lv_aload_n hx hb dX11_here_10 rfl (lv_at hl 0 rfl) ?_
    refine behDw (wr := []) (runVD (As := []) (rest := []) ⟨hx, hb, hml, hown, ht⟩ (sX11_asItIs l G cs h q F A D B hI  ) okV_RX11_278 ⟨by decide, by decide⟩ hK hP hD [0, 1, 2, 3, 4, 5, 6, 7, 8, 9, 10, 11, 12, 13, 14, 15, 16, 17, 18, 19] rfl (by decide) rfl 0 rfl rfl hl.1 rfl (Nat.le_of_ble_eq_true rfl) dX11_here_11 ⟨(Nat.le_of_ble_eq_true rfl), (Nat.le_of_ble_eq_true rfl)⟩) hP hD hS hA [0, 1, 2, 3, 4, 5, 6, 7, 8, 9, 10, 11, 12, 13, 14, 15, 16, 17, 18, 19] [] rfl rfl (by decide) (by decide) (fun u H locs hu hP hD hS => ?_)
    obtain ⟨x3, x4, g5, g6⟩ := u
    have hr7 := hu
    have hP : va_P G vwCl (mS cs h q (upd (upd F 17 x3) 18 x4) (vA (vA A 15 g5) 16 g6) D B) H := hP
    have hD : va_D A0 (mS cs h q (upd (upd F 17 x3) 18 x4) (vA (vA A 15 g5) 16 g6) D B) := hD
    refine lv_aload_n hx hb dX11_here_14 rfl (lv_at hl 0 rfl) ?_
    refine lv_aload_n hx hb dX11_here_15 rfl (lv_at hl 0 rfl) ?_
    refine behR (runVP (As := []) (rest := [.ref h]) ⟨hx, hb, hml, hown, ht⟩ (sX11_inHouse l G cs h q (upd (upd F 17 x3) 18 x4) (vA (vA A 15 g5) 16 g6) D B (IM_arr (k := 16) (IM_arr (k := 15) (IM_put (k := 18) (IM_put (k := 17) hI (i32b _)) (i32b _)) (fun _ => i32b _)) (fun _ => i32b _))  ) okV_RX11_270 ⟨by decide, by decide⟩ hK hP [0, 1, 2, 3, 4, 5, 6, 7, 8, 9, 10, 11, 12, 13, 14, 15, 16, 17, 18, 19] rfl 0 rfl rfl hl.1 rfl (Nat.le_of_ble_eq_true rfl) dX11_here_16 ⟨by decide, by decide⟩) hP hS hA (fun r8 H locs hr8 hP hS => ?_)
    refine behR (runVP (As := [.int r8]) (rest := []) ⟨hx, hb, hml, hown, ht⟩ (sX11_inMillion l G cs h q (upd (upd F 17 x3) 18 x4) (vA (vA A 15 g5) 16 g6) D B (IM_arr (k := 16) (IM_arr (k := 15) (IM_put (k := 18) (IM_put (k := 17) hI (i32b _)) (i32b _)) (fun _ => i32b _)) (fun _ => i32b _)) r8 ) okV_RX11_281 ⟨by decide, by decide⟩ hK hP [0, 1, 2, 3, 4, 5, 6, 7, 8, 9, 10, 11, 12, 13, 14, 15, 16, 17, 18, 19] rfl 0 rfl rfl hl.1 rfl (Nat.le_of_ble_eq_true rfl) dX11_here_19 ⟨by decide, by decide⟩) hP hS hA (fun r9 H locs hr9 hP hS => ?_)
    exact retDi (x3, x4, g5, g6) hx hb hr hlk hP hD hS dX11_here_22 (trivial) (Nat.le_of_ble_eq_true rfl) (Nat.le_of_ble_eq_true rfl)
  · have zc2 := eqK rfl (show (0 : Int32).toInt = 0 by decide) c2
    refine lv_bipush (v := (-2)) hx hb dX11_here_7 (by decide) ?_
    exact retDi ((F 17), (F 18), (A 15), (A 16)) hx hb hr hlk hP hD hS dX11_here_9 (trivial) (Nat.le_of_ble_eq_true rfl) (Nat.le_of_ble_eq_true rfl)

set_option maxRecDepth 100000 in
set_option maxHeartbeats 8000000 in
theorem sX11_chance (l : Launch) (G : va_G) (cs : Nat → ClassId) (h : Nat) (q : Nat → Nat) (F : Nat → Int32) (A : Nat → Nat → Int32) (D : Int64) (B : Nat → Nat → Int64) (hI : IM F A) (a1 : Int32) : ImpI l yX11_chance cX11_chance 2 (some .int) 5 0 0 G (TY cs) [.ref h, .int a1] (mS cs h q F A D B) (fun (r : Int32) (u : Int32 × Int32 × (Nat → Int32) × (Nat → Int32)) => True) (fun u : Int32 × Int32 × (Nat → Int32) × (Nat → Int32) => (mS cs h q (upd (upd F 17 u.1) 18 u.2.1) (vA (vA A 15 u.2.2.1) 16 u.2.2.2) D B)) := by
  refine mkD (Qc := (QDi G (fun (r : Int32) (u : Int32 × Int32 × (Nat → Int32) × (Nat → Int32)) => True) (fun u : Int32 × Int32 × (Nat → Int32) × (Nat → Int32) => (mS cs h q (upd (upd F 17 u.1) 18 u.2.1) (vA (vA A 15 u.2.2.1) 16 u.2.2.2) D B)))) (by decide) (by simp [lg_sl, Value.category]) ?_
  intro p e s m args below meth c ls A0 hx hb hml hr hlk hown hmn ht hK hP hD hS hA hl
  have hl : lv_has ls 2 [(0, .ref h), (1, .int a1)] := hl
  refine lv_aload_n hx hb dX11_chance_0 rfl (lv_at hl 0 rfl) ?_
  refine lv_iload_n hx hb dX11_chance_1 rfl (lv_at hl 1 rfl) ?_
  refine lv_i2l hx hb dX11_chance_2 rfl ?_
  have bb1 := i32b a1
  refine lv_topl (fun v2 ev2 => ?_)
  have tv2 : v2.toInt = a1.toInt := by rw [ev2]; exact Int32.toInt_toInt64 _
  refine behR (runVP (As := [.long v2]) (rest := []) ⟨hx, hb, hml, hown, ht⟩ (sX11_isRoomOrNone l G cs h q F A D B hI v2 ) okV_RX11_275 ⟨by decide, by decide⟩ hK hP [0, 1, 2, 3, 4, 5, 6, 7, 8, 9, 10, 11, 12, 13, 14, 15, 16, 17, 18, 19] rfl 0 rfl rfl hl.1 rfl (Nat.le_of_ble_eq_true rfl) dX11_chance_3 ⟨by decide, by decide⟩) hP hS hA (fun r3 H locs hr3 hP hS => ?_)
  have hr3 : (r3.toInt = 1 ∧ -1 ≤ v2.toInt ∧ v2.toInt ≤ 6) ∨ r3.toInt = 0 := hr3
  refine lv_if_ne (tgt := 12) hx hb dX11_chance_6 (by decide) (fun c4 => ?_) (fun c4 => ?_)
  · have zc4 := neK rfl (show (0 : Int32).toInt = 0 by decide) c4
    refine lv_aload_n hx hb dX11_chance_12 rfl (lv_at hl 0 rfl) ?_
    refine behDw (wr := []) (runVD (As := []) (rest := []) ⟨hx, hb, hml, hown, ht⟩ (sX11_asItIs l G cs h q F A D B hI  ) okV_RX11_278 ⟨by decide, by decide⟩ hK hP hD [0, 1, 2, 3, 4, 5, 6, 7, 8, 9, 10, 11, 12, 13, 14, 15, 16, 17, 18, 19] rfl (by decide) rfl 0 rfl rfl hl.1 rfl (Nat.le_of_ble_eq_true rfl) dX11_chance_13 ⟨(Nat.le_of_ble_eq_true rfl), (Nat.le_of_ble_eq_true rfl)⟩) hP hD hS hA [0, 1, 2, 3, 4, 5, 6, 7, 8, 9, 10, 11, 12, 13, 14, 15, 16, 17, 18, 19] [] rfl rfl (by decide) (by decide) (fun u H locs hu hP hD hS => ?_)
    obtain ⟨x5, x6, g7, g8⟩ := u
    have hr9 := hu
    have hP : va_P G vwCl (mS cs h q (upd (upd F 17 x5) 18 x6) (vA (vA A 15 g7) 16 g8) D B) H := hP
    have hD : va_D A0 (mS cs h q (upd (upd F 17 x5) 18 x6) (vA (vA A 15 g7) 16 g8) D B) := hD
    refine lv_aload_n hx hb dX11_chance_16 rfl (lv_at hl 0 rfl) ?_
    refine lv_iload_n hx hb dX11_chance_17 rfl (lv_at hl 1 rfl) ?_
    refine lv_iconst (v := (-1)) hx hb dX11_chance_18 (by decide) ?_
    refine lv_icmp_ne (tgt := 29) hx hb dX11_chance_19 (by decide) (fun c10 => ?_) (fun c10 => ?_)
    · have zc10 := neK rfl (show (-1 : Int32).toInt = (-1) by decide) c10
      refine lv_aload_n hx hb dX11_chance_29 rfl (lv_at hl 0 rfl) ?_
      refine getF (v := .ref (q 15)) hx hb ht hown hK hP iTX11 0 15 rfl rfl (by decide) fl_RX11_34 rfl dX11_chance_30 ?_
      refine lv_iload_n hx hb dX11_chance_33 rfl (lv_at hl 1 rfl) ?_
      refine va_iald hx hb hK.1 hP 7 0 rfl rfl (inK rfl (by omega) (by decide)) dX11_chance_34 ?_
      refine lv_topi (fun v11 ev11 => ?_)
      refine behR (runVP (As := [.int v11]) (rest := []) ⟨hx, hb, hml, hown, ht⟩ (sX11_inMillion l G cs h q (upd (upd F 17 x5) 18 x6) (vA (vA A 15 g7) 16 g8) D B (IM_arr (k := 16) (IM_arr (k := 15) (IM_put (k := 18) (IM_put (k := 17) hI (i32b _)) (i32b _)) (fun _ => i32b _)) (fun _ => i32b _)) v11 ) okV_RX11_281 ⟨by decide, by decide⟩ hK hP [0, 1, 2, 3, 4, 5, 6, 7, 8, 9, 10, 11, 12, 13, 14, 15, 16, 17, 18, 19] rfl 0 rfl rfl hl.1 rfl (Nat.le_of_ble_eq_true rfl) dX11_chance_35 ⟨by decide, by decide⟩) hP hS hA (fun r12 H locs hr12 hP hS => ?_)
      exact retDi (x5, x6, g7, g8) hx hb hr hlk hP hD hS dX11_chance_38 (trivial) (Nat.le_of_ble_eq_true rfl) (Nat.le_of_ble_eq_true rfl)
    · have zc10 := eqK rfl (show (-1 : Int32).toInt = (-1) by decide) c10
      refine lv_aload_n hx hb dX11_chance_22 rfl (lv_at hl 0 rfl) ?_
      refine getF (v := .int x5) hx hb ht hown hK hP iTX11 0 17 rfl rfl (by decide) fl_RX11_246 rfl dX11_chance_23 ?_
      refine lv_goto (tgt := 35) hx hb dX11_chance_26 (by decide) ?_
      refine behR (runVP (As := [.int x5]) (rest := []) ⟨hx, hb, hml, hown, ht⟩ (sX11_inMillion l G cs h q (upd (upd F 17 x5) 18 x6) (vA (vA A 15 g7) 16 g8) D B (IM_arr (k := 16) (IM_arr (k := 15) (IM_put (k := 18) (IM_put (k := 17) hI (i32b _)) (i32b _)) (fun _ => i32b _)) (fun _ => i32b _)) x5 ) okV_RX11_281 ⟨by decide, by decide⟩ hK hP [0, 1, 2, 3, 4, 5, 6, 7, 8, 9, 10, 11, 12, 13, 14, 15, 16, 17, 18, 19] rfl 0 rfl rfl hl.1 rfl (Nat.le_of_ble_eq_true rfl) dX11_chance_35 ⟨by decide, by decide⟩) hP hS hA (fun r13 H locs hr13 hP hS => ?_)
      exact retDi (x5, x6, g7, g8) hx hb hr hlk hP hD hS dX11_chance_38 (trivial) (Nat.le_of_ble_eq_true rfl) (Nat.le_of_ble_eq_true rfl)
  · have zc4 := eqK rfl (show (0 : Int32).toInt = 0 by decide) c4
    refine lv_bipush (v := (-2)) hx hb dX11_chance_9 (by decide) ?_
    exact retDi ((F 17), (F 18), (A 15), (A 16)) hx hb hr hlk hP hD hS dX11_chance_11 (trivial) (Nat.le_of_ble_eq_true rfl) (Nat.le_of_ble_eq_true rfl)

set_option maxRecDepth 100000 in
set_option maxHeartbeats 8000000 in
theorem sX11_call (l : Launch) (G : va_G) (cs : Nat → ClassId) (h : Nat) (q : Nat → Nat) (F : Nat → Int32) (A : Nat → Nat → Int32) (D : Int64) (B : Nat → Nat → Int64) (hI : IM F A) (a1 : Int32) (hWG : WG (A 1)) : ImpI l yX11_call cX11_call 2 (some .int) 5 0 0 G (TY cs) [.ref h, .int a1] (mS cs h q F A D B) (fun (r : Int32) (u : Int32 × Int32 × (Nat → Int32) × (Nat → Int32) × (Nat → Int32)) => AI 1 u.2.2.1 ∧ (WG u.2.2.1)) (fun u : Int32 × Int32 × (Nat → Int32) × (Nat → Int32) × (Nat → Int32) => (mS cs h q (upd (upd F 17 u.1) 18 u.2.1) (vA (vA (vA A 1 u.2.2.1) 15 u.2.2.2.1) 16 u.2.2.2.2) D B)) := by
  refine mkD (Qc := (QDi G (fun (r : Int32) (u : Int32 × Int32 × (Nat → Int32) × (Nat → Int32) × (Nat → Int32)) => AI 1 u.2.2.1 ∧ (WG u.2.2.1)) (fun u : Int32 × Int32 × (Nat → Int32) × (Nat → Int32) × (Nat → Int32) => (mS cs h q (upd (upd F 17 u.1) 18 u.2.1) (vA (vA (vA A 1 u.2.2.1) 15 u.2.2.2.1) 16 u.2.2.2.2) D B)))) (by decide) (by simp [lg_sl, Value.category]) ?_
  intro p e s m args below meth c ls A0 hx hb hml hr hlk hown hmn ht hK hP hD hS hA hl
  have hl : lv_has ls 2 [(0, .ref h), (1, .int a1)] := hl
  refine lv_aload_n hx hb dX11_call_0 rfl (lv_at hl 0 rfl) ?_
  refine lv_iload_n hx hb dX11_call_1 rfl (lv_at hl 1 rfl) ?_
  refine lv_i2l hx hb dX11_call_2 rfl ?_
  have bb1 := i32b a1
  refine lv_topl (fun v2 ev2 => ?_)
  have tv2 : v2.toInt = a1.toInt := by rw [ev2]; exact Int32.toInt_toInt64 _
  refine behR (runVP (As := [.long v2]) (rest := []) ⟨hx, hb, hml, hown, ht⟩ (sX11_isRoomOrNone l G cs h q F A D B hI v2 ) okV_RX11_275 ⟨by decide, by decide⟩ hK hP [0, 1, 2, 3, 4, 5, 6, 7, 8, 9, 10, 11, 12, 13, 14, 15, 16, 17, 18, 19] rfl 0 rfl rfl hl.1 rfl (Nat.le_of_ble_eq_true rfl) dX11_call_3 ⟨by decide, by decide⟩) hP hS hA (fun r3 H locs hr3 hP hS => ?_)
  have hr3 : (r3.toInt = 1 ∧ -1 ≤ v2.toInt ∧ v2.toInt ≤ 6) ∨ r3.toInt = 0 := hr3
  refine lv_if_ne (tgt := 12) hx hb dX11_call_6 (by decide) (fun c4 => ?_) (fun c4 => ?_)
  · have zc4 := neK rfl (show (0 : Int32).toInt = 0 by decide) c4
    refine lv_aload_n hx hb dX11_call_12 rfl (lv_at hl 0 rfl) ?_
    refine getF (v := .ref (q 1)) hx hb ht hown hK hP iTX11 0 1 rfl rfl (by decide) fl_RX11_9 rfl dX11_call_13 ?_
    refine lv_bipush (v := 7) hx hb dX11_call_16 (by decide) ?_
    refine va_iald hx hb hK.1 hP 1 0 rfl rfl (show ¬ (_ ∨ _) by decide) dX11_call_18 ?_
    refine W.eq (g2 := F0 m 19 ls [.int (A 1 7)]) rfl ?_
    have zf5 : (0 : Int) ≤ (A 1 7).toInt ∧ (A 1 7).toInt ≤ 60 := (hI.2 1 7)
    refine lv_bipush (v := 60) hx hb dX11_call_19 (by decide) ?_
    refine lv_icmp_ne (tgt := 27) hx hb dX11_call_21 (by decide) (fun c6 => ?_) (fun c6 => ?_)
    · have zc6 := neK rfl (show (60 : Int32).toInt = 60 by decide) c6
      refine lv_aload_n hx hb dX11_call_27 rfl (lv_at hl 0 rfl) ?_
      refine behDw (wr := []) (runVD (As := []) (rest := []) ⟨hx, hb, hml, hown, ht⟩ (sX11_asItIs l G cs h q F A D B hI  ) okV_RX11_278 ⟨by decide, by decide⟩ hK hP hD [0, 1, 2, 3, 4, 5, 6, 7, 8, 9, 10, 11, 12, 13, 14, 15, 16, 17, 18, 19] rfl (by decide) rfl 0 rfl rfl hl.1 rfl (Nat.le_of_ble_eq_true rfl) dX11_call_28 ⟨(Nat.le_of_ble_eq_true rfl), (Nat.le_of_ble_eq_true rfl)⟩) hP hD hS hA [0, 1, 2, 3, 4, 5, 6, 7, 8, 9, 10, 11, 12, 13, 14, 15, 16, 17, 18, 19] [] rfl rfl (by decide) (by decide) (fun u H locs hu hP hD hS => ?_)
      obtain ⟨x7, x8, g9, g10⟩ := u
      have hr11 := hu
      have hP : va_P G vwCl (mS cs h q (upd (upd F 17 x7) 18 x8) (vA (vA A 15 g9) 16 g10) D B) H := hP
      have hD : va_D A0 (mS cs h q (upd (upd F 17 x7) 18 x8) (vA (vA A 15 g9) 16 g10) D B) := hD
      refine lv_aload_n hx hb dX11_call_31 rfl (lv_at hl 0 rfl) ?_
      refine getF (v := .ref (q 1)) hx hb ht hown hK hP iTX11 0 1 rfl rfl (by decide) fl_RX11_9 rfl dX11_call_32 ?_
      refine lv_bipush (v := 84) hx hb dX11_call_35 (by decide) ?_
      refine lv_aload_n hx hb dX11_call_37 rfl (lv_at hl 0 rfl) ?_
      refine getF (v := .ref (q 1)) hx hb ht hown hK hP iTX11 0 1 rfl rfl (by decide) fl_RX11_9 rfl dX11_call_38 ?_
      refine lv_bipush (v := 7) hx hb dX11_call_41 (by decide) ?_
      refine va_iald hx hb hK.1 hP 1 0 rfl rfl (show ¬ (_ ∨ _) by decide) dX11_call_43 ?_
      refine W.eq (g2 := F0 m 44 ls [.int (A 1 7), .int 84, .ref (q 1)]) rfl ?_
      have zf12 : (0 : Int) ≤ (A 1 7).toInt ∧ (A 1 7).toInt ≤ 60 := (hI.2 1 7)
      refine lv_iadd hx hb dX11_call_44 ?_
      refine lv_topi (fun v13 ev13 => ?_)
      have tv13 : v13.toInt = 84 + (A 1 7).toInt := by rw [ev13]; exact addT (show (84 : Int32).toInt = 84 by decide) rfl (by omega)
      refine lv_iload_n hx hb dX11_call_45 rfl (lv_at hl 1 rfl) ?_
      refine va_iast hx hb hK.1 hP hD hS 1 0 rfl rfl (inK rfl (by omega) (by decide)) dX11_call_46 (fun H locs hP hD hS => ?_)
      have hP : va_P G vwCl (mS cs h q (upd (upd F 17 x7) 18 x8) (vA (vA (vA A 1 (upd (A 1) v13.toNatClampNeg a1)) 15 g9) 16 g10) D B) H := hP
      have hD : va_D A0 (mS cs h q (upd (upd F 17 x7) 18 x8) (vA (vA (vA A 1 (upd (A 1) v13.toNatClampNeg a1)) 15 g9) 16 g10) D B) := hD
      obtain ⟨g14, eg14⟩ : ∃ z : Nat → Int32, z = upd (A 1) v13.toNatClampNeg a1 := ⟨_, rfl⟩
      rw [← eg14] at hP hD
      have hg14 : AI 1 g14 := by rw [eg14]; exact AI_upd (fun j => hI.2 1 j) (w84b (by have zz := clK (i := v13) rfl (by omega); omega) (by omega))
      refine lv_aload_n hx hb dX11_call_47 rfl (lv_at hl 0 rfl) ?_
      refine getF (v := .ref (q 1)) hx hb ht hown hK hP iTX11 0 1 rfl rfl (by decide) fl_RX11_9 rfl dX11_call_48 ?_
      refine lv_bipush (v := 7) hx hb dX11_call_51 (by decide) ?_
      refine lv_dup2_11 hx hb dX11_call_53 rfl rfl ?_
      refine va_iald hx hb hK.1 hP 1 0 rfl rfl (show ¬ (_ ∨ _) by decide) dX11_call_54 ?_
      refine W.eq (g2 := F0 m 55 ls [.int (g14 7), .int 7, .ref (q 1)]) rfl ?_
      have zf15 : (0 : Int) ≤ (g14 7).toInt ∧ (g14 7).toInt ≤ 60 := (hg14 7)
      have qq16 : (g14 7).toInt = (A 1 7).toInt := congrArg Int32.toInt (by rw [eg14]; exact if_neg (by have y1 := clK (i := v13) rfl (by omega); omega))
      refine lv_iconst (v := 1) hx hb dX11_call_55 (by decide) ?_
      refine lv_iadd hx hb dX11_call_56 ?_
      refine lv_topi (fun v17 ev17 => ?_)
      have tv17 : v17.toInt = (g14 7).toInt + 1 := by rw [ev17]; exact addT rfl (show (1 : Int32).toInt = 1 by decide) (by omega)
      refine va_iast hx hb hK.1 hP hD hS 1 0 rfl rfl (show ¬ (_ ∨ _) by decide) dX11_call_57 (fun H locs hP hD hS => ?_)
      have hP : va_P G vwCl (mS cs h q (upd (upd F 17 x7) 18 x8) (vA (vA (vA A 1 (upd g14 (7 : Int32).toNatClampNeg v17)) 15 g9) 16 g10) D B) H := hP
      have hD : va_D A0 (mS cs h q (upd (upd F 17 x7) 18 x8) (vA (vA (vA A 1 (upd g14 (7 : Int32).toNatClampNeg v17)) 15 g9) 16 g10) D B) := hD
      obtain ⟨g18, eg18⟩ : ∃ z : Nat → Int32, z = upd g14 (7 : Int32).toNatClampNeg v17 := ⟨_, rfl⟩
      rw [← eg18] at hP hD
      have hg18 : AI 1 g18 := by rw [eg18]; exact AI_upd (fun j => hg14 j) (show (0 : Int) ≤ v17.toInt ∧ v17.toInt ≤ 60 by omega)
      refine lv_aload_n hx hb dX11_call_58 rfl (lv_at hl 0 rfl) ?_
      refine lv_iload_n hx hb dX11_call_59 rfl (lv_at hl 1 rfl) ?_
      refine lv_iconst (v := 0) hx hb dX11_call_60 (by decide) ?_
      refine behDi (wr := []) (runVD (As := [.int a1, .int 0]) (rest := []) ⟨hx, hb, hml, hown, ht⟩ (sX11_callIn l G cs h q (upd (upd F 17 x7) 18 x8) (vA (vA (vA A 1 g18) 15 g9) 16 g10) D B (IM_arr (k := 16) (IM_arr (k := 15) (IM_arr (k := 1) (IM_put (k := 18) (IM_put (k := 17) hI (i32b _)) (i32b _)) hg18) (fun _ => i32b _)) (fun _ => i32b _)) a1 0 (by omega) (by decide)) okV_RX11_264 ⟨by decide, by decide⟩ hK hP hD [0, 1, 2, 3, 4, 5, 6, 7, 8, 9, 10, 11, 12, 13, 14, 15, 16, 17, 18, 19] rfl (by decide) rfl 0 rfl rfl hl.1 rfl (Nat.le_of_ble_eq_true rfl) dX11_call_61 ⟨(Nat.le_of_ble_eq_true rfl), (Nat.le_of_ble_eq_true rfl)⟩) hP hD hS hA [0, 1, 2, 3, 4, 5, 6, 7, 8, 9, 10, 11, 12, 13, 14, 15, 16, 17, 18, 19] [] rfl rfl (by decide) (by decide) (fun r9 u H locs hu hP hD hS => ?_)
      obtain ⟨x19, g20⟩ := u
      obtain ⟨r21, rfl⟩ : ∃ z, z = r9 := ⟨_, rfl⟩
      have hr21 := hu
      have hP : va_P G vwCl (mS cs h q (upd (upd F 17 x7) 18 x19) (vA (vA (vA A 1 g18) 15 g20) 16 g10) D B) H := hP
      have hD : va_D A0 (mS cs h q (upd (upd F 17 x7) 18 x19) (vA (vA (vA A 1 g18) 15 g20) 16 g10) D B) := hD
      exact retDi (x7, x19, g18, g20, g10) hx hb hr hlk hP hD hS dX11_call_64 (⟨hg18, (WGe (WGe hWG eg14 ((fun j => hI.2 1 j) 5).2 (by have y9 := clK (i := v13) rfl (by omega); omega)) eg18 (hg14 5).2 (by decide))⟩) (Nat.le_of_ble_eq_true rfl) (Nat.le_of_ble_eq_true rfl)
    · have zc6 := eqK rfl (show (60 : Int32).toInt = 60 by decide) c6
      refine lv_bipush (v := (-5)) hx hb dX11_call_24 (by decide) ?_
      exact retDi ((F 17), (F 18), (A 1), (A 15), (A 16)) hx hb hr hlk hP hD hS dX11_call_26 (⟨fun j => hI.2 1 j, hWG⟩) (Nat.le_of_ble_eq_true rfl) (Nat.le_of_ble_eq_true rfl)
  · have zc4 := eqK rfl (show (0 : Int32).toInt = 0 by decide) c4
    refine lv_bipush (v := (-2)) hx hb dX11_call_9 (by decide) ?_
    exact retDi ((F 17), (F 18), (A 1), (A 15), (A 16)) hx hb hr hlk hP hD hS dX11_call_11 (⟨fun j => hI.2 1 j, hWG⟩) (Nat.le_of_ble_eq_true rfl) (Nat.le_of_ble_eq_true rfl)

set_option maxRecDepth 100000 in
set_option maxHeartbeats 8000000 in
theorem sX11_undo (l : Launch) (G : va_G) (cs : Nat → ClassId) (h : Nat) (q : Nat → Nat) (F : Nat → Int32) (A : Nat → Nat → Int32) (D : Int64) (B : Nat → Nat → Int64) (hI : IM F A) (hWG : WG (A 1)) : ImpI l yX11_undo cX11_undo 1 (some .int) 1 0 0 G (TY cs) [.ref h] (mS cs h q F A D B) (fun (r : Int32) (u : (Nat → Int32)) => AI 1 u ∧ (WG u)) (fun u : (Nat → Int32) => (mS cs h q F (vA A 1 u) D B)) := by
  refine mkD (Qc := (QDi G (fun (r : Int32) (u : (Nat → Int32)) => AI 1 u ∧ (WG u)) (fun u : (Nat → Int32) => (mS cs h q F (vA A 1 u) D B)))) (by decide) (by simp [lg_sl, Value.category]) ?_
  intro p e s m args below meth c ls A0 hx hb hml hr hlk hown hmn ht hK hP hD hS hA hl
  have hl : lv_has ls 1 [(0, .ref h)] := hl
  refine lv_aload_n hx hb dX11_undo_0 rfl (lv_at hl 0 rfl) ?_
  refine behR (runVP (As := []) (rest := []) ⟨hx, hb, hml, hown, ht⟩ (sX11_isHouse l G cs h q F A D B hI  ) okV_RX11_83 ⟨by decide, by decide⟩ hK hP [0, 1, 2, 3, 4, 5, 6, 7, 8, 9, 10, 11, 12, 13, 14, 15, 16, 17, 18, 19] rfl 0 rfl rfl hl.1 rfl (Nat.le_of_ble_eq_true rfl) dX11_undo_1 ⟨by decide, by decide⟩) hP hS hA (fun r1 H locs hr1 hP hS => ?_)
  have hr1 : (0 : Int) ≤ r1.toInt ∧ r1.toInt ≤ 1 := hr1
  refine lv_if_ne (tgt := 10) hx hb dX11_undo_4 (by decide) (fun c2 => ?_) (fun c2 => ?_)
  · have zc2 := neK rfl (show (0 : Int32).toInt = 0 by decide) c2
    refine lv_aload_n hx hb dX11_undo_10 rfl (lv_at hl 0 rfl) ?_
    refine getF (v := .ref (q 1)) hx hb ht hown hK hP iTX11 0 1 rfl rfl (by decide) fl_RX11_9 rfl dX11_undo_11 ?_
    refine lv_bipush (v := 7) hx hb dX11_undo_14 (by decide) ?_
    refine va_iald hx hb hK.1 hP 1 0 rfl rfl (show ¬ (_ ∨ _) by decide) dX11_undo_16 ?_
    refine W.eq (g2 := F0 m 17 ls [.int (A 1 7)]) rfl ?_
    have zf3 : (0 : Int) ≤ (A 1 7).toInt ∧ (A 1 7).toInt ≤ 60 := (hI.2 1 7)
    refine lv_if_ne (tgt := 23) hx hb dX11_undo_17 (by decide) (fun c4 => ?_) (fun c4 => ?_)
    · have zc4 := neK rfl (show (0 : Int32).toInt = 0 by decide) c4
      refine lv_aload_n hx hb dX11_undo_23 rfl (lv_at hl 0 rfl) ?_
      refine getF (v := .ref (q 1)) hx hb ht hown hK hP iTX11 0 1 rfl rfl (by decide) fl_RX11_9 rfl dX11_undo_24 ?_
      refine lv_bipush (v := 7) hx hb dX11_undo_27 (by decide) ?_
      refine lv_dup2_11 hx hb dX11_undo_29 rfl rfl ?_
      refine va_iald hx hb hK.1 hP 1 0 rfl rfl (show ¬ (_ ∨ _) by decide) dX11_undo_30 ?_
      refine W.eq (g2 := F0 m 31 ls [.int (A 1 7), .int 7, .ref (q 1)]) rfl ?_
      have zf5 : (0 : Int) ≤ (A 1 7).toInt ∧ (A 1 7).toInt ≤ 60 := (hI.2 1 7)
      refine lv_iconst (v := 1) hx hb dX11_undo_31 (by decide) ?_
      refine lv_isub hx hb dX11_undo_32 ?_
      refine lv_topi (fun v6 ev6 => ?_)
      have tv6 : v6.toInt = (A 1 7).toInt - 1 := by rw [ev6]; exact subT rfl (show (1 : Int32).toInt = 1 by decide) (by omega)
      refine va_iast hx hb hK.1 hP hD hS 1 0 rfl rfl (show ¬ (_ ∨ _) by decide) dX11_undo_33 (fun H locs hP hD hS => ?_)
      have hP : va_P G vwCl (mS cs h q F (vA A 1 (upd (A 1) (7 : Int32).toNatClampNeg v6)) D B) H := hP
      have hD : va_D A0 (mS cs h q F (vA A 1 (upd (A 1) (7 : Int32).toNatClampNeg v6)) D B) := hD
      obtain ⟨g7, eg7⟩ : ∃ z : Nat → Int32, z = upd (A 1) (7 : Int32).toNatClampNeg v6 := ⟨_, rfl⟩
      rw [← eg7] at hP hD
      have hg7 : AI 1 g7 := by rw [eg7]; exact AI_upd (fun j => hI.2 1 j) (show (0 : Int) ≤ v6.toInt ∧ v6.toInt ≤ 60 by omega)
      refine lv_aload_n hx hb dX11_undo_34 rfl (lv_at hl 0 rfl) ?_
      refine getF (v := .ref (q 1)) hx hb ht hown hK hP iTX11 0 1 rfl rfl (by decide) fl_RX11_9 rfl dX11_undo_35 ?_
      refine lv_bipush (v := 7) hx hb dX11_undo_38 (by decide) ?_
      refine va_iald hx hb hK.1 hP 1 0 rfl rfl (show ¬ (_ ∨ _) by decide) dX11_undo_40 ?_
      refine W.eq (g2 := F0 m 41 ls [.int (g7 7)]) rfl ?_
      have zf8 : (0 : Int) ≤ (g7 7).toInt ∧ (g7 7).toInt ≤ 60 := (hg7 7)
      exact retDi g7 hx hb hr hlk hP hD hS dX11_undo_41 (⟨hg7, (WGe hWG eg7 ((fun j => hI.2 1 j) 5).2 (by decide))⟩) (Nat.le_of_ble_eq_true rfl) (Nat.le_of_ble_eq_true rfl)
    · have zc4 := eqK rfl (show (0 : Int32).toInt = 0 by decide) c4
      refine lv_bipush (v := (-5)) hx hb dX11_undo_20 (by decide) ?_
      exact retDi (A 1) hx hb hr hlk hP hD hS dX11_undo_22 (⟨fun j => hI.2 1 j, hWG⟩) (Nat.le_of_ble_eq_true rfl) (Nat.le_of_ble_eq_true rfl)
  · have zc2 := eqK rfl (show (0 : Int32).toInt = 0 by decide) c2
    refine lv_bipush (v := (-2)) hx hb dX11_undo_7 (by decide) ?_
    exact retDi (A 1) hx hb hr hlk hP hD hS dX11_undo_9 (⟨fun j => hI.2 1 j, hWG⟩) (Nat.le_of_ble_eq_true rfl) (Nat.le_of_ble_eq_true rfl)

set_option maxRecDepth 100000 in
set_option maxHeartbeats 8000000 in
theorem sX11_anew (l : Launch) (G : va_G) (cs : Nat → ClassId) (h : Nat) (q : Nat → Nat) (F : Nat → Int32) (A : Nat → Nat → Int32) (D : Int64) (B : Nat → Nat → Int64) (hI : IM F A) (hWG : WG (A 1)) : ImpI l yX11_anew cX11_anew 2 (some .int) 1 0 0 G (TY cs) [.ref h] (mS cs h q F A D B) (fun (r : Int32) (u : (Nat → Int32)) => AI 1 u ∧ (WG u)) (fun u : (Nat → Int32) => (mS cs h q F (vA A 1 u) D B)) := by
  refine mkD (Qc := (QDi G (fun (r : Int32) (u : (Nat → Int32)) => AI 1 u ∧ (WG u)) (fun u : (Nat → Int32) => (mS cs h q F (vA A 1 u) D B)))) (by decide) (by simp [lg_sl, Value.category]) ?_
  intro p e s m args below meth c ls A0 hx hb hml hr hlk hown hmn ht hK hP hD hS hA hl
  have hl : lv_has ls 2 [(0, .ref h)] := hl
  refine lv_aload_n hx hb dX11_anew_0 rfl (lv_at hl 0 rfl) ?_
  refine behR (runVP (As := []) (rest := []) ⟨hx, hb, hml, hown, ht⟩ (sX11_isHouse l G cs h q F A D B hI  ) okV_RX11_83 ⟨by decide, by decide⟩ hK hP [0, 1, 2, 3, 4, 5, 6, 7, 8, 9, 10, 11, 12, 13, 14, 15, 16, 17, 18, 19] rfl 0 rfl rfl hl.1 rfl (Nat.le_of_ble_eq_true rfl) dX11_anew_1 ⟨by decide, by decide⟩) hP hS hA (fun r1 H locs hr1 hP hS => ?_)
  have hr1 : (0 : Int) ≤ r1.toInt ∧ r1.toInt ≤ 1 := hr1
  refine lv_if_ne (tgt := 10) hx hb dX11_anew_4 (by decide) (fun c2 => ?_) (fun c2 => ?_)
  · have zc2 := neK rfl (show (0 : Int32).toInt = 0 by decide) c2
    refine lv_aload_n hx hb dX11_anew_10 rfl (lv_at hl 0 rfl) ?_
    refine getF (v := .ref (q 1)) hx hb ht hown hK hP iTX11 0 1 rfl rfl (by decide) fl_RX11_9 rfl dX11_anew_11 ?_
    refine lv_bipush (v := 7) hx hb dX11_anew_14 (by decide) ?_
    refine va_iald hx hb hK.1 hP 1 0 rfl rfl (show ¬ (_ ∨ _) by decide) dX11_anew_16 ?_
    refine W.eq (g2 := F0 m 17 ls [.int (A 1 7)]) rfl ?_
    have zf3 : (0 : Int) ≤ (A 1 7).toInt ∧ (A 1 7).toInt ≤ 60 := (hI.2 1 7)
    refine lv_istore_n (lv' := [(1, .int (A 1 7)), (0, .ref h)]) hx hb dX11_anew_17 rfl hl (by decide) rfl (fun ls hl => ?_)
    refine lv_aload_n hx hb dX11_anew_18 rfl (lv_at hl 1 rfl) ?_
    refine getF (v := .ref (q 1)) hx hb ht hown hK hP iTX11 0 1 rfl rfl (by decide) fl_RX11_9 rfl dX11_anew_19 ?_
    refine lv_bipush (v := 7) hx hb dX11_anew_22 (by decide) ?_
    refine lv_iconst (v := 0) hx hb dX11_anew_24 (by decide) ?_
    refine va_iast hx hb hK.1 hP hD hS 1 0 rfl rfl (show ¬ (_ ∨ _) by decide) dX11_anew_25 (fun H locs hP hD hS => ?_)
    have hP : va_P G vwCl (mS cs h q F (vA A 1 (upd (A 1) (7 : Int32).toNatClampNeg (0 : Int32))) D B) H := hP
    have hD : va_D A0 (mS cs h q F (vA A 1 (upd (A 1) (7 : Int32).toNatClampNeg (0 : Int32))) D B) := hD
    obtain ⟨g4, eg4⟩ : ∃ z : Nat → Int32, z = upd (A 1) (7 : Int32).toNatClampNeg (0 : Int32) := ⟨_, rfl⟩
    rw [← eg4] at hP hD
    have hg4 : AI 1 g4 := by rw [eg4]; exact AI_upd (fun j => hI.2 1 j) (by decide)
    refine lv_iload_n hx hb dX11_anew_26 rfl (lv_at hl 0 rfl) ?_
    exact retDi g4 hx hb hr hlk hP hD hS dX11_anew_27 (⟨hg4, (WGe hWG eg4 ((fun j => hI.2 1 j) 5).2 (by decide))⟩) (Nat.le_of_ble_eq_true rfl) (Nat.le_of_ble_eq_true rfl)
  · have zc2 := eqK rfl (show (0 : Int32).toInt = 0 by decide) c2
    refine lv_bipush (v := (-2)) hx hb dX11_anew_7 (by decide) ?_
    exact retDi (A 1) hx hb hr hlk hP hD hS dX11_anew_9 (⟨fun j => hI.2 1 j, hWG⟩) (Nat.le_of_ble_eq_true rfl) (Nat.le_of_ble_eq_true rfl)

