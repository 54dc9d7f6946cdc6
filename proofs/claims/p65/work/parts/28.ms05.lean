set_option maxRecDepth 100000 in
set_option maxHeartbeats 8000000 in
theorem sX11_later (l : Launch) (G : va_G) (cs : Nat → ClassId) (h : Nat) (q : Nat → Nat) (F : Nat → Int32) (A : Nat → Nat → Int32) (D : Int64) (B : Nat → Nat → Int64) (hI : IM F A) (a1 : Int32) (a2 : Int32) : ImpI l yX11_later cX11_later 4 (some .int) 5 0 0 G (TY cs) [.ref h, .int a1, .int a2] (mS cs h q F A D B) (fun (r : Int32) (u : Int32 × Int32 × (Nat → Int32) × (Nat → Int32)) => True) (fun u : Int32 × Int32 × (Nat → Int32) × (Nat → Int32) => (mS cs h q (upd (upd F 17 u.1) 18 u.2.1) (vA (vA A 15 u.2.2.1) 16 u.2.2.2) D B)) := by
  refine mkD (Qc := (QDi G (fun (r : Int32) (u : Int32 × Int32 × (Nat → Int32) × (Nat → Int32)) => True) (fun u : Int32 × Int32 × (Nat → Int32) × (Nat → Int32) => (mS cs h q (upd (upd F 17 u.1) 18 u.2.1) (vA (vA A 15 u.2.2.1) 16 u.2.2.2) D B)))) (by decide) (by simp [lg_sl, Value.category]) ?_
  intro p e s m args below meth c ls A0 hx hb hml hr hlk hown hmn ht hK hP hD hS hA hl
  have hl : lv_has ls 4 [(0, .ref h), (1, .int a1), (2, .int a2)] := hl
  refine lv_aload_n hx hb dX11_later_0 rfl (lv_at hl 0 rfl) ?_
  refine lv_iload_n hx hb dX11_later_1 rfl (lv_at hl 1 rfl) ?_
  refine lv_i2l hx hb dX11_later_2 rfl ?_
  have bb1 := i32b a1
  refine lv_topl (fun v2 ev2 => ?_)
  have tv2 : v2.toInt = a1.toInt := by rw [ev2]; exact Int32.toInt_toInt64 _
  refine behR (runVP (As := [.long v2]) (rest := []) ⟨hx, hb, hml, hown, ht⟩ (sX11_isRoomOrNone l G cs h q F A D B hI v2 ) okV_RX11_275 ⟨by decide, by decide⟩ hK hP [0, 1, 2, 3, 4, 5, 6, 7, 8, 9, 10, 11, 12, 13, 14, 15, 16, 17, 18, 19] rfl 0 rfl rfl hl.1 rfl (Nat.le_of_ble_eq_true rfl) dX11_later_3 ⟨by decide, by decide⟩) hP hS hA (fun r3 H locs hr3 hP hS => ?_)
  have hr3 : (r3.toInt = 1 ∧ -1 ≤ v2.toInt ∧ v2.toInt ≤ 6) ∨ r3.toInt = 0 := hr3
  refine lv_if_eq (tgt := 21) hx hb dX11_later_6 (by decide) (fun c4 => ?_) (fun c4 => ?_)
  · have zc4 := eqK rfl (show (0 : Int32).toInt = 0 by decide) c4
    refine lv_bipush (v := (-2)) hx hb dX11_later_21 (by decide) ?_
    exact retDi ((F 17), (F 18), (A 15), (A 16)) hx hb hr hlk hP hD hS dX11_later_23 (trivial) (Nat.le_of_ble_eq_true rfl) (Nat.le_of_ble_eq_true rfl)
  · have zc4 := neK rfl (show (0 : Int32).toInt = 0 by decide) c4
    refine lv_iload_n hx hb dX11_later_9 rfl (lv_at hl 2 rfl) ?_
    refine lv_i2l hx hb dX11_later_10 rfl ?_
    have bb5 := i32b a2
    refine lv_topl (fun v6 ev6 => ?_)
    have tv6 : v6.toInt = a2.toInt := by rw [ev6]; exact Int32.toInt_toInt64 _
    refine lv_lconst (v := 0) hx hb dX11_later_11 (by decide) ?_
    refine lv_ldc2 hx hb hown (ht _ kl_RX11_284) dX11_later_12 ?_
    refine behR (runSP (As := [.long v6, .long 0, .long 200]) (rest := []) ⟨hx, hb, hml, hown, ht⟩ (sX11_in l G cs v6 0 200 ) okS_RX11_79 ⟨by decide, by decide⟩ hK hP [] rfl hl.1 rfl (Nat.le_of_ble_eq_true rfl) dX11_later_15 ⟨by decide, by decide⟩) hP hS hA (fun r7 H locs hr7 hP hS => ?_)
    have kk8 : (0 : Int64).toInt = 0 := by decide
    have kk9 : (200 : Int64).toInt = 200 := by decide
    have hr7 : (r7.toInt = 1 ∧ (0 : Int64).toInt ≤ v6.toInt ∧ v6.toInt ≤ (200 : Int64).toInt) ∨ (r7.toInt = 0 ∧ (v6.toInt < (0 : Int64).toInt ∨ (200 : Int64).toInt < v6.toInt)) := hr7
    refine lv_if_ne (tgt := 24) hx hb dX11_later_18 (by decide) (fun c10 => ?_) (fun c10 => ?_)
    · have zc10 := neK rfl (show (0 : Int32).toInt = 0 by decide) c10
      refine lv_aload_n hx hb dX11_later_24 rfl (lv_at hl 0 rfl) ?_
      refine behDw (wr := []) (runVD (As := []) (rest := []) ⟨hx, hb, hml, hown, ht⟩ (sX11_asItIs l G cs h q F A D B hI  ) okV_RX11_278 ⟨by decide, by decide⟩ hK hP hD [0, 1, 2, 3, 4, 5, 6, 7, 8, 9, 10, 11, 12, 13, 14, 15, 16, 17, 18, 19] rfl (by decide) rfl 0 rfl rfl hl.1 rfl (Nat.le_of_ble_eq_true rfl) dX11_later_25 ⟨(Nat.le_of_ble_eq_true rfl), (Nat.le_of_ble_eq_true rfl)⟩) hP hD hS hA [0, 1, 2, 3, 4, 5, 6, 7, 8, 9, 10, 11, 12, 13, 14, 15, 16, 17, 18, 19] [] rfl rfl (by decide) (by decide) (fun u H locs hu hP hD hS => ?_)
      obtain ⟨x11, x12, g13, g14⟩ := u
      have hr15 := hu
      have hP : va_P G vwCl (mS cs h q (upd (upd F 17 x11) 18 x12) (vA (vA A 15 g13) 16 g14) D B) H := hP
      have hD : va_D A0 (mS cs h q (upd (upd F 17 x11) 18 x12) (vA (vA A 15 g13) 16 g14) D B) := hD
      refine lv_iconst (v := 0) hx hb dX11_later_28 (by decide) ?_
      refine lv_istore_n (lv' := [(3, .int 0), (0, .ref h), (1, .int a1), (2, .int a2)]) hx hb dX11_later_29 rfl hl (by decide) rfl (fun ls hl => ?_)
      have B30 : ∀ (n : Nat) (x30_3 : Int32) (a15_30 : (Nat → Int32)) (a16_30 : (Nat → Int32)) (H : Heap) (locs : List Loc) (ls : Array Slot), (200 - x30_3.toInt).toNat < n → (0 : Int) ≤ x30_3.toInt ∧ x30_3.toInt ≤ 200 → va_P G vwCl (mS cs h q (upd (upd F 17 x11) 18 x12) (vA (vA A 15 a15_30) 16 a16_30) D B) H → va_D A0 (mS cs h q (upd (upd F 17 x11) 18 x12) (vA (vA A 15 a15_30) 16 a16_30) D B) → va_S A0 s.heap H locs → lv_has ls 4 [(0, .ref h), (1, .int a1), (2, .int a2), (3, .int x30_3)] → W p l e (rmk 5 0 0) s m args below meth c H locs 0 0 (MQ below ((QDi G (fun (r : Int32) (u : Int32 × Int32 × (Nat → Int32) × (Nat → Int32)) => True) (fun u : Int32 × Int32 × (Nat → Int32) × (Nat → Int32) => (mS cs h q (upd (upd F 17 u.1) 18 u.2.1) (vA (vA A 15 u.2.2.1) 16 u.2.2.2) D B))) A0) args s 0 0 A0) (F0 m 30 ls []) := by
        intro n
        induction n with
        | zero => intro x30_3 a15_30 a16_30 H locs ls hmeas hx30_3 hP hD hS hl; exact absurd hmeas (Nat.not_lt_zero _)
        | succ n ih30 =>
          intro x30_3 a15_30 a16_30 H locs ls hmeas hx30_3 hP hD hS hl
          refine lv_iload_n hx hb dX11_later_30 rfl (lv_at hl 3 rfl) ?_
          refine lv_iload_n hx hb dX11_later_31 rfl (lv_at hl 2 rfl) ?_
          refine lv_icmp_ge (tgt := 46) hx hb dX11_later_32 (by decide) (fun c16001 => ?_) (fun c16001 => ?_)
          · have zc16001 := leK rfl rfl c16001
            refine lv_iload_n hx hb dX11_later_46 rfl (lv_at hl 1 rfl) ?_
            refine lv_iconst (v := (-1)) hx hb dX11_later_47 (by decide) ?_
            refine lv_icmp_ne (tgt := 58) hx hb dX11_later_48 (by decide) (fun c16002 => ?_) (fun c16002 => ?_)
            · have zc16002 := neK rfl (show (-1 : Int32).toInt = (-1) by decide) c16002
              refine lv_aload_n hx hb dX11_later_58 rfl (lv_at hl 0 rfl) ?_
              refine getF (v := .ref (q 15)) hx hb ht hown hK hP iTX11 0 15 rfl rfl (by decide) fl_RX11_34 rfl dX11_later_59 ?_
              refine lv_iload_n hx hb dX11_later_62 rfl (lv_at hl 1 rfl) ?_
              refine va_iald hx hb hK.1 hP 7 0 rfl rfl (inK rfl (by omega) (by decide)) dX11_later_63 ?_
              refine lv_topi (fun v16003 ev16003 => ?_)
              exact retDi (x11, x12, a15_30, a16_30) hx hb hr hlk hP hD hS dX11_later_64 (trivial) (Nat.le_of_ble_eq_true rfl) (Nat.le_of_ble_eq_true rfl)
            · have zc16002 := eqK rfl (show (-1 : Int32).toInt = (-1) by decide) c16002
              refine lv_aload_n hx hb dX11_later_51 rfl (lv_at hl 0 rfl) ?_
              refine getF (v := .int x11) hx hb ht hown hK hP iTX11 0 17 rfl rfl (by decide) fl_RX11_246 rfl dX11_later_52 ?_
              refine lv_goto (tgt := 64) hx hb dX11_later_55 (by decide) ?_
              exact retDi (x11, x12, a15_30, a16_30) hx hb hr hlk hP hD hS dX11_later_64 (trivial) (Nat.le_of_ble_eq_true rfl) (Nat.le_of_ble_eq_true rfl)
          · have zc16001 := nleK rfl rfl c16001
            refine lv_aload_n hx hb dX11_later_35 rfl (lv_at hl 0 rfl) ?_
            refine lv_iconst (v := (-1)) hx hb dX11_later_36 (by decide) ?_
            refine behDw (wr := []) (runVD (As := [.int (-1)]) (rest := []) ⟨hx, hb, hml, hown, ht⟩ (sX11_goMinute l G cs h q (upd (upd F 17 x11) 18 x12) (vA (vA A 15 a15_30) 16 a16_30) D B (IM_arr (k := 16) (IM_arr (k := 15) (IM_put (k := 18) (IM_put (k := 17) hI (i32b _)) (i32b _)) (fun _ => i32b _)) (fun _ => i32b _)) (-1) ) okV_RX11_267 ⟨by decide, by decide⟩ hK hP hD [0, 1, 2, 3, 4, 5, 6, 7, 8, 9, 10, 11, 12, 13, 14, 15, 16, 17, 18, 19] rfl (by decide) rfl 0 rfl rfl hl.1 rfl (Nat.le_of_ble_eq_true rfl) dX11_later_37 ⟨(Nat.le_of_ble_eq_true rfl), (Nat.le_of_ble_eq_true rfl)⟩) hP hD hS hA [0, 1, 2, 3, 4, 5, 6, 7, 8, 9, 10, 11, 12, 13, 14, 15, 16, 17, 18, 19] [] rfl rfl (by decide) (by decide) (fun u H locs hu hP hD hS => ?_)
            obtain ⟨g16004, g16005⟩ := u
            have hr16006 := hu
            have hP : va_P G vwCl (mS cs h q (upd (upd F 17 x11) 18 x12) (vA (vA A 15 g16004) 16 g16005) D B) H := hP
            have hD : va_D A0 (mS cs h q (upd (upd F 17 x11) 18 x12) (vA (vA A 15 g16004) 16 g16005) D B) := hD
            obtain ⟨v16007, ev16007⟩ : ∃ z : Int32, z = x30_3 + 1 := ⟨_, rfl⟩
            have tv16007 : v16007.toInt = x30_3.toInt + 1 := by rw [ev16007]; exact addT rfl (by decide) (by omega)
            refine lv_iinc (v := v16007) (lv' := [(3, .int v16007), (0, .ref h), (1, .int a1), (2, .int a2)]) hx hb dX11_later_40 hl (k := 3) rfl (by rw [ev16007]; rfl) (by decide) rfl (fun ls hl => ?_)
            refine lv_goto (tgt := 30) hx hb dX11_later_43 (by decide) ?_
            exact ih30 v16007 g16004 g16005 H locs ls (by omega) (by omega) hP hD hS (lv_sub hl [1, 2, 3, 0] rfl)
      exact B30 _ 0 g13 g14 H locs ls (Nat.lt_succ_self _) (by decide) hP hD hS (lv_sub hl [1, 2, 3, 0] rfl)
    · have zc10 := eqK rfl (show (0 : Int32).toInt = 0 by decide) c10
      refine lv_bipush (v := (-2)) hx hb dX11_later_21 (by decide) ?_
      exact retDi ((F 17), (F 18), (A 15), (A 16)) hx hb hr hlk hP hD hS dX11_later_23 (trivial) (Nat.le_of_ble_eq_true rfl) (Nat.le_of_ble_eq_true rfl)

set_option maxRecDepth 100000 in
set_option maxHeartbeats 8000000 in
theorem sX11_numberAt (l : Launch) (G : va_G) (cs : Nat → ClassId) (h : Nat) (q : Nat → Nat) (F : Nat → Int32) (A : Nat → Nat → Int32) (D : Int64) (B : Nat → Nat → Int64) (hI : IM F A) (a1 : Int32) (a2 : Int32) (ha1 : (0 : Int) ≤ a1.toInt ∧ a1.toInt ≤ 3) (ha2 : (0 : Int) ≤ a2.toInt ∧ a2.toInt ≤ 59) : SafeL l yX11_numberAt cX11_numberAt 3 (some .long) 0 G (TY cs) [.ref h, .int a1, .int a2] (mS cs h q F A D B) (fun r : Int64 => r = B 33 (60 * a1.toNatClampNeg + a2.toNatClampNeg)) := by
  refine mkP (Qc := QRl (fun r : Int64 => r = B 33 (60 * a1.toNatClampNeg + a2.toNatClampNeg))) (by decide) (by simp [lg_sl, Value.category]) ?_
  intro p e s m args below meth c ls hx hb hml hr hlk hown ht hK hP hS hl
  have hl : lv_has ls 3 [(0, .ref h), (1, .int a1), (2, .int a2)] := hl
  refine lv_aload_n hx hb dX11_numberAt_0 rfl (lv_at hl 0 rfl) ?_
  refine getF (v := .ref (q 33)) hx hb ht hown hK hP iTX11 0 33 rfl rfl (by decide) fl_RX11_67 rfl dX11_numberAt_1 ?_
  refine lv_bipush (v := 60) hx hb dX11_numberAt_4 (by decide) ?_
  refine lv_iload_n hx hb dX11_numberAt_6 rfl (lv_at hl 1 rfl) ?_
  refine lv_imul hx hb dX11_numberAt_7 ?_
  refine lv_topi (fun v1 ev1 => ?_)
  have tv1 : v1.toInt = 60 * a1.toInt := by rw [ev1]; exact mulT (show (60 : Int32).toInt = 60 by decide) rfl (by omega)
  refine lv_iload_n hx hb dX11_numberAt_8 rfl (lv_at hl 2 rfl) ?_
  refine lv_iadd hx hb dX11_numberAt_9 ?_
  refine lv_topi (fun v2 ev2 => ?_)
  have tv2 : v2.toInt = v1.toInt + a2.toInt := by rw [ev2]; exact addT rfl rfl (by omega)
  refine va_lald hx hb hK.1 hP 18 2 rfl rfl (inK rfl (by omega) (by decide)) dX11_numberAt_10 ?_
  refine lv_topl (fun v3 ev3 => ?_)
  exact retRl hx hb hr hlk hS dX11_numberAt_11 (show v3 = B 33 (60 * a1.toNatClampNeg + a2.toNatClampNeg) from by rw [ev3]; exact congrArg (B 33) (by have y1 := clK (i := v2) rfl (by omega); have y2 := clK (i := a1) rfl (by omega); have y3 := clK (i := a2) rfl (by omega); omega))

set_option maxRecDepth 100000 in
set_option maxHeartbeats 8000000 in
theorem sX11_roomAt (l : Launch) (G : va_G) (cs : Nat → ClassId) (h : Nat) (q : Nat → Nat) (F : Nat → Int32) (A : Nat → Nat → Int32) (D : Int64) (B : Nat → Nat → Int64) (hI : IM F A) (a1 : Int32) (a2 : Int32) (ha1 : (0 : Int) ≤ a1.toInt ∧ a1.toInt ≤ 3) (ha2 : (0 : Int) ≤ a2.toInt ∧ a2.toInt ≤ 59) : SafeR l yX11_roomAt cX11_roomAt 3 (some .int) 1 G (TY cs) [.ref h, .int a1, .int a2] (mS cs h q F A D B) (fun r : Int32 => r = (B 33 (60 * a1.toNatClampNeg + a2.toNatClampNeg)).toInt32) := by
  refine mkP (Qc := QRi (fun r : Int32 => r = (B 33 (60 * a1.toNatClampNeg + a2.toNatClampNeg)).toInt32)) (by decide) (by simp [lg_sl, Value.category]) ?_
  intro p e s m args below meth c ls hx hb hml hr hlk hown ht hK hP hS hl
  have hl : lv_has ls 3 [(0, .ref h), (1, .int a1), (2, .int a2)] := hl
  refine lv_aload_n hx hb dX11_roomAt_0 rfl (lv_at hl 0 rfl) ?_
  refine lv_iload_n hx hb dX11_roomAt_1 rfl (lv_at hl 1 rfl) ?_
  refine lv_iload_n hx hb dX11_roomAt_2 rfl (lv_at hl 2 rfl) ?_
  refine behRL (runVP (As := [.int a1, .int a2]) (rest := []) ⟨hx, hb, hml, hown, ht⟩ (sX11_numberAt l G cs h q F A D B hI a1 a2 (by omega) (by omega)) okV_RX11_286 ⟨by decide, by decide⟩ hK hP [0, 1, 2, 3, 4, 5, 6, 7, 8, 9, 10, 11, 12, 13, 14, 15, 16, 17, 18, 19] rfl 0 rfl rfl hl.1 rfl (Nat.le_of_ble_eq_true rfl) dX11_roomAt_3 ⟨by decide, by decide⟩) hP hS (fun _ h => h) (fun r1 H locs hr1 hP hS => ?_)
  have hr1 : r1 = B 33 (60 * a1.toNatClampNeg + a2.toNatClampNeg) := hr1
  refine lv_l2i hx hb dX11_roomAt_6 rfl ?_
  refine lv_topi (fun v2 ev2 => ?_)
  exact retRi hx hb hr hlk hS dX11_roomAt_7 (show v2 = _ from by rw [ev2, hr1])

set_option maxRecDepth 100000 in
set_option maxHeartbeats 8000000 in
theorem sX11_goRound (l : Launch) (G : va_G) (cs : Nat → ClassId) (h : Nat) (q : Nat → Nat) (F : Nat → Int32) (A : Nat → Nat → Int32) (D : Int64) (B : Nat → Nat → Int64) (hI : IM F A) (a1 : Int32) (a2 : Int32) (a3 : Int32) (ha1 : (0 : Int) ≤ a1.toInt ∧ a1.toInt ≤ 3) (ha2 : (0 : Int) ≤ a2.toInt ∧ a2.toInt ≤ 60) (ha3 : (0 : Int) ≤ a3.toInt ∧ a3.toInt ≤ 9) (hRV : RV B a1 a2.toInt) : ImpI l yX11_goRound cX11_goRound 6 (some .int) 5 0 0 G (TY cs) [.ref h, .int a1, .int a2, .int a3] (mS cs h q F A D B) (fun (r : Int32) (u : Int32 × Int32 × (Nat → Int32) × (Nat → Int32)) => True) (fun u : Int32 × Int32 × (Nat → Int32) × (Nat → Int32) => (mS cs h q (upd (upd F 17 u.1) 18 u.2.1) (vA (vA A 15 u.2.2.1) 16 u.2.2.2) D B)) := by
  refine mkD (Qc := (QDi G (fun (r : Int32) (u : Int32 × Int32 × (Nat → Int32) × (Nat → Int32)) => True) (fun u : Int32 × Int32 × (Nat → Int32) × (Nat → Int32) => (mS cs h q (upd (upd F 17 u.1) 18 u.2.1) (vA (vA A 15 u.2.2.1) 16 u.2.2.2) D B)))) (by decide) (by simp [lg_sl, Value.category]) ?_
  intro p e s m args below meth c ls A0 hx hb hml hr hlk hown hmn ht hK hP hD hS hA hl
  have hl : lv_has ls 6 [(0, .ref h), (1, .int a1), (2, .int a2), (3, .int a3)] := hl
  refine lv_aload_n hx hb dX11_goRound_0 rfl (lv_at hl 0 rfl) ?_
  refine behDw (wr := []) (runVD (As := []) (rest := []) ⟨hx, hb, hml, hown, ht⟩ (sX11_asItIs l G cs h q F A D B hI  ) okV_RX11_278 ⟨by decide, by decide⟩ hK hP hD [0, 1, 2, 3, 4, 5, 6, 7, 8, 9, 10, 11, 12, 13, 14, 15, 16, 17, 18, 19] rfl (by decide) rfl 0 rfl rfl hl.1 rfl (Nat.le_of_ble_eq_true rfl) dX11_goRound_1 ⟨(Nat.le_of_ble_eq_true rfl), (Nat.le_of_ble_eq_true rfl)⟩) hP hD hS hA [0, 1, 2, 3, 4, 5, 6, 7, 8, 9, 10, 11, 12, 13, 14, 15, 16, 17, 18, 19] [] rfl rfl (by decide) (by decide) (fun u H locs hu hP hD hS => ?_)
  obtain ⟨x1, x2, g3, g4⟩ := u
  have hr5 := hu
  have hP : va_P G vwCl (mS cs h q (upd (upd F 17 x1) 18 x2) (vA (vA A 15 g3) 16 g4) D B) H := hP
  have hD : va_D A0 (mS cs h q (upd (upd F 17 x1) 18 x2) (vA (vA A 15 g3) 16 g4) D B) := hD
  refine lv_iconst (v := 0) hx hb dX11_goRound_4 (by decide) ?_
  refine lv_istore (lv' := [(4, .int 0), (0, .ref h), (1, .int a1), (2, .int a2), (3, .int a3)]) hx hb dX11_goRound_5 hl (by decide) rfl (fun ls hl => ?_)
  refine lv_iconst (v := 0) hx hb dX11_goRound_7 (by decide) ?_
  refine lv_istore (lv' := [(5, .int 0), (4, .int 0), (0, .ref h), (1, .int a1), (2, .int a2), (3, .int a3)]) hx hb dX11_goRound_8 hl (by decide) rfl (fun ls hl => ?_)
  have B10 : ∀ (n : Nat) (x10_4 : Int32) (x10_5 : Int32) (f18_10 : Int32) (a15_10 : (Nat → Int32)) (a16_10 : (Nat → Int32)) (H : Heap) (locs : List Loc) (ls : Array Slot), (60 - x10_5.toInt).toNat < n → (0 : Int) ≤ x10_5.toInt ∧ x10_5.toInt ≤ 60 → va_P G vwCl (mS cs h q (upd (upd F 17 x1) 18 f18_10) (vA (vA A 15 a15_10) 16 a16_10) D B) H → va_D A0 (mS cs h q (upd (upd F 17 x1) 18 f18_10) (vA (vA A 15 a15_10) 16 a16_10) D B) → va_S A0 s.heap H locs → lv_has ls 6 [(0, .ref h), (1, .int a1), (2, .int a2), (3, .int a3), (4, .int x10_4), (5, .int x10_5)] → W p l e (rmk 5 0 0) s m args below meth c H locs 0 0 (MQ below ((QDi G (fun (r : Int32) (u : Int32 × Int32 × (Nat → Int32) × (Nat → Int32)) => True) (fun u : Int32 × Int32 × (Nat → Int32) × (Nat → Int32) => (mS cs h q (upd (upd F 17 u.1) 18 u.2.1) (vA (vA A 15 u.2.2.1) 16 u.2.2.2) D B))) A0) args s 0 0 A0) (F0 m 10 ls []) := by
    intro n
    induction n with
    | zero => intro x10_4 x10_5 f18_10 a15_10 a16_10 H locs ls hmeas hx10_5 hP hD hS hl; exact absurd hmeas (Nat.not_lt_zero _)
    | succ n ih10 =>
      intro x10_4 x10_5 f18_10 a15_10 a16_10 H locs ls hmeas hx10_5 hP hD hS hl
      refine lv_iload hx hb dX11_goRound_10 (lv_at hl 5 rfl) ?_
      refine lv_iload_n hx hb dX11_goRound_12 rfl (lv_at hl 2 rfl) ?_
      refine lv_icmp_ge (tgt := 44) hx hb dX11_goRound_13 (by decide) (fun c7001 => ?_) (fun c7001 => ?_)
      · have zc7001 := leK rfl rfl c7001
        refine lv_iload hx hb dX11_goRound_44 (lv_at hl 4 rfl) ?_
        exact retDi (x1, f18_10, a15_10, a16_10) hx hb hr hlk hP hD hS dX11_goRound_46 (trivial) (Nat.le_of_ble_eq_true rfl) (Nat.le_of_ble_eq_true rfl)
      · have zc7001 := nleK rfl rfl c7001
        refine lv_iload hx hb dX11_goRound_16 (lv_at hl 4 rfl) ?_
        refine lv_aload_n hx hb dX11_goRound_18 rfl (lv_at hl 0 rfl) ?_
        refine lv_aload_n hx hb dX11_goRound_19 rfl (lv_at hl 0 rfl) ?_
        refine lv_iload_n hx hb dX11_goRound_20 rfl (lv_at hl 1 rfl) ?_
        refine lv_iload hx hb dX11_goRound_21 (lv_at hl 5 rfl) ?_
        refine behR (runVP (As := [.int a1, .int x10_5]) (rest := [.ref h, .int x10_4]) ⟨hx, hb, hml, hown, ht⟩ (sX11_roomAt l G cs h q (upd (upd F 17 x1) 18 f18_10) (vA (vA A 15 a15_10) 16 a16_10) D B (IM_arr (k := 16) (IM_arr (k := 15) (IM_put (k := 18) (IM_put (k := 17) hI (i32b _)) (i32b _)) (fun _ => i32b _)) (fun _ => i32b _)) a1 x10_5 (by omega) (by omega)) okV_RX11_293 ⟨by decide, by decide⟩ hK hP [0, 1, 2, 3, 4, 5, 6, 7, 8, 9, 10, 11, 12, 13, 14, 15, 16, 17, 18, 19] rfl 0 rfl rfl hl.1 rfl (Nat.le_of_ble_eq_true rfl) dX11_goRound_23 ⟨by decide, by decide⟩) hP hS hA (fun r7002 H locs hr7002 hP hS => ?_)
        have hr7002 : r7002 = (B 33 (60 * a1.toNatClampNeg + x10_5.toNatClampNeg)).toInt32 := hr7002
        have zbr7002 : -1 ≤ r7002.toInt ∧ r7002.toInt ≤ 6 := by rw [hr7002]; exact RVroom hRV (by have q1 := clK (i := x10_5) rfl (by omega); omega)
        refine lv_iload_n hx hb dX11_goRound_26 rfl (lv_at hl 3 rfl) ?_
        refine behDi (wr := []) (runVD (As := [.int r7002, .int a3]) (rest := [.int x10_4]) ⟨hx, hb, hml, hown, ht⟩ (sX11_callIn l G cs h q (upd (upd F 17 x1) 18 f18_10) (vA (vA A 15 a15_10) 16 a16_10) D B (IM_arr (k := 16) (IM_arr (k := 15) (IM_put (k := 18) (IM_put (k := 17) hI (i32b _)) (i32b _)) (fun _ => i32b _)) (fun _ => i32b _)) r7002 a3 (by omega) (by omega)) okV_RX11_264 ⟨by decide, by decide⟩ hK hP hD [0, 1, 2, 3, 4, 5, 6, 7, 8, 9, 10, 11, 12, 13, 14, 15, 16, 17, 18, 19] rfl (by decide) rfl 0 rfl rfl hl.1 rfl (Nat.le_of_ble_eq_true rfl) dX11_goRound_27 ⟨(Nat.le_of_ble_eq_true rfl), (Nat.le_of_ble_eq_true rfl)⟩) hP hD hS hA [0, 1, 2, 3, 4, 5, 6, 7, 8, 9, 10, 11, 12, 13, 14, 15, 16, 17, 18, 19] [] rfl rfl (by decide) (by decide) (fun r9 u H locs hu hP hD hS => ?_)
        obtain ⟨x7003, g7004⟩ := u
        obtain ⟨r7005, rfl⟩ : ∃ z, z = r9 := ⟨_, rfl⟩
        have hr7005 := hu
        have hP : va_P G vwCl (mS cs h q (upd (upd F 17 x1) 18 x7003) (vA (vA A 15 g7004) 16 a16_10) D B) H := hP
        have hD : va_D A0 (mS cs h q (upd (upd F 17 x1) 18 x7003) (vA (vA A 15 g7004) 16 a16_10) D B) := hD
        refine lv_iadd hx hb dX11_goRound_30 ?_
        refine lv_topi (fun v7006 ev7006 => ?_)
        refine lv_istore (lv' := [(4, .int v7006), (0, .ref h), (1, .int a1), (2, .int a2), (3, .int a3), (5, .int x10_5)]) hx hb dX11_goRound_31 hl (by decide) rfl (fun ls hl => ?_)
        refine lv_aload_n hx hb dX11_goRound_33 rfl (lv_at hl 1 rfl) ?_
        refine lv_iconst (v := (-1)) hx hb dX11_goRound_34 (by decide) ?_
        refine behDw (wr := []) (runVD (As := [.int (-1)]) (rest := []) ⟨hx, hb, hml, hown, ht⟩ (sX11_goMinute l G cs h q (upd (upd F 17 x1) 18 x7003) (vA (vA A 15 g7004) 16 a16_10) D B (IM_arr (k := 16) (IM_arr (k := 15) (IM_put (k := 18) (IM_put (k := 17) hI (i32b _)) (i32b _)) (fun _ => i32b _)) (fun _ => i32b _)) (-1) ) okV_RX11_267 ⟨by decide, by decide⟩ hK hP hD [0, 1, 2, 3, 4, 5, 6, 7, 8, 9, 10, 11, 12, 13, 14, 15, 16, 17, 18, 19] rfl (by decide) rfl 0 rfl rfl hl.1 rfl (Nat.le_of_ble_eq_true rfl) dX11_goRound_35 ⟨(Nat.le_of_ble_eq_true rfl), (Nat.le_of_ble_eq_true rfl)⟩) hP hD hS hA [0, 1, 2, 3, 4, 5, 6, 7, 8, 9, 10, 11, 12, 13, 14, 15, 16, 17, 18, 19] [] rfl rfl (by decide) (by decide) (fun u H locs hu hP hD hS => ?_)
        obtain ⟨g7007, g7008⟩ := u
        have hr7009 := hu
        have hP : va_P G vwCl (mS cs h q (upd (upd F 17 x1) 18 x7003) (vA (vA A 15 g7007) 16 g7008) D B) H := hP
        have hD : va_D A0 (mS cs h q (upd (upd F 17 x1) 18 x7003) (vA (vA A 15 g7007) 16 g7008) D B) := hD
        obtain ⟨v7010, ev7010⟩ : ∃ z : Int32, z = x10_5 + 1 := ⟨_, rfl⟩
        have tv7010 : v7010.toInt = x10_5.toInt + 1 := by rw [ev7010]; exact addT rfl (by decide) (by omega)
        refine lv_iinc (v := v7010) (lv' := [(5, .int v7010), (4, .int v7006), (0, .ref h), (1, .int a1), (2, .int a2), (3, .int a3)]) hx hb dX11_goRound_38 hl (k := 5) rfl (by rw [ev7010]; rfl) (by decide) rfl (fun ls hl => ?_)
        refine lv_goto (tgt := 10) hx hb dX11_goRound_41 (by decide) ?_
        exact ih10 v7006 v7010 x7003 g7007 g7008 H locs ls (by omega) (by omega) hP hD hS (lv_sub hl [2, 3, 4, 5, 1, 0] rfl)
  exact B10 _ 0 0 x2 g3 g4 H locs ls (Nat.lt_succ_self _) (by decide) hP hD hS (lv_sub hl [2, 3, 4, 5, 1, 0] rfl)

set_option maxRecDepth 100000 in
set_option maxHeartbeats 8000000 in
theorem sX11_worthOf (l : Launch) (G : va_G) (cs : Nat → ClassId) (h : Nat) (q : Nat → Nat) (F : Nat → Int32) (A : Nat → Nat → Int32) (D : Int64) (B : Nat → Nat → Int64) (hI : IM F A) (a1 : Int32) : SafeR l yX11_worthOf cX11_worthOf 2 (some .int) 0 G (TY cs) [.ref h, .int a1] (mS cs h q F A D B) (fun r : Int32 => True) := by
  refine mkP (Qc := QRi (fun r : Int32 => True)) (by decide) (by simp [lg_sl, Value.category]) ?_
  intro p e s m args below meth c ls hx hb hml hr hlk hown ht hK hP hS hl
  have hl : lv_has ls 2 [(0, .ref h), (1, .int a1)] := hl
  refine lv_aload_n hx hb dX11_worthOf_0 rfl (lv_at hl 0 rfl) ?_
  refine getF (v := .ref (q 1)) hx hb ht hown hK hP iTX11 0 1 rfl rfl (by decide) fl_RX11_9 rfl dX11_worthOf_1 ?_
  refine lv_iconst (v := 2) hx hb dX11_worthOf_4 (by decide) ?_
  refine va_iald hx hb hK.1 hP 1 0 rfl rfl (show ¬ (_ ∨ _) by decide) dX11_worthOf_5 ?_
  refine W.eq (g2 := F0 m 6 ls [.int (A 1 2)]) rfl ?_
  refine lv_i2l hx hb dX11_worthOf_6 rfl ?_
  have bb1 := i32b (A 1 2)
  refine lv_topl (fun v2 ev2 => ?_)
  have tv2 : v2.toInt = (A 1 2).toInt := by rw [ev2]; exact Int32.toInt_toInt64 _
  refine lv_iload_n hx hb dX11_worthOf_7 rfl (lv_at hl 1 rfl) ?_
  refine lv_i2l hx hb dX11_worthOf_8 rfl ?_
  have bb3 := i32b a1
  refine lv_topl (fun v4 ev4 => ?_)
  have tv4 : v4.toInt = a1.toInt := by rw [ev4]; exact Int32.toInt_toInt64 _
  refine lv_lmul hx hb dX11_worthOf_9 ?_
  refine lv_topl (fun v5 ev5 => ?_)
  refine lv_ldc2 hx hb hown (ht _ kl_RX11_273) dX11_worthOf_10 ?_
  refine lv_ldiv hx hb dX11_worthOf_13 (by decide) ?_
  refine lv_topl (fun v6 ev6 => ?_)
  refine lv_l2i hx hb dX11_worthOf_14 rfl ?_
  refine lv_topi (fun v7 ev7 => ?_)
  exact retRi hx hb hr hlk hS dX11_worthOf_15 (trivial)

set_option maxRecDepth 100000 in
set_option maxHeartbeats 8000000 in
theorem sX11_gainOf (l : Launch) (G : va_G) (cs : Nat → ClassId) (h : Nat) (q : Nat → Nat) (F : Nat → Int32) (A : Nat → Nat → Int32) (D : Int64) (B : Nat → Nat → Int64) (hI : IM F A) (a1 : Int32) (a2 : Int32) (a3 : Int32) (ha1 : (0 : Int) ≤ a1.toInt ∧ a1.toInt ≤ 3) (ha2 : (0 : Int) ≤ a2.toInt ∧ a2.toInt ≤ 60) (ha3 : (0 : Int) ≤ a3.toInt ∧ a3.toInt ≤ 9) (hRV : RV B a1 a2.toInt) : ImpI l yX11_gainOf cX11_gainOf 4 (some .int) 6 0 0 G (TY cs) [.ref h, .int a1, .int a2, .int a3] (mS cs h q F A D B) (fun (r : Int32) (u : Int32 × Int32 × (Nat → Int32) × (Nat → Int32)) => True) (fun u : Int32 × Int32 × (Nat → Int32) × (Nat → Int32) => (mS cs h q (upd (upd F 17 u.1) 18 u.2.1) (vA (vA A 15 u.2.2.1) 16 u.2.2.2) D B)) := by
  refine mkD (Qc := (QDi G (fun (r : Int32) (u : Int32 × Int32 × (Nat → Int32) × (Nat → Int32)) => True) (fun u : Int32 × Int32 × (Nat → Int32) × (Nat → Int32) => (mS cs h q (upd (upd F 17 u.1) 18 u.2.1) (vA (vA A 15 u.2.2.1) 16 u.2.2.2) D B)))) (by decide) (by simp [lg_sl, Value.category]) ?_
  intro p e s m args below meth c ls A0 hx hb hml hr hlk hown hmn ht hK hP hD hS hA hl
  have hl : lv_has ls 4 [(0, .ref h), (1, .int a1), (2, .int a2), (3, .int a3)] := hl
  refine lv_aload_n hx hb dX11_gainOf_0 rfl (lv_at hl 0 rfl) ?_
  refine lv_aload_n hx hb dX11_gainOf_1 rfl (lv_at hl 0 rfl) ?_
  refine lv_iload_n hx hb dX11_gainOf_2 rfl (lv_at hl 1 rfl) ?_
  refine lv_iload_n hx hb dX11_gainOf_3 rfl (lv_at hl 2 rfl) ?_
  refine lv_iload_n hx hb dX11_gainOf_4 rfl (lv_at hl 3 rfl) ?_
  refine behDi (wr := []) (runVD (As := [.int a1, .int a2, .int a3]) (rest := [.ref h]) ⟨hx, hb, hml, hown, ht⟩ (sX11_goRound l G cs h q F A D B hI a1 a2 a3 (by omega) (by omega) (by omega) (show RV B a1 a2.toInt from (RVle hRV (by omega)))) okV_RX11_296 ⟨by decide, by decide⟩ hK hP hD [0, 1, 2, 3, 4, 5, 6, 7, 8, 9, 10, 11, 12, 13, 14, 15, 16, 17, 18, 19] rfl (by decide) rfl 0 rfl rfl hl.1 rfl (Nat.le_of_ble_eq_true rfl) dX11_gainOf_5 ⟨(Nat.le_of_ble_eq_true rfl), (Nat.le_of_ble_eq_true rfl)⟩) hP hD hS hA [0, 1, 2, 3, 4, 5, 6, 7, 8, 9, 10, 11, 12, 13, 14, 15, 16, 17, 18, 19] [] rfl rfl (by decide) (by decide) (fun r9 u H locs hu hP hD hS => ?_)
  obtain ⟨x1, x2, g3, g4⟩ := u
  obtain ⟨r5, rfl⟩ : ∃ z, z = r9 := ⟨_, rfl⟩
  have hr5 := hu
  have hP : va_P G vwCl (mS cs h q (upd (upd F 17 x1) 18 x2) (vA (vA A 15 g3) 16 g4) D B) H := hP
  have hD : va_D A0 (mS cs h q (upd (upd F 17 x1) 18 x2) (vA (vA A 15 g3) 16 g4) D B) := hD
  refine behR (runVP (As := [.int r5]) (rest := []) ⟨hx, hb, hml, hown, ht⟩ (sX11_worthOf l G cs h q (upd (upd F 17 x1) 18 x2) (vA (vA A 15 g3) 16 g4) D B (IM_arr (k := 16) (IM_arr (k := 15) (IM_put (k := 18) (IM_put (k := 17) hI (i32b _)) (i32b _)) (fun _ => i32b _)) (fun _ => i32b _)) r5 ) okV_RX11_300 ⟨by decide, by decide⟩ hK hP [0, 1, 2, 3, 4, 5, 6, 7, 8, 9, 10, 11, 12, 13, 14, 15, 16, 17, 18, 19] rfl 0 rfl rfl hl.1 rfl (Nat.le_of_ble_eq_true rfl) dX11_gainOf_8 ⟨by decide, by decide⟩) hP hS hA (fun r6 H locs hr6 hP hS => ?_)
  refine lv_aload_n hx hb dX11_gainOf_11 rfl (lv_at hl 0 rfl) ?_
  refine getF (v := .ref (q 1)) hx hb ht hown hK hP iTX11 0 1 rfl rfl (by decide) fl_RX11_9 rfl dX11_gainOf_12 ?_
  refine lv_iconst (v := 3) hx hb dX11_gainOf_15 (by decide) ?_
  refine va_iald hx hb hK.1 hP 1 0 rfl rfl (show ¬ (_ ∨ _) by decide) dX11_gainOf_16 ?_
  refine W.eq (g2 := F0 m 17 ls [.int (A 1 3), .int r6]) rfl ?_
  refine lv_iload_n hx hb dX11_gainOf_17 rfl (lv_at hl 2 rfl) ?_
  refine lv_imul hx hb dX11_gainOf_18 ?_
  refine lv_topi (fun v7 ev7 => ?_)
  refine lv_isub hx hb dX11_gainOf_19 ?_
  refine lv_topi (fun v8 ev8 => ?_)
  exact retDi (x1, x2, g3, g4) hx hb hr hlk hP hD hS dX11_gainOf_20 (trivial) (Nat.le_of_ble_eq_true rfl) (Nat.le_of_ble_eq_true rfl)

set_option maxRecDepth 100000 in
set_option maxHeartbeats 8000000 in
theorem sX11_goesTo (l : Launch) (G : va_G) (cs : Nat → ClassId) (h : Nat) (q : Nat → Nat) (F : Nat → Int32) (A : Nat → Nat → Int32) (D : Int64) (B : Nat → Nat → Int64) (hI : IM F A) (a1 : Int32) (a2 : Int32) (ha1 : (0 : Int) ≤ a1.toInt ∧ a1.toInt ≤ 6) : SafeR l yX11_goesTo cX11_goesTo 3 (some .boolean) 1 G (TY cs) [.ref h, .int a1, .int a2] (mS cs h q F A D B) (fun r : Int32 => (0 : Int) ≤ r.toInt ∧ r.toInt ≤ 1) := by
  refine mkP (Qc := QRi (fun r : Int32 => (0 : Int) ≤ r.toInt ∧ r.toInt ≤ 1)) (by decide) (by simp [lg_sl, Value.category]) ?_
  intro p e s m args below meth c ls hx hb hml hr hlk hown ht hK hP hS hl
  have hl : lv_has ls 3 [(0, .ref h), (1, .int a1), (2, .int a2)] := hl
  refine lv_iload_n hx hb dX11_goesTo_0 rfl (lv_at hl 1 rfl) ?_
  refine lv_iload_n hx hb dX11_goesTo_1 rfl (lv_at hl 2 rfl) ?_
  refine lv_icmp_eq (tgt := 19) hx hb dX11_goesTo_2 (by decide) (fun c1 => ?_) (fun c1 => ?_)
  · have zc1 := eqK rfl rfl c1
    refine lv_iconst (v := 1) hx hb dX11_goesTo_19 (by decide) ?_
    refine lv_goto (tgt := 24) hx hb dX11_goesTo_20 (by decide) ?_
    exact retRz hx hb hr hlk hS dX11_goesTo_24 (rfl) (show (0 : Int) ≤ (1 : Int32).toInt ∧ (1 : Int32).toInt ≤ 1 by have kk : (1 : Int32).toInt = 1 := (by decide); omega)
  · have zc1 := neK rfl rfl c1
    refine lv_aload_n hx hb dX11_goesTo_5 rfl (lv_at hl 0 rfl) ?_
    refine lv_iload_n hx hb dX11_goesTo_6 rfl (lv_at hl 1 rfl) ?_
    refine lv_iconst (v := 3) hx hb dX11_goesTo_7 (by decide) ?_
    refine behR (runVP (As := [.int a1, .int 3]) (rest := []) ⟨hx, hb, hml, hown, ht⟩ (sX11_of l G cs h q F A D B hI a1 3 (by omega) (by decide)) okV_RX11_227 ⟨by decide, by decide⟩ hK hP [0, 1, 2, 3, 4, 5, 6, 7, 8, 9, 10, 11, 12, 13, 14, 15, 16, 17, 18, 19] rfl 0 rfl rfl hl.1 rfl (Nat.le_of_ble_eq_true rfl) dX11_goesTo_8 ⟨by decide, by decide⟩) hP hS (fun _ h => h) (fun r2 H locs hr2 hP hS => ?_)
    have kk3 : (3 : Int32).toInt = 3 := by decide
    have hr2 : r2 = (A 1) (8 + 4 * a1.toNatClampNeg + (3 : Int32).toNatClampNeg) ∧ (0 : Int) ≤ r2.toInt ∧ r2.toInt ≤ 999 ∧ ((3 : Int32).toInt = 3 → r2.toInt ≤ 127) ∧ ((3 : Int32).toInt = 2 → r2.toInt ≤ 99) := hr2
    refine lv_iload_n hx hb dX11_goesTo_11 rfl (lv_at hl 2 rfl) ?_
    refine behR (runSP (As := [.int r2, .int a2]) (rest := []) ⟨hx, hb, hml, hown, ht⟩ (sX11_bit l G cs r2 a2 ) okS_RX11_258 ⟨by decide, by decide⟩ hK hP [] rfl hl.1 rfl (Nat.le_of_ble_eq_true rfl) dX11_goesTo_12 ⟨by decide, by decide⟩) hP hS (fun _ h => h) (fun r4 H locs hr4 hP hS => ?_)
    have hr4 : r4 = bitE r2 a2 ∧ (0 : Int) ≤ r4.toInt ∧ r4.toInt ≤ 1 := hr4
    refine lv_iconst (v := 1) hx hb dX11_goesTo_15 (by decide) ?_
    refine lv_icmp_ne (tgt := 23) hx hb dX11_goesTo_16 (by decide) (fun c5 => ?_) (fun c5 => ?_)
    · have zc5 := neK rfl (show (1 : Int32).toInt = 1 by decide) c5
      refine lv_iconst (v := 0) hx hb dX11_goesTo_23 (by decide) ?_
      exact retRz hx hb hr hlk hS dX11_goesTo_24 (rfl) (show (0 : Int) ≤ (0 : Int32).toInt ∧ (0 : Int32).toInt ≤ 1 by have kk : (0 : Int32).toInt = 0 := (by decide); omega)
    · have zc5 := eqK rfl (show (1 : Int32).toInt = 1 by decide) c5
      refine lv_iconst (v := 1) hx hb dX11_goesTo_19 (by decide) ?_
      refine lv_goto (tgt := 24) hx hb dX11_goesTo_20 (by decide) ?_
      exact retRz hx hb hr hlk hS dX11_goesTo_24 (rfl) (show (0 : Int) ≤ (1 : Int32).toInt ∧ (1 : Int32).toInt ≤ 1 by have kk : (1 : Int32).toInt = 1 := (by decide); omega)

set_option maxRecDepth 100000 in
set_option maxHeartbeats 8000000 in
theorem sX11_canWalk (l : Launch) (G : va_G) (cs : Nat → ClassId) (h : Nat) (q : Nat → Nat) (F : Nat → Int32) (A : Nat → Nat → Int32) (D : Int64) (B : Nat → Nat → Int64) (hI : IM F A) (a1 : Int32) (a2 : Int32) (ha1 : (0 : Int) ≤ a1.toInt ∧ a1.toInt ≤ 3) (ha2 : (0 : Int) ≤ a2.toInt ∧ a2.toInt ≤ 6) (hRV : RV B a1 (A 31 a1.toNatClampNeg).toInt) : SafeR l yX11_canWalk cX11_canWalk 6 (some .boolean) 2 G (TY cs) [.ref h, .int a1, .int a2] (mS cs h q F A D B) (fun r : Int32 => (0 : Int) ≤ r.toInt ∧ r.toInt ≤ 1) := by
  refine mkP (Qc := QRi (fun r : Int32 => (0 : Int) ≤ r.toInt ∧ r.toInt ≤ 1)) (by decide) (by simp [lg_sl, Value.category]) ?_
  intro p e s m args below meth c ls hx hb hml hr hlk hown ht hK hP hS hl
  have hl : lv_has ls 6 [(0, .ref h), (1, .int a1), (2, .int a2)] := hl
  refine lv_iload_n hx hb dX11_canWalk_0 rfl (lv_at hl 2 rfl) ?_
  refine lv_istore_n (lv' := [(3, .int a2), (0, .ref h), (1, .int a1), (2, .int a2)]) hx hb dX11_canWalk_1 rfl hl (by decide) rfl (fun ls hl => ?_)
  refine lv_iconst (v := 0) hx hb dX11_canWalk_2 (by decide) ?_
  refine lv_istore (lv' := [(4, .int 0), (3, .int a2), (0, .ref h), (1, .int a1), (2, .int a2)]) hx hb dX11_canWalk_3 hl (by decide) rfl (fun ls hl => ?_)
  have B5 : ∀ (n : Nat) (x5_3 : Int32) (x5_4 : Int32) (H : Heap) (locs : List Loc) (ls : Array Slot), (60 - x5_4.toInt).toNat < n → (0 : Int) ≤ x5_3.toInt ∧ x5_3.toInt ≤ 6 → (0 : Int) ≤ x5_4.toInt ∧ x5_4.toInt ≤ 60 → va_P G vwCl (mS cs h q F A D B) H → va_S (fun q => s.heap.size ≤ q) s.heap H locs → lv_has ls 6 [(0, .ref h), (1, .int a1), (3, .int x5_3), (4, .int x5_4)] → W p l e (rmk 2 0 0) s m args below meth c H locs 0 0 (MQ below (QRi (fun r : Int32 => (0 : Int) ≤ r.toInt ∧ r.toInt ≤ 1) s.heap.size) args s 0 0 (fun q => s.heap.size ≤ q)) (F0 m 5 ls []) := by
    intro n
    induction n with
    | zero => intro x5_3 x5_4 H locs ls hmeas hx5_3 hx5_4 hP hS hl; exact absurd hmeas (Nat.not_lt_zero _)
    | succ n ih5 =>
      intro x5_3 x5_4 H locs ls hmeas hx5_3 hx5_4 hP hS hl
      refine lv_iload hx hb dX11_canWalk_5 (lv_at hl 3 rfl) ?_
      refine lv_aload_n hx hb dX11_canWalk_7 rfl (lv_at hl 0 rfl) ?_
      refine getF (v := .ref (q 31)) hx hb ht hown hK hP iTX11 0 31 rfl rfl (by decide) fl_RX11_61 rfl dX11_canWalk_8 ?_
      refine lv_iload_n hx hb dX11_canWalk_11 rfl (lv_at hl 1 rfl) ?_
      refine va_iald hx hb hK.1 hP 16 0 rfl rfl (inK rfl (by omega) (by decide)) dX11_canWalk_12 ?_
      refine lv_topi (fun v5001 ev5001 => ?_)
      have zf5002 : (-1 : Int) ≤ v5001.toInt ∧ v5001.toInt ≤ 60 := by rw [ev5001]; exact (hI.2 31 _)
      have nv5001 : v5001.toInt = (A 31 a1.toNatClampNeg).toInt := congrArg Int32.toInt ev5001
      refine lv_icmp_ge (tgt := 61) hx hb dX11_canWalk_13 (by decide) (fun c5003 => ?_) (fun c5003 => ?_)
      · have zc5003 := leK rfl rfl c5003
        refine lv_iconst (v := 1) hx hb dX11_canWalk_61 (by decide) ?_
        exact retRz hx hb hr hlk hS dX11_canWalk_62 (rfl) (show (0 : Int) ≤ (1 : Int32).toInt ∧ (1 : Int32).toInt ≤ 1 by have kk : (1 : Int32).toInt = 1 := (by decide); omega)
      · have zc5003 := nleK rfl rfl c5003
        refine lv_aload_n hx hb dX11_canWalk_16 rfl (lv_at hl 0 rfl) ?_
        refine lv_iload_n hx hb dX11_canWalk_17 rfl (lv_at hl 1 rfl) ?_
        refine lv_iload hx hb dX11_canWalk_18 (lv_at hl 3 rfl) ?_
        refine behR (runVP (As := [.int a1, .int x5_4]) (rest := []) ⟨hx, hb, hml, hown, ht⟩ (sX11_roomAt l G cs h q F A D B hI a1 x5_4 (by omega) (by omega)) okV_RX11_293 ⟨by decide, by decide⟩ hK hP [0, 1, 2, 3, 4, 5, 6, 7, 8, 9, 10, 11, 12, 13, 14, 15, 16, 17, 18, 19] rfl 0 rfl rfl hl.1 rfl (Nat.le_of_ble_eq_true rfl) dX11_canWalk_20 ⟨by decide, by decide⟩) hP hS (fun _ h => h) (fun r5004 H locs hr5004 hP hS => ?_)
        have hr5004 : r5004 = (B 33 (60 * a1.toNatClampNeg + x5_4.toNatClampNeg)).toInt32 := hr5004
        have zbr5004 : -1 ≤ r5004.toInt ∧ r5004.toInt ≤ 6 := by rw [hr5004]; exact RVroom hRV (by have q1 := clK (i := x5_4) rfl (by omega); omega)
        refine lv_iconst (v := (-1)) hx hb dX11_canWalk_23 (by decide) ?_
        have B38 : ∀ (s38_0 : Int32) (H : Heap) (locs : List Loc) (ls : Array Slot), (0 : Int) ≤ s38_0.toInt ∧ s38_0.toInt ≤ 6 → va_P G vwCl (mS cs h q F A D B) H → va_S (fun q => s.heap.size ≤ q) s.heap H locs → lv_has ls 6 [(0, .ref h), (1, .int a1), (3, .int x5_3), (4, .int x5_4)] → W p l e (rmk 2 0 0) s m args below meth c H locs 0 0 (MQ below (QRi (fun r : Int32 => (0 : Int) ≤ r.toInt ∧ r.toInt ≤ 1) s.heap.size) args s 0 0 (fun q => s.heap.size ≤ q)) (F0 m 38 ls [.int s38_0]) := by
          intro s38_0 H locs ls hs38_0 hP hS hl
          refine lv_istore (lv' := [(5, .int s38_0), (0, .ref h), (1, .int a1), (3, .int x5_3), (4, .int x5_4)]) hx hb dX11_canWalk_38 hl (by decide) rfl (fun ls hl => ?_)
          refine lv_aload_n hx hb dX11_canWalk_40 rfl (lv_at hl 1 rfl) ?_
          refine lv_iload_n hx hb dX11_canWalk_41 rfl (lv_at hl 3 rfl) ?_
          refine lv_iload hx hb dX11_canWalk_42 (lv_at hl 0 rfl) ?_
          refine behR (runVP (As := [.int x5_3, .int s38_0]) (rest := []) ⟨hx, hb, hml, hown, ht⟩ (sX11_goesTo l G cs h q F A D B hI x5_3 s38_0 (by omega)) okV_RX11_312 ⟨by decide, by decide⟩ hK hP [0, 1, 2, 3, 4, 5, 6, 7, 8, 9, 10, 11, 12, 13, 14, 15, 16, 17, 18, 19] rfl 0 rfl rfl hl.1 rfl (Nat.le_of_ble_eq_true rfl) dX11_canWalk_44 ⟨by decide, by decide⟩) hP hS (fun _ h => h) (fun r23001 H locs hr23001 hP hS => ?_)
          have hr23001 : (0 : Int) ≤ r23001.toInt ∧ r23001.toInt ≤ 1 := hr23001
          refine lv_if_ne (tgt := 52) hx hb dX11_canWalk_47 (by decide) (fun c23002 => ?_) (fun c23002 => ?_)
          · have zc23002 := neK rfl (show (0 : Int32).toInt = 0 by decide) c23002
            refine lv_iload hx hb dX11_canWalk_52 (lv_at hl 0 rfl) ?_
            refine lv_istore_n (lv' := [(3, .int s38_0), (5, .int s38_0), (0, .ref h), (1, .int a1), (4, .int x5_4)]) hx hb dX11_canWalk_54 rfl hl (by decide) rfl (fun ls hl => ?_)
            obtain ⟨v23003, ev23003⟩ : ∃ z : Int32, z = x5_4 + 1 := ⟨_, rfl⟩
            have tv23003 : v23003.toInt = x5_4.toInt + 1 := by rw [ev23003]; exact addT rfl (by decide) (by omega)
            refine lv_iinc (v := v23003) (lv' := [(4, .int v23003), (3, .int s38_0), (5, .int s38_0), (0, .ref h), (1, .int a1)]) hx hb dX11_canWalk_55 hl (k := 4) rfl (by rw [ev23003]; rfl) (by decide) rfl (fun ls hl => ?_)
            refine lv_goto (tgt := 5) hx hb dX11_canWalk_58 (by decide) ?_
            exact ih5 s38_0 v23003 H locs ls (by omega) (by omega) (by omega) hP hS (lv_sub hl [3, 4, 1, 0] rfl)
          · have zc23002 := eqK rfl (show (0 : Int32).toInt = 0 by decide) c23002
            refine lv_iconst (v := 0) hx hb dX11_canWalk_50 (by decide) ?_
            exact retRz hx hb hr hlk hS dX11_canWalk_51 (rfl) (show (0 : Int) ≤ (0 : Int32).toInt ∧ (0 : Int32).toInt ≤ 1 by have kk : (0 : Int32).toInt = 0 := (by decide); omega)
        refine lv_icmp_ne (tgt := 31) hx hb dX11_canWalk_24 (by decide) (fun c5005 => ?_) (fun c5005 => ?_)
        · have zc5005 := neK rfl (show (-1 : Int32).toInt = (-1) by decide) c5005
          refine lv_aload_n hx hb dX11_canWalk_31 rfl (lv_at hl 0 rfl) ?_
          refine lv_iload_n hx hb dX11_canWalk_32 rfl (lv_at hl 1 rfl) ?_
          refine lv_iload hx hb dX11_canWalk_33 (lv_at hl 3 rfl) ?_
          refine behR (runVP (As := [.int a1, .int x5_4]) (rest := []) ⟨hx, hb, hml, hown, ht⟩ (sX11_roomAt l G cs h q F A D B hI a1 x5_4 (by omega) (by omega)) okV_RX11_293 ⟨by decide, by decide⟩ hK hP [0, 1, 2, 3, 4, 5, 6, 7, 8, 9, 10, 11, 12, 13, 14, 15, 16, 17, 18, 19] rfl 0 rfl rfl hl.1 rfl (Nat.le_of_ble_eq_true rfl) dX11_canWalk_35 ⟨by decide, by decide⟩) hP hS (fun _ h => h) (fun r5006 H locs hr5006 hP hS => ?_)
          have hr5006 : r5006 = (B 33 (60 * a1.toNatClampNeg + x5_4.toNatClampNeg)).toInt32 := hr5006
          have zbr5006 : -1 ≤ r5006.toInt ∧ r5006.toInt ≤ 6 := by rw [hr5006]; exact RVroom hRV (by have q1 := clK (i := x5_4) rfl (by omega); omega)
          have qrr5006 := congrArg Int32.toInt (hr5006.trans hr5004.symm)
          exact B38 r5006 H locs ls (by omega) hP hS (lv_sub hl [0, 1, 2, 3] rfl)
        · have zc5005 := eqK rfl (show (-1 : Int32).toInt = (-1) by decide) c5005
          refine lv_iload_n hx hb dX11_canWalk_27 rfl (lv_at hl 2 rfl) ?_
          refine lv_goto (tgt := 38) hx hb dX11_canWalk_28 (by decide) ?_
          exact B38 x5_3 H locs ls (by omega) hP hS (lv_sub hl [0, 1, 2, 3] rfl)
  exact B5 _ a2 0 s.heap [] ls (Nat.lt_succ_self _) (by omega) (by decide) hP hS (lv_sub hl [2, 3, 1, 0] rfl)

