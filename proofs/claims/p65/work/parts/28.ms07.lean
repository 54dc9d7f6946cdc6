set_option maxRecDepth 100000 in
set_option maxHeartbeats 8000000 in
theorem sX11_far (l : Launch) (G : va_G) (cs : Nat → ClassId) (h : Nat) (q : Nat → Nat) (F : Nat → Int32) (A : Nat → Nat → Int32) (D : Int64) (B : Nat → Nat → Int64) (hI : IM F A) (a1 : Int32) (a2 : Int32) : SafeR l yX11_far cX11_far 5 (some .int) 2 G (TY cs) [.ref h, .int a1, .int a2] (mS cs h q F A D B) (fun r : Int32 => True) := by
  refine mkP (Qc := QRi (fun r : Int32 => True)) (by decide) (by simp [lg_sl, Value.category]) ?_
  intro p e s m args below meth c ls hx hb hml hr hlk hown ht hK hP hS hl
  have hl : lv_has ls 5 [(0, .ref h), (1, .int a1), (2, .int a2)] := hl
  refine lv_aload_n hx hb dX11_far_0 rfl (lv_at hl 0 rfl) ?_
  refine lv_iload_n hx hb dX11_far_1 rfl (lv_at hl 1 rfl) ?_
  refine lv_i2l hx hb dX11_far_2 rfl ?_
  have bb1 := i32b a1
  refine lv_topl (fun v2 ev2 => ?_)
  have tv2 : v2.toInt = a1.toInt := by rw [ev2]; exact Int32.toInt_toInt64 _
  refine behR (runVP (As := [.long v2]) (rest := []) ⟨hx, hb, hml, hown, ht⟩ (sX11_isRoom l G cs h q F A D B hI v2 ) okV_RX11_89 ⟨by decide, by decide⟩ hK hP [0, 1, 2, 3, 4, 5, 6, 7, 8, 9, 10, 11, 12, 13, 14, 15, 16, 17, 18, 19] rfl 0 rfl rfl hl.1 rfl (Nat.le_of_ble_eq_true rfl) dX11_far_3 ⟨by decide, by decide⟩) hP hS (fun _ h => h) (fun r3 H locs hr3 hP hS => ?_)
  have hr3 : (r3.toInt = 1 ∧ 0 ≤ v2.toInt ∧ v2.toInt < (A 1 4).toInt ∧ v2.toInt ≤ 6 ∧ (A 1 4).toInt ≤ 7) ∨ r3.toInt = 0 := hr3
  refine lv_if_eq (tgt := 18) hx hb dX11_far_6 (by decide) (fun c4 => ?_) (fun c4 => ?_)
  · have zc4 := eqK rfl (show (0 : Int32).toInt = 0 by decide) c4
    refine lv_bipush (v := (-2)) hx hb dX11_far_18 (by decide) ?_
    exact retRi hx hb hr hlk hS dX11_far_20 (trivial)
  · have zc4 := neK rfl (show (0 : Int32).toInt = 0 by decide) c4
    refine lv_aload_n hx hb dX11_far_9 rfl (lv_at hl 0 rfl) ?_
    refine lv_iload_n hx hb dX11_far_10 rfl (lv_at hl 2 rfl) ?_
    refine lv_i2l hx hb dX11_far_11 rfl ?_
    have bb5 := i32b a2
    refine lv_topl (fun v6 ev6 => ?_)
    have tv6 : v6.toInt = a2.toInt := by rw [ev6]; exact Int32.toInt_toInt64 _
    refine behR (runVP (As := [.long v6]) (rest := []) ⟨hx, hb, hml, hown, ht⟩ (sX11_isRoom l G cs h q F A D B hI v6 ) okV_RX11_89 ⟨by decide, by decide⟩ hK hP [0, 1, 2, 3, 4, 5, 6, 7, 8, 9, 10, 11, 12, 13, 14, 15, 16, 17, 18, 19] rfl 0 rfl rfl hl.1 rfl (Nat.le_of_ble_eq_true rfl) dX11_far_12 ⟨by decide, by decide⟩) hP hS (fun _ h => h) (fun r7 H locs hr7 hP hS => ?_)
    have hr7 : (r7.toInt = 1 ∧ 0 ≤ v6.toInt ∧ v6.toInt < (A 1 4).toInt ∧ v6.toInt ≤ 6 ∧ (A 1 4).toInt ≤ 7) ∨ r7.toInt = 0 := hr7
    refine lv_if_ne (tgt := 21) hx hb dX11_far_15 (by decide) (fun c8 => ?_) (fun c8 => ?_)
    · have zc8 := neK rfl (show (0 : Int32).toInt = 0 by decide) c8
      refine lv_iconst (v := 1) hx hb dX11_far_21 (by decide) ?_
      refine lv_iload_n hx hb dX11_far_22 rfl (lv_at hl 1 rfl) ?_
      refine lv_ishl hx hb dX11_far_23 ?_
      refine lv_topi (fun v9 ev9 => ?_)
      have tv9 : (1 : Int) ≤ v9.toInt ∧ v9.toInt ≤ 64 := by rw [ev9]; exact shlT 6 (by decide) rfl (by omega) (by decide)
      have pv9 : v9.toInt = P2 a1.toInt := by rw [ev9]; exact shlP rfl (by omega)
      refine lv_istore_n (lv' := [(3, .int v9), (0, .ref h), (1, .int a1), (2, .int a2)]) hx hb dX11_far_24 rfl hl (by decide) rfl (fun ls hl => ?_)
      refine lv_iconst (v := 0) hx hb dX11_far_25 (by decide) ?_
      refine lv_istore (lv' := [(4, .int 0), (3, .int v9), (0, .ref h), (1, .int a1), (2, .int a2)]) hx hb dX11_far_26 hl (by decide) rfl (fun ls hl => ?_)
      have B28 : ∀ (n : Nat) (x28_3 : Int32) (x28_4 : Int32) (H : Heap) (locs : List Loc) (ls : Array Slot), (7 - x28_4.toInt).toNat < n → (0 : Int) ≤ x28_3.toInt ∧ x28_3.toInt ≤ 127 → (0 : Int) ≤ x28_4.toInt ∧ x28_4.toInt ≤ 7 → va_P G vwCl (mS cs h q F A D B) H → va_S (fun q => s.heap.size ≤ q) s.heap H locs → lv_has ls 5 [(0, .ref h), (2, .int a2), (3, .int x28_3), (4, .int x28_4)] → W p l e (rmk 2 0 0) s m args below meth c H locs 0 0 (MQ below (QRi (fun r : Int32 => True) s.heap.size) args s 0 0 (fun q => s.heap.size ≤ q)) (F0 m 28 ls []) := by
        intro n
        induction n with
        | zero => intro x28_3 x28_4 H locs ls hmeas hx28_3 hx28_4 hP hS hl; exact absurd hmeas (Nat.not_lt_zero _)
        | succ n ih28 =>
          intro x28_3 x28_4 H locs ls hmeas hx28_3 hx28_4 hP hS hl
          refine lv_iload hx hb dX11_far_28 (lv_at hl 3 rfl) ?_
          refine lv_bipush (v := 7) hx hb dX11_far_30 (by decide) ?_
          refine lv_icmp_ge (tgt := 59) hx hb dX11_far_32 (by decide) (fun c17001 => ?_) (fun c17001 => ?_)
          · have zc17001 := leK (show (7 : Int32).toInt = 7 by decide) rfl c17001
            refine lv_iconst (v := (-1)) hx hb dX11_far_59 (by decide) ?_
            exact retRi hx hb hr hlk hS dX11_far_60 (trivial)
          · have zc17001 := nleK (show (7 : Int32).toInt = 7 by decide) rfl c17001
            refine lv_iload_n hx hb dX11_far_35 rfl (lv_at hl 2 rfl) ?_
            refine lv_iload_n hx hb dX11_far_36 rfl (lv_at hl 1 rfl) ?_
            refine behR (runSP (As := [.int x28_3, .int a2]) (rest := []) ⟨hx, hb, hml, hown, ht⟩ (sX11_bit l G cs x28_3 a2 ) okS_RX11_258 ⟨by decide, by decide⟩ hK hP [] rfl hl.1 rfl (Nat.le_of_ble_eq_true rfl) dX11_far_37 ⟨by decide, by decide⟩) hP hS (fun _ h => h) (fun r17002 H locs hr17002 hP hS => ?_)
            have hr17002 : r17002 = bitE x28_3 a2 ∧ (0 : Int) ≤ r17002.toInt ∧ r17002.toInt ≤ 1 := hr17002
            refine lv_iconst (v := 1) hx hb dX11_far_40 (by decide) ?_
            refine lv_icmp_ne (tgt := 47) hx hb dX11_far_41 (by decide) (fun c17003 => ?_) (fun c17003 => ?_)
            · have zc17003 := neK rfl (show (1 : Int32).toInt = 1 by decide) c17003
              refine lv_aload_n hx hb dX11_far_47 rfl (lv_at hl 0 rfl) ?_
              refine lv_iload_n hx hb dX11_far_48 rfl (lv_at hl 2 rfl) ?_
              refine behR (runVP (As := [.int x28_3]) (rest := []) ⟨hx, hb, hml, hown, ht⟩ (sX11_wider l G cs h q F A D B hI x28_3 (by omega)) okV_RX11_330 ⟨by decide, by decide⟩ hK hP [0, 1, 2, 3, 4, 5, 6, 7, 8, 9, 10, 11, 12, 13, 14, 15, 16, 17, 18, 19] rfl 0 rfl rfl hl.1 rfl (Nat.le_of_ble_eq_true rfl) dX11_far_49 ⟨by decide, by decide⟩) hP hS (fun _ h => h) (fun r17004 H locs hr17004 hP hS => ?_)
              have hr17004 : (0 : Int) ≤ r17004.toInt ∧ r17004.toInt ≤ 127 := hr17004
              refine lv_istore_n (lv' := [(3, .int r17004), (0, .ref h), (2, .int a2), (4, .int x28_4)]) hx hb dX11_far_52 rfl hl (by decide) rfl (fun ls hl => ?_)
              obtain ⟨v17005, ev17005⟩ : ∃ z : Int32, z = x28_4 + 1 := ⟨_, rfl⟩
              have tv17005 : v17005.toInt = x28_4.toInt + 1 := by rw [ev17005]; exact addT rfl (by decide) (by omega)
              refine lv_iinc (v := v17005) (lv' := [(4, .int v17005), (3, .int r17004), (0, .ref h), (2, .int a2)]) hx hb dX11_far_53 hl (k := 3) rfl (by rw [ev17005]; rfl) (by decide) rfl (fun ls hl => ?_)
              refine lv_goto (tgt := 28) hx hb dX11_far_56 (by decide) ?_
              exact ih28 r17004 v17005 H locs ls (by omega) (by omega) (by omega) hP hS (lv_sub hl [2, 3, 1, 0] rfl)
            · have zc17003 := eqK rfl (show (1 : Int32).toInt = 1 by decide) c17003
              refine lv_iload hx hb dX11_far_44 (lv_at hl 3 rfl) ?_
              exact retRi hx hb hr hlk hS dX11_far_46 (trivial)
      exact B28 _ v9 0 H locs ls (Nat.lt_succ_self _) (by omega) (by decide) hP hS (lv_sub hl [2, 4, 1, 0] rfl)
    · have zc8 := eqK rfl (show (0 : Int32).toInt = 0 by decide) c8
      refine lv_bipush (v := (-2)) hx hb dX11_far_18 (by decide) ?_
      exact retRi hx hb hr hlk hS dX11_far_20 (trivial)

set_option maxRecDepth 100000 in
set_option maxHeartbeats 8000000 in
theorem sX11_rest (l : Launch) (G : va_G) (cs : Nat → ClassId) (h : Nat) (q : Nat → Nat) (F : Nat → Int32) (A : Nat → Nat → Int32) (D : Int64) (B : Nat → Nat → Int64) (hI : IM F A) : ImpI l yX11_rest cX11_rest 4 (some .int) 5 0 0 G (TY cs) [.ref h] (mS cs h q F A D B) (fun (r : Int32) (u : Int32 × Int32 × (Nat → Int32) × (Nat → Int32)) => True) (fun u : Int32 × Int32 × (Nat → Int32) × (Nat → Int32) => (mS cs h q (upd (upd F 17 u.1) 18 u.2.1) (vA (vA A 15 u.2.2.1) 16 u.2.2.2) D B)) := by
  refine mkD (Qc := (QDi G (fun (r : Int32) (u : Int32 × Int32 × (Nat → Int32) × (Nat → Int32)) => True) (fun u : Int32 × Int32 × (Nat → Int32) × (Nat → Int32) => (mS cs h q (upd (upd F 17 u.1) 18 u.2.1) (vA (vA A 15 u.2.2.1) 16 u.2.2.2) D B)))) (by decide) (by simp [lg_sl, Value.category]) ?_
  intro p e s m args below meth c ls A0 hx hb hml hr hlk hown hmn ht hK hP hD hS hA hl
  have hl : lv_has ls 4 [(0, .ref h)] := hl
  refine lv_aload_n hx hb dX11_rest_0 rfl (lv_at hl 0 rfl) ?_
  refine behR (runVP (As := []) (rest := []) ⟨hx, hb, hml, hown, ht⟩ (sX11_isHouse l G cs h q F A D B hI  ) okV_RX11_83 ⟨by decide, by decide⟩ hK hP [0, 1, 2, 3, 4, 5, 6, 7, 8, 9, 10, 11, 12, 13, 14, 15, 16, 17, 18, 19] rfl 0 rfl rfl hl.1 rfl (Nat.le_of_ble_eq_true rfl) dX11_rest_1 ⟨by decide, by decide⟩) hP hS hA (fun r1 H locs hr1 hP hS => ?_)
  have hr1 : (0 : Int) ≤ r1.toInt ∧ r1.toInt ≤ 1 := hr1
  refine lv_if_ne (tgt := 10) hx hb dX11_rest_4 (by decide) (fun c2 => ?_) (fun c2 => ?_)
  · have zc2 := neK rfl (show (0 : Int32).toInt = 0 by decide) c2
    refine lv_aload_n hx hb dX11_rest_10 rfl (lv_at hl 0 rfl) ?_
    refine behDw (wr := []) (runVD (As := []) (rest := []) ⟨hx, hb, hml, hown, ht⟩ (sX11_asItIs l G cs h q F A D B hI  ) okV_RX11_278 ⟨by decide, by decide⟩ hK hP hD [0, 1, 2, 3, 4, 5, 6, 7, 8, 9, 10, 11, 12, 13, 14, 15, 16, 17, 18, 19] rfl (by decide) rfl 0 rfl rfl hl.1 rfl (Nat.le_of_ble_eq_true rfl) dX11_rest_11 ⟨(Nat.le_of_ble_eq_true rfl), (Nat.le_of_ble_eq_true rfl)⟩) hP hD hS hA [0, 1, 2, 3, 4, 5, 6, 7, 8, 9, 10, 11, 12, 13, 14, 15, 16, 17, 18, 19] [] rfl rfl (by decide) (by decide) (fun u H locs hu hP hD hS => ?_)
    obtain ⟨x3, x4, g5, g6⟩ := u
    have hr7 := hu
    have hP : va_P G vwCl (mS cs h q (upd (upd F 17 x3) 18 x4) (vA (vA A 15 g5) 16 g6) D B) H := hP
    have hD : va_D A0 (mS cs h q (upd (upd F 17 x3) 18 x4) (vA (vA A 15 g5) 16 g6) D B) := hD
    refine lv_iconst (v := 0) hx hb dX11_rest_14 (by decide) ?_
    refine lv_istore_n (lv' := [(1, .int 0), (0, .ref h)]) hx hb dX11_rest_15 rfl hl (by decide) rfl (fun ls hl => ?_)
    have B16 : ∀ (n : Nat) (x16_1 : Int32) (a15_16 : (Nat → Int32)) (a16_16 : (Nat → Int32)) (H : Heap) (locs : List Loc) (ls : Array Slot), (201 - x16_1.toInt).toNat < n → (0 : Int) ≤ x16_1.toInt ∧ x16_1.toInt ≤ 201 → va_P G vwCl (mS cs h q (upd (upd F 17 x3) 18 x4) (vA (vA A 15 a15_16) 16 a16_16) D B) H → va_D A0 (mS cs h q (upd (upd F 17 x3) 18 x4) (vA (vA A 15 a15_16) 16 a16_16) D B) → va_S A0 s.heap H locs → lv_has ls 4 [(0, .ref h), (1, .int x16_1)] → W p l e (rmk 5 0 0) s m args below meth c H locs 0 0 (MQ below ((QDi G (fun (r : Int32) (u : Int32 × Int32 × (Nat → Int32) × (Nat → Int32)) => True) (fun u : Int32 × Int32 × (Nat → Int32) × (Nat → Int32) => (mS cs h q (upd (upd F 17 u.1) 18 u.2.1) (vA (vA A 15 u.2.2.1) 16 u.2.2.2) D B))) A0) args s 0 0 A0) (F0 m 16 ls []) := by
      intro n
      induction n with
      | zero => intro x16_1 a15_16 a16_16 H locs ls hmeas hx16_1 hP hD hS hl; exact absurd hmeas (Nat.not_lt_zero _)
      | succ n ih16 =>
        intro x16_1 a15_16 a16_16 H locs ls hmeas hx16_1 hP hD hS hl
        refine lv_iload_n hx hb dX11_rest_16 rfl (lv_at hl 1 rfl) ?_
        refine lv_sipush (v := 200) hx hb dX11_rest_17 (by decide) ?_
        refine lv_icmp_gt (tgt := 75) hx hb dX11_rest_20 (by decide) (fun c10001 => ?_) (fun c10001 => ?_)
        · have zc10001 := ltK (show (200 : Int32).toInt = 200 by decide) rfl c10001
          refine lv_iconst (v := (-1)) hx hb dX11_rest_75 (by decide) ?_
          exact retDi (x3, x4, a15_16, a16_16) hx hb hr hlk hP hD hS dX11_rest_76 (trivial) (Nat.le_of_ble_eq_true rfl) (Nat.le_of_ble_eq_true rfl)
        · have zc10001 := nltK (show (200 : Int32).toInt = 200 by decide) rfl c10001
          refine lv_aload_n hx hb dX11_rest_23 rfl (lv_at hl 0 rfl) ?_
          refine lv_iconst (v := (-1)) hx hb dX11_rest_24 (by decide) ?_
          refine behDw (wr := []) (runVD (As := [.int (-1)]) (rest := []) ⟨hx, hb, hml, hown, ht⟩ (sX11_goMinute l G cs h q (upd (upd F 17 x3) 18 x4) (vA (vA A 15 a15_16) 16 a16_16) D B (IM_arr (k := 16) (IM_arr (k := 15) (IM_put (k := 18) (IM_put (k := 17) hI (i32b _)) (i32b _)) (fun _ => i32b _)) (fun _ => i32b _)) (-1) ) okV_RX11_267 ⟨by decide, by decide⟩ hK hP hD [0, 1, 2, 3, 4, 5, 6, 7, 8, 9, 10, 11, 12, 13, 14, 15, 16, 17, 18, 19] rfl (by decide) rfl 0 rfl rfl hl.1 rfl (Nat.le_of_ble_eq_true rfl) dX11_rest_25 ⟨(Nat.le_of_ble_eq_true rfl), (Nat.le_of_ble_eq_true rfl)⟩) hP hD hS hA [0, 1, 2, 3, 4, 5, 6, 7, 8, 9, 10, 11, 12, 13, 14, 15, 16, 17, 18, 19] [] rfl rfl (by decide) (by decide) (fun u H locs hu hP hD hS => ?_)
          obtain ⟨g10002, g10003⟩ := u
          have hr10004 := hu
          have hP : va_P G vwCl (mS cs h q (upd (upd F 17 x3) 18 x4) (vA (vA A 15 g10002) 16 g10003) D B) H := hP
          have hD : va_D A0 (mS cs h q (upd (upd F 17 x3) 18 x4) (vA (vA A 15 g10002) 16 g10003) D B) := hD
          refine lv_iconst (v := 1) hx hb dX11_rest_28 (by decide) ?_
          refine lv_istore_n (lv' := [(2, .int 1), (0, .ref h), (1, .int x16_1)]) hx hb dX11_rest_29 rfl hl (by decide) rfl (fun ls hl => ?_)
          refine lv_iconst (v := 0) hx hb dX11_rest_30 (by decide) ?_
          refine lv_istore_n (lv' := [(3, .int 0), (2, .int 1), (0, .ref h), (1, .int x16_1)]) hx hb dX11_rest_31 rfl hl (by decide) rfl (fun ls hl => ?_)
          have B32 : ∀ (n : Nat) (x32_2 : Int32) (x32_3 : Int32) (H : Heap) (locs : List Loc) (ls : Array Slot), (7 - x32_3.toInt).toNat < n → (0 : Int) ≤ x32_2.toInt ∧ x32_2.toInt ≤ 1 → (0 : Int) ≤ x32_3.toInt ∧ x32_3.toInt ≤ 7 → va_P G vwCl (mS cs h q (upd (upd F 17 x3) 18 x4) (vA (vA A 15 g10002) 16 g10003) D B) H → va_D A0 (mS cs h q (upd (upd F 17 x3) 18 x4) (vA (vA A 15 g10002) 16 g10003) D B) → va_S A0 s.heap H locs → lv_has ls 4 [(0, .ref h), (1, .int x16_1), (2, .int x32_2), (3, .int x32_3)] → W p l e (rmk 5 0 0) s m args below meth c H locs 0 0 (MQ below ((QDi G (fun (r : Int32) (u : Int32 × Int32 × (Nat → Int32) × (Nat → Int32)) => True) (fun u : Int32 × Int32 × (Nat → Int32) × (Nat → Int32) => (mS cs h q (upd (upd F 17 u.1) 18 u.2.1) (vA (vA A 15 u.2.2.1) 16 u.2.2.2) D B))) A0) args s 0 0 A0) (F0 m 32 ls []) := by
            intro n
            induction n with
            | zero => intro x32_2 x32_3 H locs ls hmeas hx32_2 hx32_3 hP hD hS hl; exact absurd hmeas (Nat.not_lt_zero _)
            | succ n ih32 =>
              intro x32_2 x32_3 H locs ls hmeas hx32_2 hx32_3 hP hD hS hl
              refine lv_iload_n hx hb dX11_rest_32 rfl (lv_at hl 3 rfl) ?_
              refine lv_bipush (v := 7) hx hb dX11_rest_33 (by decide) ?_
              have B63 : ∀ (H : Heap) (locs : List Loc) (ls : Array Slot), va_P G vwCl (mS cs h q (upd (upd F 17 x3) 18 x4) (vA (vA A 15 g10002) 16 g10003) D B) H → va_D A0 (mS cs h q (upd (upd F 17 x3) 18 x4) (vA (vA A 15 g10002) 16 g10003) D B) → va_S A0 s.heap H locs → lv_has ls 4 [(0, .ref h), (1, .int x16_1), (2, .int x32_2)] → W p l e (rmk 5 0 0) s m args below meth c H locs 0 0 (MQ below ((QDi G (fun (r : Int32) (u : Int32 × Int32 × (Nat → Int32) × (Nat → Int32)) => True) (fun u : Int32 × Int32 × (Nat → Int32) × (Nat → Int32) => (mS cs h q (upd (upd F 17 u.1) 18 u.2.1) (vA (vA A 15 u.2.2.1) 16 u.2.2.2) D B))) A0) args s 0 0 A0) (F0 m 63 ls []) := by
                intro H locs ls hP hD hS hl
                refine lv_iload_n hx hb dX11_rest_63 rfl (lv_at hl 2 rfl) ?_
                refine lv_if_eq (tgt := 69) hx hb dX11_rest_64 (by decide) (fun c36001 => ?_) (fun c36001 => ?_)
                · have zc36001 := eqK rfl (show (0 : Int32).toInt = 0 by decide) c36001
                  obtain ⟨v36002, ev36002⟩ : ∃ z : Int32, z = x16_1 + 1 := ⟨_, rfl⟩
                  have tv36002 : v36002.toInt = x16_1.toInt + 1 := by rw [ev36002]; exact addT rfl (by decide) (by omega)
                  refine lv_iinc (v := v36002) (lv' := [(1, .int v36002), (0, .ref h), (2, .int x32_2)]) hx hb dX11_rest_69 hl (k := 1) rfl (by rw [ev36002]; rfl) (by decide) rfl (fun ls hl => ?_)
                  refine lv_goto (tgt := 16) hx hb dX11_rest_72 (by decide) ?_
                  exact ih16 v36002 g10002 g10003 H locs ls (by omega) (by omega) hP hD hS (lv_sub hl [1, 0] rfl)
                · have zc36001 := neK rfl (show (0 : Int32).toInt = 0 by decide) c36001
                  refine lv_iload_n hx hb dX11_rest_67 rfl (lv_at hl 1 rfl) ?_
                  exact retDi (x3, x4, g10002, g10003) hx hb hr hlk hP hD hS dX11_rest_68 (trivial) (Nat.le_of_ble_eq_true rfl) (Nat.le_of_ble_eq_true rfl)
              refine lv_icmp_ge (tgt := 63) hx hb dX11_rest_35 (by decide) (fun c20001 => ?_) (fun c20001 => ?_)
              · have zc20001 := leK (show (7 : Int32).toInt = 7 by decide) rfl c20001
                exact B63 H locs ls hP hD hS (lv_sub hl [0, 1, 2] rfl)
              · have zc20001 := nleK (show (7 : Int32).toInt = 7 by decide) rfl c20001
                refine lv_iload_n hx hb dX11_rest_38 rfl (lv_at hl 2 rfl) ?_
                refine lv_if_eq (tgt := 63) hx hb dX11_rest_39 (by decide) (fun c20002 => ?_) (fun c20002 => ?_)
                · have zc20002 := eqK rfl (show (0 : Int32).toInt = 0 by decide) c20002
                  exact B63 H locs ls hP hD hS (lv_sub hl [0, 1, 2] rfl)
                · have zc20002 := neK rfl (show (0 : Int32).toInt = 0 by decide) c20002
                  refine lv_aload_n hx hb dX11_rest_42 rfl (lv_at hl 0 rfl) ?_
                  refine getF (v := .ref (q 16)) hx hb ht hown hK hP iTX11 0 16 rfl rfl (by decide) fl_RX11_37 rfl dX11_rest_43 ?_
                  refine lv_iload_n hx hb dX11_rest_46 rfl (lv_at hl 3 rfl) ?_
                  refine va_iald hx hb hK.1 hP 8 0 rfl rfl (inK rfl (by omega) (by decide)) dX11_rest_47 ?_
                  refine lv_topi (fun v20003 ev20003 => ?_)
                  have B56 : ∀ (s56_0 : Int32) (H : Heap) (locs : List Loc) (ls : Array Slot), (0 : Int) ≤ s56_0.toInt ∧ s56_0.toInt ≤ 1 → va_P G vwCl (mS cs h q (upd (upd F 17 x3) 18 x4) (vA (vA A 15 g10002) 16 g10003) D B) H → va_D A0 (mS cs h q (upd (upd F 17 x3) 18 x4) (vA (vA A 15 g10002) 16 g10003) D B) → va_S A0 s.heap H locs → lv_has ls 4 [(0, .ref h), (1, .int x16_1), (3, .int x32_3)] → W p l e (rmk 5 0 0) s m args below meth c H locs 0 0 (MQ below ((QDi G (fun (r : Int32) (u : Int32 × Int32 × (Nat → Int32) × (Nat → Int32)) => True) (fun u : Int32 × Int32 × (Nat → Int32) × (Nat → Int32) => (mS cs h q (upd (upd F 17 u.1) 18 u.2.1) (vA (vA A 15 u.2.2.1) 16 u.2.2.2) D B))) A0) args s 0 0 A0) (F0 m 56 ls [.int s56_0]) := by
                    intro s56_0 H locs ls hs56_0 hP hD hS hl
                    refine lv_istore_n (lv' := [(2, .int s56_0), (0, .ref h), (1, .int x16_1), (3, .int x32_3)]) hx hb dX11_rest_56 rfl hl (by decide) rfl (fun ls hl => ?_)
                    obtain ⟨v33001, ev33001⟩ : ∃ z : Int32, z = x32_3 + 1 := ⟨_, rfl⟩
                    have tv33001 : v33001.toInt = x32_3.toInt + 1 := by rw [ev33001]; exact addT rfl (by decide) (by omega)
                    refine lv_iinc (v := v33001) (lv' := [(3, .int v33001), (2, .int s56_0), (0, .ref h), (1, .int x16_1)]) hx hb dX11_rest_57 hl (k := 3) rfl (by rw [ev33001]; rfl) (by decide) rfl (fun ls hl => ?_)
                    refine lv_goto (tgt := 32) hx hb dX11_rest_60 (by decide) ?_
                    exact ih32 s56_0 v33001 H locs ls (by omega) (by omega) (by omega) hP hD hS (lv_sub hl [2, 3, 1, 0] rfl)
                  refine lv_if_ne (tgt := 55) hx hb dX11_rest_48 (by decide) (fun c20004 => ?_) (fun c20004 => ?_)
                  · have zc20004 := neK rfl (show (0 : Int32).toInt = 0 by decide) c20004
                    refine lv_iconst (v := 0) hx hb dX11_rest_55 (by decide) ?_
                    exact B56 0 H locs ls (by decide) hP hD hS (lv_sub hl [0, 1, 3] rfl)
                  · have zc20004 := eqK rfl (show (0 : Int32).toInt = 0 by decide) c20004
                    refine lv_iconst (v := 1) hx hb dX11_rest_51 (by decide) ?_
                    refine lv_goto (tgt := 56) hx hb dX11_rest_52 (by decide) ?_
                    exact B56 1 H locs ls (by decide) hP hD hS (lv_sub hl [0, 1, 3] rfl)
          exact B32 _ 1 0 H locs ls (Nat.lt_succ_self _) (by decide) (by decide) hP hD hS (lv_sub hl [2, 3, 1, 0] rfl)
    exact B16 _ 0 g5 g6 H locs ls (Nat.lt_succ_self _) (by decide) hP hD hS (lv_sub hl [1, 0] rfl)
  · have zc2 := eqK rfl (show (0 : Int32).toInt = 0 by decide) c2
    refine lv_bipush (v := (-2)) hx hb dX11_rest_7 (by decide) ?_
    exact retDi ((F 17), (F 18), (A 15), (A 16)) hx hb hr hlk hP hD hS dX11_rest_9 (trivial) (Nat.le_of_ble_eq_true rfl) (Nat.le_of_ble_eq_true rfl)

set_option maxRecDepth 100000 in
set_option maxHeartbeats 8000000 in
theorem sX11_trumpet (l : Launch) (G : va_G) (cs : Nat → ClassId) (h : Nat) (q : Nat → Nat) (F : Nat → Int32) (A : Nat → Nat → Int32) (D : Int64) (B : Nat → Nat → Int64) (hI : IM F A) : ImpI l yX11_trumpet cX11_trumpet 3 (some .int) 5 0 0 G (TY cs) [.ref h] (mS cs h q F A D B) (fun (r : Int32) (u : Int32 × Int32 × (Nat → Int32) × (Nat → Int32)) => True) (fun u : Int32 × Int32 × (Nat → Int32) × (Nat → Int32) => (mS cs h q (upd (upd F 17 u.1) 18 u.2.1) (vA (vA A 15 u.2.2.1) 16 u.2.2.2) D B)) := by
  refine mkD (Qc := (QDi G (fun (r : Int32) (u : Int32 × Int32 × (Nat → Int32) × (Nat → Int32)) => True) (fun u : Int32 × Int32 × (Nat → Int32) × (Nat → Int32) => (mS cs h q (upd (upd F 17 u.1) 18 u.2.1) (vA (vA A 15 u.2.2.1) 16 u.2.2.2) D B)))) (by decide) (by simp [lg_sl, Value.category]) ?_
  intro p e s m args below meth c ls A0 hx hb hml hr hlk hown hmn ht hK hP hD hS hA hl
  have hl : lv_has ls 3 [(0, .ref h)] := hl
  refine lv_aload_n hx hb dX11_trumpet_0 rfl (lv_at hl 0 rfl) ?_
  refine behR (runVP (As := []) (rest := []) ⟨hx, hb, hml, hown, ht⟩ (sX11_isHouse l G cs h q F A D B hI  ) okV_RX11_83 ⟨by decide, by decide⟩ hK hP [0, 1, 2, 3, 4, 5, 6, 7, 8, 9, 10, 11, 12, 13, 14, 15, 16, 17, 18, 19] rfl 0 rfl rfl hl.1 rfl (Nat.le_of_ble_eq_true rfl) dX11_trumpet_1 ⟨by decide, by decide⟩) hP hS hA (fun r1 H locs hr1 hP hS => ?_)
  have hr1 : (0 : Int) ≤ r1.toInt ∧ r1.toInt ≤ 1 := hr1
  refine lv_if_ne (tgt := 10) hx hb dX11_trumpet_4 (by decide) (fun c2 => ?_) (fun c2 => ?_)
  · have zc2 := neK rfl (show (0 : Int32).toInt = 0 by decide) c2
    refine lv_aload_n hx hb dX11_trumpet_10 rfl (lv_at hl 0 rfl) ?_
    refine behDw (wr := []) (runVD (As := []) (rest := []) ⟨hx, hb, hml, hown, ht⟩ (sX11_asItIs l G cs h q F A D B hI  ) okV_RX11_278 ⟨by decide, by decide⟩ hK hP hD [0, 1, 2, 3, 4, 5, 6, 7, 8, 9, 10, 11, 12, 13, 14, 15, 16, 17, 18, 19] rfl (by decide) rfl 0 rfl rfl hl.1 rfl (Nat.le_of_ble_eq_true rfl) dX11_trumpet_11 ⟨(Nat.le_of_ble_eq_true rfl), (Nat.le_of_ble_eq_true rfl)⟩) hP hD hS hA [0, 1, 2, 3, 4, 5, 6, 7, 8, 9, 10, 11, 12, 13, 14, 15, 16, 17, 18, 19] [] rfl rfl (by decide) (by decide) (fun u H locs hu hP hD hS => ?_)
    obtain ⟨x3, x4, g5, g6⟩ := u
    have hr7 := hu
    have hP : va_P G vwCl (mS cs h q (upd (upd F 17 x3) 18 x4) (vA (vA A 15 g5) 16 g6) D B) H := hP
    have hD : va_D A0 (mS cs h q (upd (upd F 17 x3) 18 x4) (vA (vA A 15 g5) 16 g6) D B) := hD
    refine lv_iconst (v := 0) hx hb dX11_trumpet_14 (by decide) ?_
    refine lv_istore_n (lv' := [(1, .int 0), (0, .ref h)]) hx hb dX11_trumpet_15 rfl hl (by decide) rfl (fun ls hl => ?_)
    refine lv_iconst (v := 0) hx hb dX11_trumpet_16 (by decide) ?_
    refine lv_istore_n (lv' := [(2, .int 0), (1, .int 0), (0, .ref h)]) hx hb dX11_trumpet_17 rfl hl (by decide) rfl (fun ls hl => ?_)
    have B18 : ∀ (n : Nat) (x18_1 : Int32) (x18_2 : Int32) (H : Heap) (locs : List Loc) (ls : Array Slot), (7 - x18_2.toInt).toNat < n → (0 : Int) ≤ x18_2.toInt ∧ x18_2.toInt ≤ 7 → va_P G vwCl (mS cs h q (upd (upd F 17 x3) 18 x4) (vA (vA A 15 g5) 16 g6) D B) H → va_D A0 (mS cs h q (upd (upd F 17 x3) 18 x4) (vA (vA A 15 g5) 16 g6) D B) → va_S A0 s.heap H locs → lv_has ls 3 [(0, .ref h), (1, .int x18_1), (2, .int x18_2)] → W p l e (rmk 5 0 0) s m args below meth c H locs 0 0 (MQ below ((QDi G (fun (r : Int32) (u : Int32 × Int32 × (Nat → Int32) × (Nat → Int32)) => True) (fun u : Int32 × Int32 × (Nat → Int32) × (Nat → Int32) => (mS cs h q (upd (upd F 17 u.1) 18 u.2.1) (vA (vA A 15 u.2.2.1) 16 u.2.2.2) D B))) A0) args s 0 0 A0) (F0 m 18 ls []) := by
      intro n
      induction n with
      | zero => intro x18_1 x18_2 H locs ls hmeas hx18_2 hP hD hS hl; exact absurd hmeas (Nat.not_lt_zero _)
      | succ n ih18 =>
        intro x18_1 x18_2 H locs ls hmeas hx18_2 hP hD hS hl
        refine lv_iload_n hx hb dX11_trumpet_18 rfl (lv_at hl 2 rfl) ?_
        refine lv_aload_n hx hb dX11_trumpet_19 rfl (lv_at hl 0 rfl) ?_
        refine getF (v := .ref (q 1)) hx hb ht hown hK hP iTX11 0 1 rfl rfl (by decide) fl_RX11_9 rfl dX11_trumpet_20 ?_
        refine lv_iconst (v := 4) hx hb dX11_trumpet_23 (by decide) ?_
        refine va_iald hx hb hK.1 hP 1 0 rfl rfl (show ¬ (_ ∨ _) by decide) dX11_trumpet_24 ?_
        refine W.eq (g2 := F0 m 25 ls [.int (A 1 4), .int x18_2]) rfl ?_
        have zf12001 : (0 : Int) ≤ (A 1 4).toInt ∧ (A 1 4).toInt ≤ 7 := (hI.2 1 4)
        refine lv_icmp_ge (tgt := 43) hx hb dX11_trumpet_25 (by decide) (fun c12002 => ?_) (fun c12002 => ?_)
        · have zc12002 := leK rfl rfl c12002
          refine lv_iload_n hx hb dX11_trumpet_43 rfl (lv_at hl 1 rfl) ?_
          exact retDi (x3, x4, g5, g6) hx hb hr hlk hP hD hS dX11_trumpet_44 (trivial) (Nat.le_of_ble_eq_true rfl) (Nat.le_of_ble_eq_true rfl)
        · have zc12002 := nleK rfl rfl c12002
          refine lv_iload_n hx hb dX11_trumpet_28 rfl (lv_at hl 1 rfl) ?_
          refine lv_aload_n hx hb dX11_trumpet_29 rfl (lv_at hl 0 rfl) ?_
          refine lv_iload_n hx hb dX11_trumpet_30 rfl (lv_at hl 2 rfl) ?_
          refine lv_iconst (v := 0) hx hb dX11_trumpet_31 (by decide) ?_
          refine behR (runVP (As := [.int x18_2, .int 0]) (rest := [.int x18_1]) ⟨hx, hb, hml, hown, ht⟩ (sX11_wouldFind l G cs h q (upd (upd F 17 x3) 18 x4) (vA (vA A 15 g5) 16 g6) D B (IM_arr (k := 16) (IM_arr (k := 15) (IM_put (k := 18) (IM_put (k := 17) hI (i32b _)) (i32b _)) (fun _ => i32b _)) (fun _ => i32b _)) x18_2 0 (by omega) (by decide)) okV_RX11_252 ⟨by decide, by decide⟩ hK hP [0, 1, 2, 3, 4, 5, 6, 7, 8, 9, 10, 11, 12, 13, 14, 15, 16, 17, 18, 19] rfl 0 rfl rfl hl.1 rfl (Nat.le_of_ble_eq_true rfl) dX11_trumpet_32 ⟨by decide, by decide⟩) hP hS hA (fun r12003 H locs hr12003 hP hS => ?_)
          refine lv_iadd hx hb dX11_trumpet_35 ?_
          refine lv_topi (fun v12004 ev12004 => ?_)
          refine lv_istore_n (lv' := [(1, .int v12004), (0, .ref h), (2, .int x18_2)]) hx hb dX11_trumpet_36 rfl hl (by decide) rfl (fun ls hl => ?_)
          obtain ⟨v12005, ev12005⟩ : ∃ z : Int32, z = x18_2 + 1 := ⟨_, rfl⟩
          have tv12005 : v12005.toInt = x18_2.toInt + 1 := by rw [ev12005]; exact addT rfl (by decide) (by omega)
          refine lv_iinc (v := v12005) (lv' := [(2, .int v12005), (1, .int v12004), (0, .ref h)]) hx hb dX11_trumpet_37 hl (k := 2) rfl (by rw [ev12005]; rfl) (by decide) rfl (fun ls hl => ?_)
          refine lv_goto (tgt := 18) hx hb dX11_trumpet_40 (by decide) ?_
          exact ih18 v12004 v12005 H locs ls (by omega) (by omega) hP hD hS (lv_sub hl [2, 1, 0] rfl)
    exact B18 _ 0 0 H locs ls (Nat.lt_succ_self _) (by decide) hP hD hS (lv_sub hl [2, 1, 0] rfl)
  · have zc2 := eqK rfl (show (0 : Int32).toInt = 0 by decide) c2
    refine lv_bipush (v := (-2)) hx hb dX11_trumpet_7 (by decide) ?_
    exact retDi ((F 17), (F 18), (A 15), (A 16)) hx hb hr hlk hP hD hS dX11_trumpet_9 (trivial) (Nat.le_of_ble_eq_true rfl) (Nat.le_of_ble_eq_true rfl)

set_option maxRecDepth 100000 in
set_option maxHeartbeats 8000000 in
theorem sX11_quietBy (l : Launch) (G : va_G) (cs : Nat → ClassId) (h : Nat) (q : Nat → Nat) (F : Nat → Int32) (A : Nat → Nat → Int32) (D : Int64) (B : Nat → Nat → Int64) (hI : IM F A) (a1 : Int32) : ImpI l yX11_quietBy cX11_quietBy 7 (some .int) 5 0 0 G (TY cs) [.ref h, .int a1] (mS cs h q F A D B) (fun (r : Int32) (u : Int32 × Int32 × Int32 × (Nat → Int32) × (Nat → Int32)) => True) (fun u : Int32 × Int32 × Int32 × (Nat → Int32) × (Nat → Int32) => (mS cs h q (upd (upd (upd F 17 u.1) 18 u.2.1) 22 u.2.2.1) (vA (vA A 15 u.2.2.2.1) 16 u.2.2.2.2) D B)) := by
  refine mkD (Qc := (QDi G (fun (r : Int32) (u : Int32 × Int32 × Int32 × (Nat → Int32) × (Nat → Int32)) => True) (fun u : Int32 × Int32 × Int32 × (Nat → Int32) × (Nat → Int32) => (mS cs h q (upd (upd (upd F 17 u.1) 18 u.2.1) 22 u.2.2.1) (vA (vA A 15 u.2.2.2.1) 16 u.2.2.2.2) D B)))) (by decide) (by simp [lg_sl, Value.category]) ?_
  intro p e s m args below meth c ls A0 hx hb hml hr hlk hown hmn ht hK hP hD hS hA hl
  have hl : lv_has ls 7 [(0, .ref h), (1, .int a1)] := hl
  refine lv_aload_n hx hb dX11_quietBy_0 rfl (lv_at hl 0 rfl) ?_
  refine behDw (wr := []) (runVD (As := []) (rest := []) ⟨hx, hb, hml, hown, ht⟩ (sX11_asItIs l G cs h q F A D B hI  ) okV_RX11_278 ⟨by decide, by decide⟩ hK hP hD [0, 1, 2, 3, 4, 5, 6, 7, 8, 9, 10, 11, 12, 13, 14, 15, 16, 17, 18, 19] rfl (by decide) rfl 0 rfl rfl hl.1 rfl (Nat.le_of_ble_eq_true rfl) dX11_quietBy_1 ⟨(Nat.le_of_ble_eq_true rfl), (Nat.le_of_ble_eq_true rfl)⟩) hP hD hS hA [0, 1, 2, 3, 4, 5, 6, 7, 8, 9, 10, 11, 12, 13, 14, 15, 16, 17, 18, 19] [] rfl rfl (by decide) (by decide) (fun u H locs hu hP hD hS => ?_)
  obtain ⟨x1, x2, g3, g4⟩ := u
  have hr5 := hu
  have hP : va_P G vwCl (mS cs h q (upd (upd F 17 x1) 18 x2) (vA (vA A 15 g3) 16 g4) D B) H := hP
  have hD : va_D A0 (mS cs h q (upd (upd F 17 x1) 18 x2) (vA (vA A 15 g3) 16 g4) D B) := hD
  refine lv_aload_n hx hb dX11_quietBy_4 rfl (lv_at hl 0 rfl) ?_
  refine lv_ldcw hx hb hown (ht _ ki_RX11_333) dX11_quietBy_5 ?_
  refine putD hx hb ht hown hK hP hD hS iTX11 tyX11 tyX11_ok nmX11 0 22 rfl rfl (by decide) fl_RX11_334 rfl rfl rfl (Nat.le_of_ble_eq_true rfl) dX11_quietBy_8 (fun H locs hP hD hS => ?_)
  have hP : va_P G vwCl (mS cs h q (upd (upd (upd F 17 x1) 18 x2) 22 1000000000) (vA (vA A 15 g3) 16 g4) D B) H := hP
  have hD : va_D A0 (mS cs h q (upd (upd (upd F 17 x1) 18 x2) 22 1000000000) (vA (vA A 15 g3) 16 g4) D B) := hD
  refine lv_iconst (v := (-1)) hx hb dX11_quietBy_11 (by decide) ?_
  refine lv_istore_n (lv' := [(2, .int (-1)), (0, .ref h), (1, .int a1)]) hx hb dX11_quietBy_12 rfl hl (by decide) rfl (fun ls hl => ?_)
  refine lv_iconst (v := 0) hx hb dX11_quietBy_13 (by decide) ?_
  refine lv_istore_n (lv' := [(3, .int 0), (2, .int (-1)), (0, .ref h), (1, .int a1)]) hx hb dX11_quietBy_14 rfl hl (by decide) rfl (fun ls hl => ?_)
  have B15 : ∀ (n : Nat) (x15_2 : Int32) (x15_3 : Int32) (f22_15 : Int32) (H : Heap) (locs : List Loc) (ls : Array Slot), (128 - x15_3.toInt).toNat < n → (-1 : Int) ≤ x15_2.toInt ∧ x15_2.toInt ≤ 999999999 → (0 : Int) ≤ x15_3.toInt ∧ x15_3.toInt ≤ 128 → va_P G vwCl (mS cs h q (upd (upd (upd F 17 x1) 18 x2) 22 f22_15) (vA (vA A 15 g3) 16 g4) D B) H → va_D A0 (mS cs h q (upd (upd (upd F 17 x1) 18 x2) 22 f22_15) (vA (vA A 15 g3) 16 g4) D B) → va_S A0 s.heap H locs → lv_has ls 7 [(0, .ref h), (1, .int a1), (2, .int x15_2), (3, .int x15_3)] → W p l e (rmk 5 0 0) s m args below meth c H locs 0 0 (MQ below ((QDi G (fun (r : Int32) (u : Int32 × Int32 × Int32 × (Nat → Int32) × (Nat → Int32)) => True) (fun u : Int32 × Int32 × Int32 × (Nat → Int32) × (Nat → Int32) => (mS cs h q (upd (upd (upd F 17 u.1) 18 u.2.1) 22 u.2.2.1) (vA (vA A 15 u.2.2.2.1) 16 u.2.2.2.2) D B))) A0) args s 0 0 A0) (F0 m 15 ls []) := by
    intro n
    induction n with
    | zero => intro x15_2 x15_3 f22_15 H locs ls hmeas hx15_2 hx15_3 hP hD hS hl; exact absurd hmeas (Nat.not_lt_zero _)
    | succ n ih15 =>
      intro x15_2 x15_3 f22_15 H locs ls hmeas hx15_2 hx15_3 hP hD hS hl
      refine lv_iload_n hx hb dX11_quietBy_15 rfl (lv_at hl 3 rfl) ?_
      refine lv_aload_n hx hb dX11_quietBy_16 rfl (lv_at hl 0 rfl) ?_
      refine behR (runVP (As := []) (rest := [.int x15_3]) ⟨hx, hb, hml, hown, ht⟩ (sX11_allRooms l G cs h q (upd (upd (upd F 17 x1) 18 x2) 22 f22_15) (vA (vA A 15 g3) 16 g4) D B (IM_arr (k := 16) (IM_arr (k := 15) (IM_put (k := 22) (IM_put (k := 18) (IM_put (k := 17) hI (i32b _)) (i32b _)) (i32b _)) (fun _ => i32b _)) (fun _ => i32b _))  ) okV_RX11_337 ⟨by decide, by decide⟩ hK hP [0, 1, 2, 3, 4, 5, 6, 7, 8, 9, 10, 11, 12, 13, 14, 15, 16, 17, 18, 19] rfl 0 rfl rfl hl.1 rfl (Nat.le_of_ble_eq_true rfl) dX11_quietBy_17 ⟨by decide, by decide⟩) hP hS hA (fun r10001 H locs hr10001 hP hS => ?_)
      have hr10001 : (0 : Int) ≤ r10001.toInt ∧ r10001.toInt ≤ 127 := hr10001
      refine lv_icmp_gt (tgt := 119) hx hb dX11_quietBy_20 (by decide) (fun c10002 => ?_) (fun c10002 => ?_)
      · have zc10002 := ltK rfl rfl c10002
        refine lv_iload_n hx hb dX11_quietBy_119 rfl (lv_at hl 2 rfl) ?_
        exact retDi (x1, x2, f22_15, g3, g4) hx hb hr hlk hP hD hS dX11_quietBy_120 (trivial) (Nat.le_of_ble_eq_true rfl) (Nat.le_of_ble_eq_true rfl)
      · have zc10002 := nltK rfl rfl c10002
        refine lv_iconst (v := 0) hx hb dX11_quietBy_23 (by decide) ?_
        refine lv_istore (lv' := [(4, .int 0), (0, .ref h), (1, .int a1), (2, .int x15_2), (3, .int x15_3)]) hx hb dX11_quietBy_24 hl (by decide) rfl (fun ls hl => ?_)
        refine lv_iconst (v := 0) hx hb dX11_quietBy_26 (by decide) ?_
        refine lv_istore (lv' := [(5, .int 0), (4, .int 0), (0, .ref h), (1, .int a1), (2, .int x15_2), (3, .int x15_3)]) hx hb dX11_quietBy_27 hl (by decide) rfl (fun ls hl => ?_)
        refine lv_iconst (v := 0) hx hb dX11_quietBy_29 (by decide) ?_
        refine lv_istore (lv' := [(6, .int 0), (5, .int 0), (4, .int 0), (0, .ref h), (1, .int a1), (2, .int x15_2), (3, .int x15_3)]) hx hb dX11_quietBy_30 hl (by decide) rfl (fun ls hl => ?_)
        have B32 : ∀ (n : Nat) (x32_4 : Int32) (x32_5 : Int32) (x32_6 : Int32) (H : Heap) (locs : List Loc) (ls : Array Slot), (7 - x32_6.toInt).toNat < n → (0 : Int) ≤ x32_6.toInt ∧ x32_6.toInt ≤ 7 → va_P G vwCl (mS cs h q (upd (upd (upd F 17 x1) 18 x2) 22 f22_15) (vA (vA A 15 g3) 16 g4) D B) H → va_D A0 (mS cs h q (upd (upd (upd F 17 x1) 18 x2) 22 f22_15) (vA (vA A 15 g3) 16 g4) D B) → va_S A0 s.heap H locs → lv_has ls 7 [(0, .ref h), (1, .int a1), (2, .int x15_2), (3, .int x15_3), (4, .int x32_4), (5, .int x32_5), (6, .int x32_6)] → W p l e (rmk 5 0 0) s m args below meth c H locs 0 0 (MQ below ((QDi G (fun (r : Int32) (u : Int32 × Int32 × Int32 × (Nat → Int32) × (Nat → Int32)) => True) (fun u : Int32 × Int32 × Int32 × (Nat → Int32) × (Nat → Int32) => (mS cs h q (upd (upd (upd F 17 u.1) 18 u.2.1) 22 u.2.2.1) (vA (vA A 15 u.2.2.2.1) 16 u.2.2.2.2) D B))) A0) args s 0 0 A0) (F0 m 32 ls []) := by
          intro n
          induction n with
          | zero => intro x32_4 x32_5 x32_6 H locs ls hmeas hx32_6 hP hD hS hl; exact absurd hmeas (Nat.not_lt_zero _)
          | succ n ih32 =>
            intro x32_4 x32_5 x32_6 H locs ls hmeas hx32_6 hP hD hS hl
            refine lv_iload hx hb dX11_quietBy_32 (lv_at hl 6 rfl) ?_
            refine lv_aload_n hx hb dX11_quietBy_34 rfl (lv_at hl 0 rfl) ?_
            refine getF (v := .ref (q 1)) hx hb ht hown hK hP iTX11 0 1 rfl rfl (by decide) fl_RX11_9 rfl dX11_quietBy_35 ?_
            refine lv_iconst (v := 4) hx hb dX11_quietBy_38 (by decide) ?_
            refine va_iald hx hb hK.1 hP 1 0 rfl rfl (show ¬ (_ ∨ _) by decide) dX11_quietBy_39 ?_
            refine W.eq (g2 := F0 m 40 ls [.int (A 1 4), .int x32_6]) rfl ?_
            have zf20001 : (0 : Int) ≤ (A 1 4).toInt ∧ (A 1 4).toInt ≤ 7 := (hI.2 1 4)
            refine lv_icmp_ge (tgt := 87) hx hb dX11_quietBy_40 (by decide) (fun c20002 => ?_) (fun c20002 => ?_)
            · have zc20002 := leK rfl rfl c20002
              refine lv_iload hx hb dX11_quietBy_87 (lv_at hl 4 rfl) ?_
              refine lv_iload_n hx hb dX11_quietBy_89 rfl (lv_at hl 1 rfl) ?_
              have B113 : ∀ (x113_2 : Int32) (f22_113 : Int32) (H : Heap) (locs : List Loc) (ls : Array Slot), (-1 : Int) ≤ x113_2.toInt ∧ x113_2.toInt ≤ 999999999 → va_P G vwCl (mS cs h q (upd (upd (upd F 17 x1) 18 x2) 22 f22_113) (vA (vA A 15 g3) 16 g4) D B) H → va_D A0 (mS cs h q (upd (upd (upd F 17 x1) 18 x2) 22 f22_113) (vA (vA A 15 g3) 16 g4) D B) → va_S A0 s.heap H locs → lv_has ls 7 [(0, .ref h), (1, .int a1), (2, .int x113_2), (3, .int x15_3)] → W p l e (rmk 5 0 0) s m args below meth c H locs 0 0 (MQ below ((QDi G (fun (r : Int32) (u : Int32 × Int32 × Int32 × (Nat → Int32) × (Nat → Int32)) => True) (fun u : Int32 × Int32 × Int32 × (Nat → Int32) × (Nat → Int32) => (mS cs h q (upd (upd (upd F 17 u.1) 18 u.2.1) 22 u.2.2.1) (vA (vA A 15 u.2.2.2.1) 16 u.2.2.2.2) D B))) A0) args s 0 0 A0) (F0 m 113 ls []) := by
                intro x113_2 f22_113 H locs ls hx113_2 hP hD hS hl
                obtain ⟨v63001, ev63001⟩ : ∃ z : Int32, z = x15_3 + 1 := ⟨_, rfl⟩
                have tv63001 : v63001.toInt = x15_3.toInt + 1 := by rw [ev63001]; exact addT rfl (by decide) (by omega)
                refine lv_iinc (v := v63001) (lv' := [(3, .int v63001), (0, .ref h), (1, .int a1), (2, .int x113_2)]) hx hb dX11_quietBy_113 hl (k := 3) rfl (by rw [ev63001]; rfl) (by decide) rfl (fun ls hl => ?_)
                refine lv_goto (tgt := 15) hx hb dX11_quietBy_116 (by decide) ?_
                exact ih15 x113_2 v63001 f22_113 H locs ls (by omega) (by omega) (by omega) hP hD hS (lv_sub hl [1, 2, 3, 0] rfl)
              refine lv_icmp_lt (tgt := 113) hx hb dX11_quietBy_90 (by decide) (fun c20003 => ?_) (fun c20003 => ?_)
              · have zc20003 := ltK rfl rfl c20003
                exact B113 x15_2 f22_15 H locs ls (by omega) hP hD hS (lv_sub hl [0, 1, 2, 3] rfl)
              · have zc20003 := nltK rfl rfl c20003
                refine lv_iload hx hb dX11_quietBy_93 (lv_at hl 5 rfl) ?_
                refine lv_aload_n hx hb dX11_quietBy_95 rfl (lv_at hl 0 rfl) ?_
                refine getF (v := .int f22_15) hx hb ht hown hK hP iTX11 0 22 rfl rfl (by decide) fl_RX11_334 rfl dX11_quietBy_96 ?_
                refine lv_icmp_lt (tgt := 105) hx hb dX11_quietBy_99 (by decide) (fun c20004 => ?_) (fun c20004 => ?_)
                · have zc20004 := ltK rfl rfl c20004
                  refine lv_aload_n hx hb dX11_quietBy_105 rfl (lv_at hl 0 rfl) ?_
                  refine lv_iload hx hb dX11_quietBy_106 (lv_at hl 5 rfl) ?_
                  refine putD hx hb ht hown hK hP hD hS iTX11 tyX11 tyX11_ok nmX11 0 22 rfl rfl (by decide) fl_RX11_334 rfl rfl rfl (Nat.le_of_ble_eq_true rfl) dX11_quietBy_108 (fun H locs hP hD hS => ?_)
                  have hP : va_P G vwCl (mS cs h q (upd (upd (upd F 17 x1) 18 x2) 22 x32_5) (vA (vA A 15 g3) 16 g4) D B) H := hP
                  have hD : va_D A0 (mS cs h q (upd (upd (upd F 17 x1) 18 x2) 22 x32_5) (vA (vA A 15 g3) 16 g4) D B) := hD
                  refine lv_iload_n hx hb dX11_quietBy_111 rfl (lv_at hl 3 rfl) ?_
                  refine lv_istore_n (lv' := [(2, .int x15_3), (0, .ref h), (1, .int a1), (3, .int x15_3), (4, .int x32_4), (5, .int x32_5), (6, .int x32_6)]) hx hb dX11_quietBy_112 rfl hl (by decide) rfl (fun ls hl => ?_)
                  exact B113 x15_3 x32_5 H locs ls (by omega) hP hD hS (lv_sub hl [1, 2, 0, 3] rfl)
                · have zc20004 := nltK rfl rfl c20004
                  refine lv_goto (tgt := 113) hx hb dX11_quietBy_102 (by decide) ?_
                  exact B113 x15_2 f22_15 H locs ls (by omega) hP hD hS (lv_sub hl [0, 1, 2, 3] rfl)
            · have zc20002 := nleK rfl rfl c20002
              refine lv_iload hx hb dX11_quietBy_43 (lv_at hl 4 rfl) ?_
              refine lv_iload_n hx hb dX11_quietBy_45 rfl (lv_at hl 3 rfl) ?_
              refine lv_iload hx hb dX11_quietBy_46 (lv_at hl 6 rfl) ?_
              refine behR (runSP (As := [.int x15_3, .int x32_6]) (rest := [.int x32_4]) ⟨hx, hb, hml, hown, ht⟩ (sX11_bit l G cs x15_3 x32_6 ) okS_RX11_258 ⟨by decide, by decide⟩ hK hP [] rfl hl.1 rfl (Nat.le_of_ble_eq_true rfl) dX11_quietBy_48 ⟨by decide, by decide⟩) hP hS hA (fun r20005 H locs hr20005 hP hS => ?_)
              have hr20005 : r20005 = bitE x15_3 x32_6 ∧ (0 : Int) ≤ r20005.toInt ∧ r20005.toInt ≤ 1 := hr20005
              refine lv_aload_n hx hb dX11_quietBy_51 rfl (lv_at hl 0 rfl) ?_
              refine lv_iload hx hb dX11_quietBy_52 (lv_at hl 6 rfl) ?_
              refine lv_iconst (v := 0) hx hb dX11_quietBy_54 (by decide) ?_
              refine behR (runVP (As := [.int x32_6, .int 0]) (rest := [.int r20005, .int x32_4]) ⟨hx, hb, hml, hown, ht⟩ (sX11_wouldFind l G cs h q (upd (upd (upd F 17 x1) 18 x2) 22 f22_15) (vA (vA A 15 g3) 16 g4) D B (IM_arr (k := 16) (IM_arr (k := 15) (IM_put (k := 22) (IM_put (k := 18) (IM_put (k := 17) hI (i32b _)) (i32b _)) (i32b _)) (fun _ => i32b _)) (fun _ => i32b _)) x32_6 0 (by omega) (by decide)) okV_RX11_252 ⟨by decide, by decide⟩ hK hP [0, 1, 2, 3, 4, 5, 6, 7, 8, 9, 10, 11, 12, 13, 14, 15, 16, 17, 18, 19] rfl 0 rfl rfl hl.1 rfl (Nat.le_of_ble_eq_true rfl) dX11_quietBy_55 ⟨by decide, by decide⟩) hP hS hA (fun r20006 H locs hr20006 hP hS => ?_)
              refine lv_imul hx hb dX11_quietBy_58 ?_
              refine lv_topi (fun v20007 ev20007 => ?_)
              have tv20007 : (r20005.toInt = 0 ∧ v20007.toInt = 0) ∨ (r20005.toInt = 1 ∧ v20007.toInt = r20006.toInt) := by rw [ev20007]; exact mul01T rfl rfl (by omega)
              refine lv_iadd hx hb dX11_quietBy_59 ?_
              refine lv_topi (fun v20008 ev20008 => ?_)
              refine lv_istore (lv' := [(4, .int v20008), (0, .ref h), (1, .int a1), (2, .int x15_2), (3, .int x15_3), (5, .int x32_5), (6, .int x32_6)]) hx hb dX11_quietBy_60 hl (by decide) rfl (fun ls hl => ?_)
              refine lv_iload hx hb dX11_quietBy_62 (lv_at hl 5 rfl) ?_
              refine lv_iload_n hx hb dX11_quietBy_64 rfl (lv_at hl 4 rfl) ?_
              refine lv_iload hx hb dX11_quietBy_65 (lv_at hl 6 rfl) ?_
              refine behR (runSP (As := [.int x15_3, .int x32_6]) (rest := [.int x32_5]) ⟨hx, hb, hml, hown, ht⟩ (sX11_bit l G cs x15_3 x32_6 ) okS_RX11_258 ⟨by decide, by decide⟩ hK hP [] rfl hl.1 rfl (Nat.le_of_ble_eq_true rfl) dX11_quietBy_67 ⟨by decide, by decide⟩) hP hS hA (fun r20009 H locs hr20009 hP hS => ?_)
              have hr20009 : r20009 = bitE x15_3 x32_6 ∧ (0 : Int) ≤ r20009.toInt ∧ r20009.toInt ≤ 1 := hr20009
              refine lv_aload_n hx hb dX11_quietBy_70 rfl (lv_at hl 1 rfl) ?_
              refine lv_iload hx hb dX11_quietBy_71 (lv_at hl 6 rfl) ?_
              refine lv_iconst (v := 0) hx hb dX11_quietBy_73 (by decide) ?_
              refine behR (runVP (As := [.int x32_6, .int 0]) (rest := [.int r20009, .int x32_5]) ⟨hx, hb, hml, hown, ht⟩ (sX11_of l G cs h q (upd (upd (upd F 17 x1) 18 x2) 22 f22_15) (vA (vA A 15 g3) 16 g4) D B (IM_arr (k := 16) (IM_arr (k := 15) (IM_put (k := 22) (IM_put (k := 18) (IM_put (k := 17) hI (i32b _)) (i32b _)) (i32b _)) (fun _ => i32b _)) (fun _ => i32b _)) x32_6 0 (by omega) (by decide)) okV_RX11_227 ⟨by decide, by decide⟩ hK hP [0, 1, 2, 3, 4, 5, 6, 7, 8, 9, 10, 11, 12, 13, 14, 15, 16, 17, 18, 19] rfl 0 rfl rfl hl.1 rfl (Nat.le_of_ble_eq_true rfl) dX11_quietBy_74 ⟨by decide, by decide⟩) hP hS hA (fun r20010 H locs hr20010 hP hS => ?_)
              have kk20011 : (0 : Int32).toInt = 0 := by decide
              have hr20010 : r20010 = (A 1) (8 + 4 * x32_6.toNatClampNeg + (0 : Int32).toNatClampNeg) ∧ (0 : Int) ≤ r20010.toInt ∧ r20010.toInt ≤ 999 ∧ ((0 : Int32).toInt = 3 → r20010.toInt ≤ 127) ∧ ((0 : Int32).toInt = 2 → r20010.toInt ≤ 99) := hr20010
              refine lv_imul hx hb dX11_quietBy_77 ?_
              refine lv_topi (fun v20012 ev20012 => ?_)
              have tv20012 : (r20009.toInt = 0 ∧ v20012.toInt = 0) ∨ (r20009.toInt = 1 ∧ v20012.toInt = r20010.toInt) := by rw [ev20012]; exact mul01T rfl rfl (by omega)
              refine lv_iadd hx hb dX11_quietBy_78 ?_
              refine lv_topi (fun v20013 ev20013 => ?_)
              refine lv_istore (lv' := [(5, .int v20013), (4, .int v20008), (0, .ref h), (1, .int a1), (2, .int x15_2), (3, .int x15_3), (6, .int x32_6)]) hx hb dX11_quietBy_79 hl (by decide) rfl (fun ls hl => ?_)
              obtain ⟨v20014, ev20014⟩ : ∃ z : Int32, z = x32_6 + 1 := ⟨_, rfl⟩
              have tv20014 : v20014.toInt = x32_6.toInt + 1 := by rw [ev20014]; exact addT rfl (by decide) (by omega)
              refine lv_iinc (v := v20014) (lv' := [(6, .int v20014), (5, .int v20013), (4, .int v20008), (0, .ref h), (1, .int a1), (2, .int x15_2), (3, .int x15_3)]) hx hb dX11_quietBy_81 hl (k := 6) rfl (by rw [ev20014]; rfl) (by decide) rfl (fun ls hl => ?_)
              refine lv_goto (tgt := 32) hx hb dX11_quietBy_84 (by decide) ?_
              exact ih32 v20008 v20013 v20014 H locs ls (by omega) (by omega) hP hD hS (lv_sub hl [3, 4, 5, 6, 2, 1, 0] rfl)
        exact B32 _ 0 0 0 H locs ls (Nat.lt_succ_self _) (by decide) hP hD hS (lv_sub hl [3, 4, 5, 6, 2, 1, 0] rfl)
  exact B15 _ (-1) 0 1000000000 H locs ls (Nat.lt_succ_self _) (by decide) (by decide) hP hD hS (lv_sub hl [2, 3, 1, 0] rfl)

set_option maxRecDepth 100000 in
set_option maxHeartbeats 8000000 in
theorem sX11_quiet (l : Launch) (G : va_G) (cs : Nat → ClassId) (h : Nat) (q : Nat → Nat) (F : Nat → Int32) (A : Nat → Nat → Int32) (D : Int64) (B : Nat → Nat → Int64) (hI : IM F A) (a1 : Int32) : ImpI l yX11_quiet cX11_quiet 2 (some .int) 6 0 0 G (TY cs) [.ref h, .int a1] (mS cs h q F A D B) (fun (r : Int32) (u : Int32 × Int32 × Int32 × (Nat → Int32) × (Nat → Int32)) => True) (fun u : Int32 × Int32 × Int32 × (Nat → Int32) × (Nat → Int32) => (mS cs h q (upd (upd (upd F 17 u.1) 18 u.2.1) 22 u.2.2.1) (vA (vA A 15 u.2.2.2.1) 16 u.2.2.2.2) D B)) := by
  refine mkD (Qc := (QDi G (fun (r : Int32) (u : Int32 × Int32 × Int32 × (Nat → Int32) × (Nat → Int32)) => True) (fun u : Int32 × Int32 × Int32 × (Nat → Int32) × (Nat → Int32) => (mS cs h q (upd (upd (upd F 17 u.1) 18 u.2.1) 22 u.2.2.1) (vA (vA A 15 u.2.2.2.1) 16 u.2.2.2.2) D B)))) (by decide) (by simp [lg_sl, Value.category]) ?_
  intro p e s m args below meth c ls A0 hx hb hml hr hlk hown hmn ht hK hP hD hS hA hl
  have hl : lv_has ls 2 [(0, .ref h), (1, .int a1)] := hl
  refine lv_aload_n hx hb dX11_quiet_0 rfl (lv_at hl 0 rfl) ?_
  refine behR (runVP (As := []) (rest := []) ⟨hx, hb, hml, hown, ht⟩ (sX11_isHouse l G cs h q F A D B hI  ) okV_RX11_83 ⟨by decide, by decide⟩ hK hP [0, 1, 2, 3, 4, 5, 6, 7, 8, 9, 10, 11, 12, 13, 14, 15, 16, 17, 18, 19] rfl 0 rfl rfl hl.1 rfl (Nat.le_of_ble_eq_true rfl) dX11_quiet_1 ⟨by decide, by decide⟩) hP hS hA (fun r1 H locs hr1 hP hS => ?_)
  have hr1 : (0 : Int) ≤ r1.toInt ∧ r1.toInt ≤ 1 := hr1
  refine lv_if_eq (tgt := 19) hx hb dX11_quiet_4 (by decide) (fun c2 => ?_) (fun c2 => ?_)
  · have zc2 := eqK rfl (show (0 : Int32).toInt = 0 by decide) c2
    refine lv_bipush (v := (-2)) hx hb dX11_quiet_19 (by decide) ?_
    exact retDi ((F 17), (F 18), (F 22), (A 15), (A 16)) hx hb hr hlk hP hD hS dX11_quiet_21 (trivial) (Nat.le_of_ble_eq_true rfl) (Nat.le_of_ble_eq_true rfl)
  · have zc2 := neK rfl (show (0 : Int32).toInt = 0 by decide) c2
    refine lv_iload_n hx hb dX11_quiet_7 rfl (lv_at hl 1 rfl) ?_
    refine lv_i2l hx hb dX11_quiet_8 rfl ?_
    have bb3 := i32b a1
    refine lv_topl (fun v4 ev4 => ?_)
    have tv4 : v4.toInt = a1.toInt := by rw [ev4]; exact Int32.toInt_toInt64 _
    refine lv_lconst (v := 0) hx hb dX11_quiet_9 (by decide) ?_
    refine lv_ldc2 hx hb hown (ht _ kl_RX11_273) dX11_quiet_10 ?_
    refine behR (runSP (As := [.long v4, .long 0, .long 1000000]) (rest := []) ⟨hx, hb, hml, hown, ht⟩ (sX11_in l G cs v4 0 1000000 ) okS_RX11_79 ⟨by decide, by decide⟩ hK hP [] rfl hl.1 rfl (Nat.le_of_ble_eq_true rfl) dX11_quiet_13 ⟨by decide, by decide⟩) hP hS hA (fun r5 H locs hr5 hP hS => ?_)
    have kk6 : (0 : Int64).toInt = 0 := by decide
    have kk7 : (1000000 : Int64).toInt = 1000000 := by decide
    have hr5 : (r5.toInt = 1 ∧ (0 : Int64).toInt ≤ v4.toInt ∧ v4.toInt ≤ (1000000 : Int64).toInt) ∨ (r5.toInt = 0 ∧ (v4.toInt < (0 : Int64).toInt ∨ (1000000 : Int64).toInt < v4.toInt)) := hr5
    refine lv_if_ne (tgt := 22) hx hb dX11_quiet_16 (by decide) (fun c8 => ?_) (fun c8 => ?_)
    · have zc8 := neK rfl (show (0 : Int32).toInt = 0 by decide) c8
      refine lv_aload_n hx hb dX11_quiet_22 rfl (lv_at hl 0 rfl) ?_
      refine lv_iload_n hx hb dX11_quiet_23 rfl (lv_at hl 1 rfl) ?_
      refine behDi (wr := []) (runVD (As := [.int a1]) (rest := []) ⟨hx, hb, hml, hown, ht⟩ (sX11_quietBy l G cs h q F A D B hI a1 ) okV_RX11_340 ⟨by decide, by decide⟩ hK hP hD [0, 1, 2, 3, 4, 5, 6, 7, 8, 9, 10, 11, 12, 13, 14, 15, 16, 17, 18, 19] rfl (by decide) rfl 0 rfl rfl hl.1 rfl (Nat.le_of_ble_eq_true rfl) dX11_quiet_24 ⟨(Nat.le_of_ble_eq_true rfl), (Nat.le_of_ble_eq_true rfl)⟩) hP hD hS hA [0, 1, 2, 3, 4, 5, 6, 7, 8, 9, 10, 11, 12, 13, 14, 15, 16, 17, 18, 19] [] rfl rfl (by decide) (by decide) (fun r9 u H locs hu hP hD hS => ?_)
      obtain ⟨x9, x10, x11, g12, g13⟩ := u
      obtain ⟨r14, rfl⟩ : ∃ z, z = r9 := ⟨_, rfl⟩
      have hr14 := hu
      have hP : va_P G vwCl (mS cs h q (upd (upd (upd F 17 x9) 18 x10) 22 x11) (vA (vA A 15 g12) 16 g13) D B) H := hP
      have hD : va_D A0 (mS cs h q (upd (upd (upd F 17 x9) 18 x10) 22 x11) (vA (vA A 15 g12) 16 g13) D B) := hD
      refine lv_iconst (v := (-1)) hx hb dX11_quiet_27 (by decide) ?_
      refine lv_icmp_ne (tgt := 35) hx hb dX11_quiet_28 (by decide) (fun c15 => ?_) (fun c15 => ?_)
      · have zc15 := neK rfl (show (-1 : Int32).toInt = (-1) by decide) c15
        refine lv_aload_n hx hb dX11_quiet_35 rfl (lv_at hl 0 rfl) ?_
        refine getF (v := .int x11) hx hb ht hown hK hP iTX11 0 22 rfl rfl (by decide) fl_RX11_334 rfl dX11_quiet_36 ?_
        exact retDi (x9, x10, x11, g12, g13) hx hb hr hlk hP hD hS dX11_quiet_39 (trivial) (Nat.le_of_ble_eq_true rfl) (Nat.le_of_ble_eq_true rfl)
      · have zc15 := eqK rfl (show (-1 : Int32).toInt = (-1) by decide) c15
        refine lv_iconst (v := (-1)) hx hb dX11_quiet_31 (by decide) ?_
        refine lv_goto (tgt := 39) hx hb dX11_quiet_32 (by decide) ?_
        exact retDi (x9, x10, x11, g12, g13) hx hb hr hlk hP hD hS dX11_quiet_39 (trivial) (Nat.le_of_ble_eq_true rfl) (Nat.le_of_ble_eq_true rfl)
    · have zc8 := eqK rfl (show (0 : Int32).toInt = 0 by decide) c8
      refine lv_bipush (v := (-2)) hx hb dX11_quiet_19 (by decide) ?_
      exact retDi ((F 17), (F 18), (F 22), (A 15), (A 16)) hx hb hr hlk hP hD hS dX11_quiet_21 (trivial) (Nat.le_of_ble_eq_true rfl) (Nat.le_of_ble_eq_true rfl)

set_option maxRecDepth 100000 in
set_option maxHeartbeats 8000000 in
theorem sX11_quietly (l : Launch) (G : va_G) (cs : Nat → ClassId) (h : Nat) (q : Nat → Nat) (F : Nat → Int32) (A : Nat → Nat → Int32) (D : Int64) (B : Nat → Nat → Int64) (hI : IM F A) (a1 : Int32) : ImpI l yX11_quietly cX11_quietly 2 (some .int) 6 0 0 G (TY cs) [.ref h, .int a1] (mS cs h q F A D B) (fun (r : Int32) (u : Int32 × Int32 × Int32 × (Nat → Int32) × (Nat → Int32)) => True) (fun u : Int32 × Int32 × Int32 × (Nat → Int32) × (Nat → Int32) => (mS cs h q (upd (upd (upd F 17 u.1) 18 u.2.1) 22 u.2.2.1) (vA (vA A 15 u.2.2.2.1) 16 u.2.2.2.2) D B)) := by
  refine mkD (Qc := (QDi G (fun (r : Int32) (u : Int32 × Int32 × Int32 × (Nat → Int32) × (Nat → Int32)) => True) (fun u : Int32 × Int32 × Int32 × (Nat → Int32) × (Nat → Int32) => (mS cs h q (upd (upd (upd F 17 u.1) 18 u.2.1) 22 u.2.2.1) (vA (vA A 15 u.2.2.2.1) 16 u.2.2.2.2) D B)))) (by decide) (by simp [lg_sl, Value.category]) ?_
  intro p e s m args below meth c ls A0 hx hb hml hr hlk hown hmn ht hK hP hD hS hA hl
  have hl : lv_has ls 2 [(0, .ref h), (1, .int a1)] := hl
  refine lv_aload_n hx hb dX11_quietly_0 rfl (lv_at hl 0 rfl) ?_
  refine behR (runVP (As := []) (rest := []) ⟨hx, hb, hml, hown, ht⟩ (sX11_isHouse l G cs h q F A D B hI  ) okV_RX11_83 ⟨by decide, by decide⟩ hK hP [0, 1, 2, 3, 4, 5, 6, 7, 8, 9, 10, 11, 12, 13, 14, 15, 16, 17, 18, 19] rfl 0 rfl rfl hl.1 rfl (Nat.le_of_ble_eq_true rfl) dX11_quietly_1 ⟨by decide, by decide⟩) hP hS hA (fun r1 H locs hr1 hP hS => ?_)
  have hr1 : (0 : Int) ≤ r1.toInt ∧ r1.toInt ≤ 1 := hr1
  refine lv_if_eq (tgt := 27) hx hb dX11_quietly_4 (by decide) (fun c2 => ?_) (fun c2 => ?_)
  · have zc2 := eqK rfl (show (0 : Int32).toInt = 0 by decide) c2
    refine lv_bipush (v := (-2)) hx hb dX11_quietly_27 (by decide) ?_
    exact retDi ((F 17), (F 18), (F 22), (A 15), (A 16)) hx hb hr hlk hP hD hS dX11_quietly_29 (trivial) (Nat.le_of_ble_eq_true rfl) (Nat.le_of_ble_eq_true rfl)
  · have zc2 := neK rfl (show (0 : Int32).toInt = 0 by decide) c2
    refine lv_iload_n hx hb dX11_quietly_7 rfl (lv_at hl 1 rfl) ?_
    refine lv_i2l hx hb dX11_quietly_8 rfl ?_
    have bb3 := i32b a1
    refine lv_topl (fun v4 ev4 => ?_)
    have tv4 : v4.toInt = a1.toInt := by rw [ev4]; exact Int32.toInt_toInt64 _
    refine lv_lconst (v := 0) hx hb dX11_quietly_9 (by decide) ?_
    refine lv_ldc2 hx hb hown (ht _ kl_RX11_273) dX11_quietly_10 ?_
    refine behR (runSP (As := [.long v4, .long 0, .long 1000000]) (rest := []) ⟨hx, hb, hml, hown, ht⟩ (sX11_in l G cs v4 0 1000000 ) okS_RX11_79 ⟨by decide, by decide⟩ hK hP [] rfl hl.1 rfl (Nat.le_of_ble_eq_true rfl) dX11_quietly_13 ⟨by decide, by decide⟩) hP hS hA (fun r5 H locs hr5 hP hS => ?_)
    have kk6 : (0 : Int64).toInt = 0 := by decide
    have kk7 : (1000000 : Int64).toInt = 1000000 := by decide
    have hr5 : (r5.toInt = 1 ∧ (0 : Int64).toInt ≤ v4.toInt ∧ v4.toInt ≤ (1000000 : Int64).toInt) ∨ (r5.toInt = 0 ∧ (v4.toInt < (0 : Int64).toInt ∨ (1000000 : Int64).toInt < v4.toInt)) := hr5
    refine lv_if_eq (tgt := 27) hx hb dX11_quietly_16 (by decide) (fun c8 => ?_) (fun c8 => ?_)
    · have zc8 := eqK rfl (show (0 : Int32).toInt = 0 by decide) c8
      refine lv_bipush (v := (-2)) hx hb dX11_quietly_27 (by decide) ?_
      exact retDi ((F 17), (F 18), (F 22), (A 15), (A 16)) hx hb hr hlk hP hD hS dX11_quietly_29 (trivial) (Nat.le_of_ble_eq_true rfl) (Nat.le_of_ble_eq_true rfl)
    · have zc8 := neK rfl (show (0 : Int32).toInt = 0 by decide) c8
      refine lv_aload_n hx hb dX11_quietly_19 rfl (lv_at hl 0 rfl) ?_
      refine lv_iload_n hx hb dX11_quietly_20 rfl (lv_at hl 1 rfl) ?_
      refine behDi (wr := []) (runVD (As := [.int a1]) (rest := []) ⟨hx, hb, hml, hown, ht⟩ (sX11_quietBy l G cs h q F A D B hI a1 ) okV_RX11_340 ⟨by decide, by decide⟩ hK hP hD [0, 1, 2, 3, 4, 5, 6, 7, 8, 9, 10, 11, 12, 13, 14, 15, 16, 17, 18, 19] rfl (by decide) rfl 0 rfl rfl hl.1 rfl (Nat.le_of_ble_eq_true rfl) dX11_quietly_21 ⟨(Nat.le_of_ble_eq_true rfl), (Nat.le_of_ble_eq_true rfl)⟩) hP hD hS hA [0, 1, 2, 3, 4, 5, 6, 7, 8, 9, 10, 11, 12, 13, 14, 15, 16, 17, 18, 19] [] rfl rfl (by decide) (by decide) (fun r9 u H locs hu hP hD hS => ?_)
      obtain ⟨x9, x10, x11, g12, g13⟩ := u
      obtain ⟨r14, rfl⟩ : ∃ z, z = r9 := ⟨_, rfl⟩
      have hr14 := hu
      have hP : va_P G vwCl (mS cs h q (upd (upd (upd F 17 x9) 18 x10) 22 x11) (vA (vA A 15 g12) 16 g13) D B) H := hP
      have hD : va_D A0 (mS cs h q (upd (upd (upd F 17 x9) 18 x10) 22 x11) (vA (vA A 15 g12) 16 g13) D B) := hD
      refine lv_goto (tgt := 29) hx hb dX11_quietly_24 (by decide) ?_
      exact retDi (x9, x10, x11, g12, g13) hx hb hr hlk hP hD hS dX11_quietly_29 (trivial) (Nat.le_of_ble_eq_true rfl) (Nat.le_of_ble_eq_true rfl)

set_option maxRecDepth 100000 in
set_option maxHeartbeats 8000000 in
theorem sX11_cardIn (l : Launch) (G : va_G) (cs : Nat → ClassId) (h : Nat) (q : Nat → Nat) (F : Nat → Int32) (A : Nat → Nat → Int32) (D : Int64) (B : Nat → Nat → Int64) (hI : IM F A) (a1 : Int32) (a2 : Int32) (ha1 : (0 : Int) ≤ a1.toInt ∧ a1.toInt ≤ 6) (ha2 : (0 : Int) ≤ a2.toInt ∧ a2.toInt ≤ 200) : ImpI l yX11_cardIn cX11_cardIn 4 (some .int) 5 0 0 G (TY cs) [.ref h, .int a1, .int a2] (mS cs h q F A D B) (fun (r : Int32) (u : Int32 × Int32 × (Nat → Int32) × (Nat → Int32)) => True) (fun u : Int32 × Int32 × (Nat → Int32) × (Nat → Int32) => (mS cs h q (upd (upd F 17 u.1) 18 u.2.1) (vA (vA A 15 u.2.2.1) 16 u.2.2.2) D B)) := by
  refine mkD (Qc := (QDi G (fun (r : Int32) (u : Int32 × Int32 × (Nat → Int32) × (Nat → Int32)) => True) (fun u : Int32 × Int32 × (Nat → Int32) × (Nat → Int32) => (mS cs h q (upd (upd F 17 u.1) 18 u.2.1) (vA (vA A 15 u.2.2.1) 16 u.2.2.2) D B)))) (by decide) (by simp [lg_sl, Value.category]) ?_
  intro p e s m args below meth c ls A0 hx hb hml hr hlk hown hmn ht hK hP hD hS hA hl
  have hl : lv_has ls 4 [(0, .ref h), (1, .int a1), (2, .int a2)] := hl
  refine lv_aload_n hx hb dX11_cardIn_0 rfl (lv_at hl 0 rfl) ?_
  refine behDw (wr := []) (runVD (As := []) (rest := []) ⟨hx, hb, hml, hown, ht⟩ (sX11_asItIs l G cs h q F A D B hI  ) okV_RX11_278 ⟨by decide, by decide⟩ hK hP hD [0, 1, 2, 3, 4, 5, 6, 7, 8, 9, 10, 11, 12, 13, 14, 15, 16, 17, 18, 19] rfl (by decide) rfl 0 rfl rfl hl.1 rfl (Nat.le_of_ble_eq_true rfl) dX11_cardIn_1 ⟨(Nat.le_of_ble_eq_true rfl), (Nat.le_of_ble_eq_true rfl)⟩) hP hD hS hA [0, 1, 2, 3, 4, 5, 6, 7, 8, 9, 10, 11, 12, 13, 14, 15, 16, 17, 18, 19] [] rfl rfl (by decide) (by decide) (fun u H locs hu hP hD hS => ?_)
  obtain ⟨x1, x2, g3, g4⟩ := u
  have hr5 := hu
  have hP : va_P G vwCl (mS cs h q (upd (upd F 17 x1) 18 x2) (vA (vA A 15 g3) 16 g4) D B) H := hP
  have hD : va_D A0 (mS cs h q (upd (upd F 17 x1) 18 x2) (vA (vA A 15 g3) 16 g4) D B) := hD
  refine lv_iconst (v := 0) hx hb dX11_cardIn_4 (by decide) ?_
  refine lv_istore_n (lv' := [(3, .int 0), (0, .ref h), (1, .int a1), (2, .int a2)]) hx hb dX11_cardIn_5 rfl hl (by decide) rfl (fun ls hl => ?_)
  have B6 : ∀ (n : Nat) (x6_3 : Int32) (a15_6 : (Nat → Int32)) (a16_6 : (Nat → Int32)) (H : Heap) (locs : List Loc) (ls : Array Slot), (200 - x6_3.toInt).toNat < n → (0 : Int) ≤ x6_3.toInt ∧ x6_3.toInt ≤ 200 → va_P G vwCl (mS cs h q (upd (upd F 17 x1) 18 x2) (vA (vA A 15 a15_6) 16 a16_6) D B) H → va_D A0 (mS cs h q (upd (upd F 17 x1) 18 x2) (vA (vA A 15 a15_6) 16 a16_6) D B) → va_S A0 s.heap H locs → lv_has ls 4 [(0, .ref h), (1, .int a1), (2, .int a2), (3, .int x6_3)] → W p l e (rmk 5 0 0) s m args below meth c H locs 0 0 (MQ below ((QDi G (fun (r : Int32) (u : Int32 × Int32 × (Nat → Int32) × (Nat → Int32)) => True) (fun u : Int32 × Int32 × (Nat → Int32) × (Nat → Int32) => (mS cs h q (upd (upd F 17 u.1) 18 u.2.1) (vA (vA A 15 u.2.2.1) 16 u.2.2.2) D B))) A0) args s 0 0 A0) (F0 m 6 ls []) := by
    intro n
    induction n with
    | zero => intro x6_3 a15_6 a16_6 H locs ls hmeas hx6_3 hP hD hS hl; exact absurd hmeas (Nat.not_lt_zero _)
    | succ n ih6 =>
      intro x6_3 a15_6 a16_6 H locs ls hmeas hx6_3 hP hD hS hl
      refine lv_iload_n hx hb dX11_cardIn_6 rfl (lv_at hl 3 rfl) ?_
      refine lv_iload_n hx hb dX11_cardIn_7 rfl (lv_at hl 2 rfl) ?_
      refine lv_icmp_ge (tgt := 22) hx hb dX11_cardIn_8 (by decide) (fun c5001 => ?_) (fun c5001 => ?_)
      · have zc5001 := leK rfl rfl c5001
        refine lv_aload_n hx hb dX11_cardIn_22 rfl (lv_at hl 0 rfl) ?_
        refine getF (v := .ref (q 15)) hx hb ht hown hK hP iTX11 0 15 rfl rfl (by decide) fl_RX11_34 rfl dX11_cardIn_23 ?_
        refine lv_iload_n hx hb dX11_cardIn_26 rfl (lv_at hl 1 rfl) ?_
        refine va_iald hx hb hK.1 hP 7 0 rfl rfl (inK rfl (by omega) (by decide)) dX11_cardIn_27 ?_
        refine lv_topi (fun v5002 ev5002 => ?_)
        exact retDi (x1, x2, a15_6, a16_6) hx hb hr hlk hP hD hS dX11_cardIn_28 (trivial) (Nat.le_of_ble_eq_true rfl) (Nat.le_of_ble_eq_true rfl)
      · have zc5001 := nleK rfl rfl c5001
        refine lv_aload_n hx hb dX11_cardIn_11 rfl (lv_at hl 0 rfl) ?_
        refine lv_iload_n hx hb dX11_cardIn_12 rfl (lv_at hl 1 rfl) ?_
        refine behDw (wr := []) (runVD (As := [.int a1]) (rest := []) ⟨hx, hb, hml, hown, ht⟩ (sX11_goMinute l G cs h q (upd (upd F 17 x1) 18 x2) (vA (vA A 15 a15_6) 16 a16_6) D B (IM_arr (k := 16) (IM_arr (k := 15) (IM_put (k := 18) (IM_put (k := 17) hI (i32b _)) (i32b _)) (fun _ => i32b _)) (fun _ => i32b _)) a1 ) okV_RX11_267 ⟨by decide, by decide⟩ hK hP hD [0, 1, 2, 3, 4, 5, 6, 7, 8, 9, 10, 11, 12, 13, 14, 15, 16, 17, 18, 19] rfl (by decide) rfl 0 rfl rfl hl.1 rfl (Nat.le_of_ble_eq_true rfl) dX11_cardIn_13 ⟨(Nat.le_of_ble_eq_true rfl), (Nat.le_of_ble_eq_true rfl)⟩) hP hD hS hA [0, 1, 2, 3, 4, 5, 6, 7, 8, 9, 10, 11, 12, 13, 14, 15, 16, 17, 18, 19] [] rfl rfl (by decide) (by decide) (fun u H locs hu hP hD hS => ?_)
        obtain ⟨g5003, g5004⟩ := u
        have hr5005 := hu
        have hP : va_P G vwCl (mS cs h q (upd (upd F 17 x1) 18 x2) (vA (vA A 15 g5003) 16 g5004) D B) H := hP
        have hD : va_D A0 (mS cs h q (upd (upd F 17 x1) 18 x2) (vA (vA A 15 g5003) 16 g5004) D B) := hD
        obtain ⟨v5006, ev5006⟩ : ∃ z : Int32, z = x6_3 + 1 := ⟨_, rfl⟩
        have tv5006 : v5006.toInt = x6_3.toInt + 1 := by rw [ev5006]; exact addT rfl (by decide) (by omega)
        refine lv_iinc (v := v5006) (lv' := [(3, .int v5006), (0, .ref h), (1, .int a1), (2, .int a2)]) hx hb dX11_cardIn_16 hl (k := 3) rfl (by rw [ev5006]; rfl) (by decide) rfl (fun ls hl => ?_)
        refine lv_goto (tgt := 6) hx hb dX11_cardIn_19 (by decide) ?_
        exact ih6 v5006 g5003 g5004 H locs ls (by omega) (by omega) hP hD hS (lv_sub hl [1, 2, 3, 0] rfl)
  exact B6 _ 0 g3 g4 H locs ls (Nat.lt_succ_self _) (by decide) hP hD hS (lv_sub hl [1, 2, 3, 0] rfl)

set_option maxRecDepth 100000 in
set_option maxHeartbeats 8000000 in
theorem sX11_card (l : Launch) (G : va_G) (cs : Nat → ClassId) (h : Nat) (q : Nat → Nat) (F : Nat → Int32) (A : Nat → Nat → Int32) (D : Int64) (B : Nat → Nat → Int64) (hI : IM F A) (a1 : Int32) (a2 : Int32) : ImpI l yX11_card cX11_card 3 (some .int) 6 0 0 G (TY cs) [.ref h, .int a1, .int a2] (mS cs h q F A D B) (fun (r : Int32) (u : Int32 × Int32 × (Nat → Int32) × (Nat → Int32)) => True) (fun u : Int32 × Int32 × (Nat → Int32) × (Nat → Int32) => (mS cs h q (upd (upd F 17 u.1) 18 u.2.1) (vA (vA A 15 u.2.2.1) 16 u.2.2.2) D B)) := by
  refine mkD (Qc := (QDi G (fun (r : Int32) (u : Int32 × Int32 × (Nat → Int32) × (Nat → Int32)) => True) (fun u : Int32 × Int32 × (Nat → Int32) × (Nat → Int32) => (mS cs h q (upd (upd F 17 u.1) 18 u.2.1) (vA (vA A 15 u.2.2.1) 16 u.2.2.2) D B)))) (by decide) (by simp [lg_sl, Value.category]) ?_
  intro p e s m args below meth c ls A0 hx hb hml hr hlk hown hmn ht hK hP hD hS hA hl
  have hl : lv_has ls 3 [(0, .ref h), (1, .int a1), (2, .int a2)] := hl
  refine lv_aload_n hx hb dX11_card_0 rfl (lv_at hl 0 rfl) ?_
  refine lv_iload_n hx hb dX11_card_1 rfl (lv_at hl 1 rfl) ?_
  refine lv_i2l hx hb dX11_card_2 rfl ?_
  have bb1 := i32b a1
  refine lv_topl (fun v2 ev2 => ?_)
  have tv2 : v2.toInt = a1.toInt := by rw [ev2]; exact Int32.toInt_toInt64 _
  refine behR (runVP (As := [.long v2]) (rest := []) ⟨hx, hb, hml, hown, ht⟩ (sX11_isRoom l G cs h q F A D B hI v2 ) okV_RX11_89 ⟨by decide, by decide⟩ hK hP [0, 1, 2, 3, 4, 5, 6, 7, 8, 9, 10, 11, 12, 13, 14, 15, 16, 17, 18, 19] rfl 0 rfl rfl hl.1 rfl (Nat.le_of_ble_eq_true rfl) dX11_card_3 ⟨by decide, by decide⟩) hP hS hA (fun r3 H locs hr3 hP hS => ?_)
  have hr3 : (r3.toInt = 1 ∧ 0 ≤ v2.toInt ∧ v2.toInt < (A 1 4).toInt ∧ v2.toInt ≤ 6 ∧ (A 1 4).toInt ≤ 7) ∨ r3.toInt = 0 := hr3
  refine lv_if_eq (tgt := 30) hx hb dX11_card_6 (by decide) (fun c4 => ?_) (fun c4 => ?_)
  · have zc4 := eqK rfl (show (0 : Int32).toInt = 0 by decide) c4
    refine lv_bipush (v := (-2)) hx hb dX11_card_30 (by decide) ?_
    exact retDi ((F 17), (F 18), (A 15), (A 16)) hx hb hr hlk hP hD hS dX11_card_32 (trivial) (Nat.le_of_ble_eq_true rfl) (Nat.le_of_ble_eq_true rfl)
  · have zc4 := neK rfl (show (0 : Int32).toInt = 0 by decide) c4
    refine lv_iload_n hx hb dX11_card_9 rfl (lv_at hl 2 rfl) ?_
    refine lv_i2l hx hb dX11_card_10 rfl ?_
    have bb5 := i32b a2
    refine lv_topl (fun v6 ev6 => ?_)
    have tv6 : v6.toInt = a2.toInt := by rw [ev6]; exact Int32.toInt_toInt64 _
    refine lv_lconst (v := 0) hx hb dX11_card_11 (by decide) ?_
    refine lv_ldc2 hx hb hown (ht _ kl_RX11_284) dX11_card_12 ?_
    refine behR (runSP (As := [.long v6, .long 0, .long 200]) (rest := []) ⟨hx, hb, hml, hown, ht⟩ (sX11_in l G cs v6 0 200 ) okS_RX11_79 ⟨by decide, by decide⟩ hK hP [] rfl hl.1 rfl (Nat.le_of_ble_eq_true rfl) dX11_card_15 ⟨by decide, by decide⟩) hP hS hA (fun r7 H locs hr7 hP hS => ?_)
    have kk8 : (0 : Int64).toInt = 0 := by decide
    have kk9 : (200 : Int64).toInt = 200 := by decide
    have hr7 : (r7.toInt = 1 ∧ (0 : Int64).toInt ≤ v6.toInt ∧ v6.toInt ≤ (200 : Int64).toInt) ∨ (r7.toInt = 0 ∧ (v6.toInt < (0 : Int64).toInt ∨ (200 : Int64).toInt < v6.toInt)) := hr7
    refine lv_if_eq (tgt := 30) hx hb dX11_card_18 (by decide) (fun c10 => ?_) (fun c10 => ?_)
    · have zc10 := eqK rfl (show (0 : Int32).toInt = 0 by decide) c10
      refine lv_bipush (v := (-2)) hx hb dX11_card_30 (by decide) ?_
      exact retDi ((F 17), (F 18), (A 15), (A 16)) hx hb hr hlk hP hD hS dX11_card_32 (trivial) (Nat.le_of_ble_eq_true rfl) (Nat.le_of_ble_eq_true rfl)
    · have zc10 := neK rfl (show (0 : Int32).toInt = 0 by decide) c10
      refine lv_aload_n hx hb dX11_card_21 rfl (lv_at hl 0 rfl) ?_
      refine lv_iload_n hx hb dX11_card_22 rfl (lv_at hl 1 rfl) ?_
      refine lv_iload_n hx hb dX11_card_23 rfl (lv_at hl 2 rfl) ?_
      refine behDi (wr := []) (runVD (As := [.int a1, .int a2]) (rest := []) ⟨hx, hb, hml, hown, ht⟩ (sX11_cardIn l G cs h q F A D B hI a1 a2 (by omega) (by omega)) okV_RX11_343 ⟨by decide, by decide⟩ hK hP hD [0, 1, 2, 3, 4, 5, 6, 7, 8, 9, 10, 11, 12, 13, 14, 15, 16, 17, 18, 19] rfl (by decide) rfl 0 rfl rfl hl.1 rfl (Nat.le_of_ble_eq_true rfl) dX11_card_24 ⟨(Nat.le_of_ble_eq_true rfl), (Nat.le_of_ble_eq_true rfl)⟩) hP hD hS hA [0, 1, 2, 3, 4, 5, 6, 7, 8, 9, 10, 11, 12, 13, 14, 15, 16, 17, 18, 19] [] rfl rfl (by decide) (by decide) (fun r9 u H locs hu hP hD hS => ?_)
      obtain ⟨x11, x12, g13, g14⟩ := u
      obtain ⟨r15, rfl⟩ : ∃ z, z = r9 := ⟨_, rfl⟩
      have hr15 := hu
      have hP : va_P G vwCl (mS cs h q (upd (upd F 17 x11) 18 x12) (vA (vA A 15 g13) 16 g14) D B) H := hP
      have hD : va_D A0 (mS cs h q (upd (upd F 17 x11) 18 x12) (vA (vA A 15 g13) 16 g14) D B) := hD
      refine lv_goto (tgt := 32) hx hb dX11_card_27 (by decide) ?_
      exact retDi (x11, x12, g13, g14) hx hb hr hlk hP hD hS dX11_card_32 (trivial) (Nat.le_of_ble_eq_true rfl) (Nat.le_of_ble_eq_true rfl)

