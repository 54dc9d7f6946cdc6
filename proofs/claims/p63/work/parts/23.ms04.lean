set_option maxRecDepth 100000 in
set_option maxHeartbeats 8000000 in
theorem sX11_worthOf (l : Launch) (G : va_G) (cs : Nat → ClassId) (h : Nat) (q : Nat → Nat) (F : Nat → Int32) (A : Nat → Nat → Int32) (D : Int64) (B : Nat → Nat → Int64) (hI : IM F A) (a1 : Int32) : SafeR l yX11_worthOf cX11_worthOf 2 (some .int) 0 G (TY cs) [.ref h, .int a1] (mS cs h q F A D B) (fun r : Int32 => True) := by
  refine mkP (Qc := QRi (fun r : Int32 => True)) (by decide) (by simp [lg_sl, Value.category]) ?_
  intro p e s m args below meth c ls hx hb hml hr hlk hown ht hK hP hS hl
  have hl : lv_has ls 2 [(0, .ref h), (1, .int a1)] := hl
  refine lv_aload_n hx hb dX11_worthOf_0 rfl (lv_at hl 0 rfl) ?_
  refine getF (v := .ref (q 1)) hx hb ht hown hK hP iTX11 0 1 rfl rfl (by decide) fl_RX11_9 rfl dX11_worthOf_1 ?_
  refine lv_iconst (v := 2) hx hb dX11_worthOf_4 (by decide) ?_
  refine va_iald hx hb hK.1 hP 1 0 rfl rfl (show ¬ (_ ∨ _) by decide) dX11_worthOf_5 ?_
  refine W.eq (g2 := F0 m 6 ls [.int (A 1 2)]) rfl ?_
  refine lv_i2l hx hb dX11_worthOf_6 rfl ?_
  refine lv_topl (fun v1 ev1 => ?_)
  have tv1 : v1.toInt = (A 1 2).toInt := by rw [ev1]; exact Int32.toInt_toInt64 _
  refine lv_iload_n hx hb dX11_worthOf_7 rfl (lv_at hl 1 rfl) ?_
  refine lv_i2l hx hb dX11_worthOf_8 rfl ?_
  refine lv_topl (fun v2 ev2 => ?_)
  have tv2 : v2.toInt = a1.toInt := by rw [ev2]; exact Int32.toInt_toInt64 _
  refine lv_lmul hx hb dX11_worthOf_9 ?_
  refine lv_topl (fun v3 ev3 => ?_)
  refine lv_ldc2 hx hb hown (ht _ kl_RX11_273) dX11_worthOf_10 ?_
  refine lv_ldiv hx hb dX11_worthOf_13 (by decide) ?_
  refine lv_topl (fun v4 ev4 => ?_)
  refine lv_l2i hx hb dX11_worthOf_14 rfl ?_
  refine lv_topi (fun v5 ev5 => ?_)
  exact retRi hx hb hr hlk hS dX11_worthOf_15 (trivial)

set_option maxRecDepth 100000 in
set_option maxHeartbeats 8000000 in
theorem sX11_rest (l : Launch) (G : va_G) (cs : Nat → ClassId) (h : Nat) (q : Nat → Nat) (F : Nat → Int32) (A : Nat → Nat → Int32) (D : Int64) (B : Nat → Nat → Int64) (hI : IM F A) : ImpI l yX11_rest cX11_rest 4 (some .int) 5 0 0 G (TY cs) [.ref h] (mS cs h q F A D B) (fun (r : Int32) (u : Int32 × Int32 × (Nat → Int32) × (Nat → Int32)) => True) (fun u : Int32 × Int32 × (Nat → Int32) × (Nat → Int32) => (mS cs h q (upd (upd F 17 u.1) 18 u.2.1) (vA (vA A 15 u.2.2.1) 16 u.2.2.2) D B)) := by
  refine mkD (Qc := (QDi G (fun (r : Int32) (u : Int32 × Int32 × (Nat → Int32) × (Nat → Int32)) => True) (fun u : Int32 × Int32 × (Nat → Int32) × (Nat → Int32) => (mS cs h q (upd (upd F 17 u.1) 18 u.2.1) (vA (vA A 15 u.2.2.1) 16 u.2.2.2) D B)))) (by decide) (by simp [lg_sl, Value.category]) ?_
  intro p e s m args below meth c ls A0 hx hb hml hr hlk hown hmn ht hK hP hD hS hA hl
  have hl : lv_has ls 4 [(0, .ref h)] := hl
  refine lv_aload_n hx hb dX11_rest_0 rfl (lv_at hl 0 rfl) ?_
  refine behR (runVP (As := []) (rest := []) ⟨hx, hb, hml, hown, ht⟩ (sX11_isHouse l G cs h q F A D B hI  ) okV_RX11_83 ⟨by decide, by decide⟩ hK hP [0, 1, 2, 3, 4, 5, 6, 7, 8, 9, 10, 11, 12, 13, 14, 15, 16, 17, 18, 19] rfl 0 rfl rfl hl.1 rfl (Nat.le_of_ble_eq_true rfl) dX11_rest_1 ⟨by decide, by decide⟩) hP hS hA (fun r1 H locs hr1 hP hS => ?_)
  have hr1 : (0 : Int) ≤ r1.toInt ∧ r1.toInt ≤ 1 := hr1
  refine lv_if_ne (tgt := 10) hx hb dX11_rest_4 (by decide) (fun c2 => ?_) (fun c2 => ?_)
  · have zc2 := neK rfl (show (0 : Int32).toInt = 0 by decide) c2
    refine lv_aload_n hx hb dX11_rest_10 rfl (lv_at hl 0 rfl) ?_
    refine behDw (wr := []) (runVD (As := []) (rest := []) ⟨hx, hb, hml, hown, ht⟩ (sX11_asItIs l G cs h q F A D B hI  ) okV_RX11_278 ⟨by decide, by decide⟩ hK hP hD [0, 1, 2, 3, 4, 5, 6, 7, 8, 9, 10, 11, 12, 13, 14, 15, 16, 17, 18, 19] rfl (by decide) rfl 0 rfl rfl hl.1 rfl (Nat.le_of_ble_eq_true rfl) dX11_rest_11 ⟨(Nat.le_of_ble_eq_true rfl), (Nat.le_of_ble_eq_true rfl)⟩) hP hD hS hA [0, 1, 2, 3, 4, 5, 6, 7, 8, 9, 10, 11, 12, 13, 14, 15, 16, 17, 18, 19] [] rfl rfl (by decide) (by decide) (fun u H locs hu hP hD hS => ?_)
    obtain ⟨x3, x4, g5, g6⟩ := u
    have hr7 := hu
    have hP : va_P G vwCl (mS cs h q (upd (upd F 17 x3) 18 x4) (vA (vA A 15 g5) 16 g6) D B) H := hP
    have hD : va_D A0 (mS cs h q (upd (upd F 17 x3) 18 x4) (vA (vA A 15 g5) 16 g6) D B) := hD
    refine lv_iconst (v := 0) hx hb dX11_rest_14 (by decide) ?_
    refine lv_istore_n (lv' := [(1, .int 0), (0, .ref h)]) hx hb dX11_rest_15 rfl hl (by decide) rfl (fun ls hl => ?_)
    have B16 : ∀ (n : Nat) (x16_1 : Int32) (f17_16 : Int32) (f18_16 : Int32) (a15_16 : (Nat → Int32)) (a16_16 : (Nat → Int32)) (H : Heap) (locs : List Loc) (ls : Array Slot), (201 - x16_1.toInt).toNat < n → (0 : Int) ≤ x16_1.toInt ∧ x16_1.toInt ≤ 201 → va_P G vwCl (mS cs h q (upd (upd F 17 f17_16) 18 f18_16) (vA (vA A 15 a15_16) 16 a16_16) D B) H → va_D A0 (mS cs h q (upd (upd F 17 f17_16) 18 f18_16) (vA (vA A 15 a15_16) 16 a16_16) D B) → va_S A0 s.heap H locs → lv_has ls 4 [(0, .ref h), (1, .int x16_1)] → W p l e (rmk 5 0 0) s m args below meth c H locs 0 0 (MQ below ((QDi G (fun (r : Int32) (u : Int32 × Int32 × (Nat → Int32) × (Nat → Int32)) => True) (fun u : Int32 × Int32 × (Nat → Int32) × (Nat → Int32) => (mS cs h q (upd (upd F 17 u.1) 18 u.2.1) (vA (vA A 15 u.2.2.1) 16 u.2.2.2) D B))) A0) args s 0 0 A0) (F0 m 16 ls []) := by
      intro n
      induction n with
      | zero => intro x16_1 f17_16 f18_16 a15_16 a16_16 H locs ls hmeas hx16_1 hP hD hS hl; exact absurd hmeas (Nat.not_lt_zero _)
      | succ n ih16 =>
        intro x16_1 f17_16 f18_16 a15_16 a16_16 H locs ls hmeas hx16_1 hP hD hS hl
        refine lv_iload_n hx hb dX11_rest_16 rfl (lv_at hl 1 rfl) ?_
        refine lv_sipush (v := 200) hx hb dX11_rest_17 (by decide) ?_
        refine lv_icmp_gt (tgt := 75) hx hb dX11_rest_20 (by decide) (fun c10001 => ?_) (fun c10001 => ?_)
        · have zc10001 := ltK (show (200 : Int32).toInt = 200 by decide) rfl c10001
          refine lv_iconst (v := (-1)) hx hb dX11_rest_75 (by decide) ?_
          exact retDi (f17_16, f18_16, a15_16, a16_16) hx hb hr hlk hP hD hS dX11_rest_76 (trivial) (Nat.le_of_ble_eq_true rfl) (Nat.le_of_ble_eq_true rfl)
        · have zc10001 := nltK (show (200 : Int32).toInt = 200 by decide) rfl c10001
          refine lv_aload_n hx hb dX11_rest_23 rfl (lv_at hl 0 rfl) ?_
          refine lv_iconst (v := (-1)) hx hb dX11_rest_24 (by decide) ?_
          refine behDw (wr := []) (runVD (As := [.int (-1)]) (rest := []) ⟨hx, hb, hml, hown, ht⟩ (sX11_goMinute l G cs h q (upd (upd F 17 f17_16) 18 f18_16) (vA (vA A 15 a15_16) 16 a16_16) D B (IM_arr (k := 16) (IM_arr (k := 15) (IM_put (k := 18) (IM_put (k := 17) hI (i32b _)) (i32b _)) (fun _ => i32b _)) (fun _ => i32b _)) (-1) ) okV_RX11_267 ⟨by decide, by decide⟩ hK hP hD [0, 1, 2, 3, 4, 5, 6, 7, 8, 9, 10, 11, 12, 13, 14, 15, 16, 17, 18, 19] rfl (by decide) rfl 0 rfl rfl hl.1 rfl (Nat.le_of_ble_eq_true rfl) dX11_rest_25 ⟨(Nat.le_of_ble_eq_true rfl), (Nat.le_of_ble_eq_true rfl)⟩) hP hD hS hA [0, 1, 2, 3, 4, 5, 6, 7, 8, 9, 10, 11, 12, 13, 14, 15, 16, 17, 18, 19] [] rfl rfl (by decide) (by decide) (fun u H locs hu hP hD hS => ?_)
          obtain ⟨g10002, g10003⟩ := u
          have hr10004 := hu
          have hP : va_P G vwCl (mS cs h q (upd (upd F 17 f17_16) 18 f18_16) (vA (vA A 15 g10002) 16 g10003) D B) H := hP
          have hD : va_D A0 (mS cs h q (upd (upd F 17 f17_16) 18 f18_16) (vA (vA A 15 g10002) 16 g10003) D B) := hD
          refine lv_iconst (v := 1) hx hb dX11_rest_28 (by decide) ?_
          refine lv_istore_n (lv' := [(2, .int 1), (0, .ref h), (1, .int x16_1)]) hx hb dX11_rest_29 rfl hl (by decide) rfl (fun ls hl => ?_)
          refine lv_iconst (v := 0) hx hb dX11_rest_30 (by decide) ?_
          refine lv_istore_n (lv' := [(3, .int 0), (2, .int 1), (0, .ref h), (1, .int x16_1)]) hx hb dX11_rest_31 rfl hl (by decide) rfl (fun ls hl => ?_)
          have B32 : ∀ (n : Nat) (x32_1 : Int32) (x32_2 : Int32) (x32_3 : Int32) (f17_32 : Int32) (f18_32 : Int32) (a15_32 : (Nat → Int32)) (a16_32 : (Nat → Int32)) (H : Heap) (locs : List Loc) (ls : Array Slot), (7 - x32_3.toInt).toNat < n → (0 : Int) ≤ x32_1.toInt ∧ x32_1.toInt ≤ 200 → (0 : Int) ≤ x32_2.toInt ∧ x32_2.toInt ≤ 1 → (0 : Int) ≤ x32_3.toInt ∧ x32_3.toInt ≤ 7 → va_P G vwCl (mS cs h q (upd (upd F 17 f17_32) 18 f18_32) (vA (vA A 15 a15_32) 16 a16_32) D B) H → va_D A0 (mS cs h q (upd (upd F 17 f17_32) 18 f18_32) (vA (vA A 15 a15_32) 16 a16_32) D B) → va_S A0 s.heap H locs → lv_has ls 4 [(0, .ref h), (1, .int x32_1), (2, .int x32_2), (3, .int x32_3)] → W p l e (rmk 5 0 0) s m args below meth c H locs 0 0 (MQ below ((QDi G (fun (r : Int32) (u : Int32 × Int32 × (Nat → Int32) × (Nat → Int32)) => True) (fun u : Int32 × Int32 × (Nat → Int32) × (Nat → Int32) => (mS cs h q (upd (upd F 17 u.1) 18 u.2.1) (vA (vA A 15 u.2.2.1) 16 u.2.2.2) D B))) A0) args s 0 0 A0) (F0 m 32 ls []) := by
            intro n
            induction n with
            | zero => intro x32_1 x32_2 x32_3 f17_32 f18_32 a15_32 a16_32 H locs ls hmeas hx32_1 hx32_2 hx32_3 hP hD hS hl; exact absurd hmeas (Nat.not_lt_zero _)
            | succ n ih32 =>
              intro x32_1 x32_2 x32_3 f17_32 f18_32 a15_32 a16_32 H locs ls hmeas hx32_1 hx32_2 hx32_3 hP hD hS hl
              refine lv_iload_n hx hb dX11_rest_32 rfl (lv_at hl 3 rfl) ?_
              refine lv_bipush (v := 7) hx hb dX11_rest_33 (by decide) ?_
              have B63 : ∀ (x63_1 : Int32) (x63_2 : Int32) (f17_63 : Int32) (f18_63 : Int32) (a15_63 : (Nat → Int32)) (a16_63 : (Nat → Int32)) (H : Heap) (locs : List Loc) (ls : Array Slot), (0 : Int) ≤ x63_1.toInt ∧ x63_1.toInt ≤ 200 → (0 : Int) ≤ x63_2.toInt ∧ x63_2.toInt ≤ 1 → va_P G vwCl (mS cs h q (upd (upd F 17 f17_63) 18 f18_63) (vA (vA A 15 a15_63) 16 a16_63) D B) H → va_D A0 (mS cs h q (upd (upd F 17 f17_63) 18 f18_63) (vA (vA A 15 a15_63) 16 a16_63) D B) → va_S A0 s.heap H locs → lv_has ls 4 [(0, .ref h), (1, .int x63_1), (2, .int x63_2)] → W p l e (rmk 5 0 0) s m args below meth c H locs 0 0 (MQ below ((QDi G (fun (r : Int32) (u : Int32 × Int32 × (Nat → Int32) × (Nat → Int32)) => True) (fun u : Int32 × Int32 × (Nat → Int32) × (Nat → Int32) => (mS cs h q (upd (upd F 17 u.1) 18 u.2.1) (vA (vA A 15 u.2.2.1) 16 u.2.2.2) D B))) A0) args s 0 0 A0) (F0 m 63 ls []) := by
                intro x63_1 x63_2 f17_63 f18_63 a15_63 a16_63 H locs ls hx63_1 hx63_2 hP hD hS hl
                refine lv_iload_n hx hb dX11_rest_63 rfl (lv_at hl 2 rfl) ?_
                refine lv_if_eq (tgt := 69) hx hb dX11_rest_64 (by decide) (fun c36001 => ?_) (fun c36001 => ?_)
                · have zc36001 := eqK rfl (show (0 : Int32).toInt = 0 by decide) c36001
                  obtain ⟨v36002, ev36002⟩ : ∃ z : Int32, z = x63_1 + 1 := ⟨_, rfl⟩
                  have tv36002 : v36002.toInt = x63_1.toInt + 1 := by rw [ev36002]; exact addT rfl (by decide) (by omega)
                  refine lv_iinc (v := v36002) (lv' := [(1, .int v36002), (0, .ref h), (2, .int x63_2)]) hx hb dX11_rest_69 hl (k := 1) rfl (by rw [ev36002]; rfl) (by decide) rfl (fun ls hl => ?_)
                  refine lv_goto (tgt := 16) hx hb dX11_rest_72 (by decide) ?_
                  exact ih16 v36002 f17_63 f18_63 a15_63 a16_63 H locs ls (by omega) (by omega) hP hD hS (lv_sub hl [1, 0] rfl)
                · have zc36001 := neK rfl (show (0 : Int32).toInt = 0 by decide) c36001
                  refine lv_iload_n hx hb dX11_rest_67 rfl (lv_at hl 1 rfl) ?_
                  exact retDi (f17_63, f18_63, a15_63, a16_63) hx hb hr hlk hP hD hS dX11_rest_68 (trivial) (Nat.le_of_ble_eq_true rfl) (Nat.le_of_ble_eq_true rfl)
              refine lv_icmp_ge (tgt := 63) hx hb dX11_rest_35 (by decide) (fun c20001 => ?_) (fun c20001 => ?_)
              · have zc20001 := leK (show (7 : Int32).toInt = 7 by decide) rfl c20001
                exact B63 x32_1 x32_2 f17_32 f18_32 a15_32 a16_32 H locs ls (by omega) (by omega) hP hD hS (lv_sub hl [0, 1, 2] rfl)
              · have zc20001 := nleK (show (7 : Int32).toInt = 7 by decide) rfl c20001
                refine lv_iload_n hx hb dX11_rest_38 rfl (lv_at hl 2 rfl) ?_
                refine lv_if_eq (tgt := 63) hx hb dX11_rest_39 (by decide) (fun c20002 => ?_) (fun c20002 => ?_)
                · have zc20002 := eqK rfl (show (0 : Int32).toInt = 0 by decide) c20002
                  exact B63 x32_1 x32_2 f17_32 f18_32 a15_32 a16_32 H locs ls (by omega) (by omega) hP hD hS (lv_sub hl [0, 1, 2] rfl)
                · have zc20002 := neK rfl (show (0 : Int32).toInt = 0 by decide) c20002
                  refine lv_aload_n hx hb dX11_rest_42 rfl (lv_at hl 0 rfl) ?_
                  refine getF (v := .ref (q 16)) hx hb ht hown hK hP iTX11 0 16 rfl rfl (by decide) fl_RX11_37 rfl dX11_rest_43 ?_
                  refine lv_iload_n hx hb dX11_rest_46 rfl (lv_at hl 3 rfl) ?_
                  refine va_iald hx hb hK.1 hP 8 0 rfl rfl (inK rfl (by omega) (by decide)) dX11_rest_47 ?_
                  refine lv_topi (fun v20003 ev20003 => ?_)
                  have B56 : ∀ (x56_1 : Int32) (x56_3 : Int32) (s56_0 : Int32) (f17_56 : Int32) (f18_56 : Int32) (a15_56 : (Nat → Int32)) (a16_56 : (Nat → Int32)) (H : Heap) (locs : List Loc) (ls : Array Slot), (0 : Int) ≤ x56_1.toInt ∧ x56_1.toInt ≤ 200 → (0 : Int) ≤ x56_3.toInt ∧ x56_3.toInt ≤ 6 → (0 : Int) ≤ s56_0.toInt ∧ s56_0.toInt ≤ 1 → va_P G vwCl (mS cs h q (upd (upd F 17 f17_56) 18 f18_56) (vA (vA A 15 a15_56) 16 a16_56) D B) H → va_D A0 (mS cs h q (upd (upd F 17 f17_56) 18 f18_56) (vA (vA A 15 a15_56) 16 a16_56) D B) → va_S A0 s.heap H locs → lv_has ls 4 [(0, .ref h), (1, .int x56_1), (3, .int x56_3)] → W p l e (rmk 5 0 0) s m args below meth c H locs 0 0 (MQ below ((QDi G (fun (r : Int32) (u : Int32 × Int32 × (Nat → Int32) × (Nat → Int32)) => True) (fun u : Int32 × Int32 × (Nat → Int32) × (Nat → Int32) => (mS cs h q (upd (upd F 17 u.1) 18 u.2.1) (vA (vA A 15 u.2.2.1) 16 u.2.2.2) D B))) A0) args s 0 0 A0) (F0 m 56 ls [.int s56_0]) := by
                    intro x56_1 x56_3 s56_0 f17_56 f18_56 a15_56 a16_56 H locs ls hx56_1 hx56_3 hs56_0 hP hD hS hl
                    refine lv_istore_n (lv' := [(2, .int s56_0), (0, .ref h), (1, .int x56_1), (3, .int x56_3)]) hx hb dX11_rest_56 rfl hl (by decide) rfl (fun ls hl => ?_)
                    obtain ⟨v33001, ev33001⟩ : ∃ z : Int32, z = x56_3 + 1 := ⟨_, rfl⟩
                    have tv33001 : v33001.toInt = x56_3.toInt + 1 := by rw [ev33001]; exact addT rfl (by decide) (by omega)
                    refine lv_iinc (v := v33001) (lv' := [(3, .int v33001), (2, .int s56_0), (0, .ref h), (1, .int x56_1)]) hx hb dX11_rest_57 hl (k := 3) rfl (by rw [ev33001]; rfl) (by decide) rfl (fun ls hl => ?_)
                    refine lv_goto (tgt := 32) hx hb dX11_rest_60 (by decide) ?_
                    exact ih32 x56_1 s56_0 v33001 f17_56 f18_56 a15_56 a16_56 H locs ls (by omega) (by omega) (by omega) (by omega) hP hD hS (lv_sub hl [2, 3, 1, 0] rfl)
                  refine lv_if_ne (tgt := 55) hx hb dX11_rest_48 (by decide) (fun c20004 => ?_) (fun c20004 => ?_)
                  · have zc20004 := neK rfl (show (0 : Int32).toInt = 0 by decide) c20004
                    refine lv_iconst (v := 0) hx hb dX11_rest_55 (by decide) ?_
                    exact B56 x32_1 x32_3 0 f17_32 f18_32 a15_32 a16_32 H locs ls (by omega) (by omega) (by decide) hP hD hS (lv_sub hl [0, 1, 3] rfl)
                  · have zc20004 := eqK rfl (show (0 : Int32).toInt = 0 by decide) c20004
                    refine lv_iconst (v := 1) hx hb dX11_rest_51 (by decide) ?_
                    refine lv_goto (tgt := 56) hx hb dX11_rest_52 (by decide) ?_
                    exact B56 x32_1 x32_3 1 f17_32 f18_32 a15_32 a16_32 H locs ls (by omega) (by omega) (by decide) hP hD hS (lv_sub hl [0, 1, 3] rfl)
          exact B32 _ x16_1 1 0 f17_16 f18_16 g10002 g10003 H locs ls (Nat.lt_succ_self _) (by omega) (by decide) (by decide) hP hD hS (lv_sub hl [2, 3, 1, 0] rfl)
    exact B16 _ 0 x3 x4 g5 g6 H locs ls (Nat.lt_succ_self _) (by decide) hP hD hS (lv_sub hl [1, 0] rfl)
  · have zc2 := eqK rfl (show (0 : Int32).toInt = 0 by decide) c2
    refine lv_bipush (v := (-2)) hx hb dX11_rest_7 (by decide) ?_
    exact retDi ((F 17), (F 18), (A 15), (A 16)) hx hb hr hlk hP hD hS dX11_rest_9 (trivial) (Nat.le_of_ble_eq_true rfl) (Nat.le_of_ble_eq_true rfl)

set_option maxRecDepth 100000 in
set_option maxHeartbeats 8000000 in
theorem sX11_trumpet (l : Launch) (G : va_G) (cs : Nat → ClassId) (h : Nat) (q : Nat → Nat) (F : Nat → Int32) (A : Nat → Nat → Int32) (D : Int64) (B : Nat → Nat → Int64) (hI : IM F A) : ImpI l yX11_trumpet cX11_trumpet 3 (some .int) 5 0 0 G (TY cs) [.ref h] (mS cs h q F A D B) (fun (r : Int32) (u : Int32 × Int32 × (Nat → Int32) × (Nat → Int32)) => True) (fun u : Int32 × Int32 × (Nat → Int32) × (Nat → Int32) => (mS cs h q (upd (upd F 17 u.1) 18 u.2.1) (vA (vA A 15 u.2.2.1) 16 u.2.2.2) D B)) := by
  refine mkD (Qc := (QDi G (fun (r : Int32) (u : Int32 × Int32 × (Nat → Int32) × (Nat → Int32)) => True) (fun u : Int32 × Int32 × (Nat → Int32) × (Nat → Int32) => (mS cs h q (upd (upd F 17 u.1) 18 u.2.1) (vA (vA A 15 u.2.2.1) 16 u.2.2.2) D B)))) (by decide) (by simp [lg_sl, Value.category]) ?_
  intro p e s m args below meth c ls A0 hx hb hml hr hlk hown hmn ht hK hP hD hS hA hl
  have hl : lv_has ls 3 [(0, .ref h)] := hl
  refine lv_aload_n hx hb dX11_trumpet_0 rfl (lv_at hl 0 rfl) ?_
  refine behR (runVP (As := []) (rest := []) ⟨hx, hb, hml, hown, ht⟩ (sX11_isHouse l G cs h q F A D B hI  ) okV_RX11_83 ⟨by decide, by decide⟩ hK hP [0, 1, 2, 3, 4, 5, 6, 7, 8, 9, 10, 11, 12, 13, 14, 15, 16, 17, 18, 19] rfl 0 rfl rfl hl.1 rfl (Nat.le_of_ble_eq_true rfl) dX11_trumpet_1 ⟨by decide, by decide⟩) hP hS hA (fun r1 H locs hr1 hP hS => ?_)
  have hr1 : (0 : Int) ≤ r1.toInt ∧ r1.toInt ≤ 1 := hr1
  refine lv_if_ne (tgt := 10) hx hb dX11_trumpet_4 (by decide) (fun c2 => ?_) (fun c2 => ?_)
  · have zc2 := neK rfl (show (0 : Int32).toInt = 0 by decide) c2
    refine lv_aload_n hx hb dX11_trumpet_10 rfl (lv_at hl 0 rfl) ?_
    refine behDw (wr := []) (runVD (As := []) (rest := []) ⟨hx, hb, hml, hown, ht⟩ (sX11_asItIs l G cs h q F A D B hI  ) okV_RX11_278 ⟨by decide, by decide⟩ hK hP hD [0, 1, 2, 3, 4, 5, 6, 7, 8, 9, 10, 11, 12, 13, 14, 15, 16, 17, 18, 19] rfl (by decide) rfl 0 rfl rfl hl.1 rfl (Nat.le_of_ble_eq_true rfl) dX11_trumpet_11 ⟨(Nat.le_of_ble_eq_true rfl), (Nat.le_of_ble_eq_true rfl)⟩) hP hD hS hA [0, 1, 2, 3, 4, 5, 6, 7, 8, 9, 10, 11, 12, 13, 14, 15, 16, 17, 18, 19] [] rfl rfl (by decide) (by decide) (fun u H locs hu hP hD hS => ?_)
    obtain ⟨x3, x4, g5, g6⟩ := u
    have hr7 := hu
    have hP : va_P G vwCl (mS cs h q (upd (upd F 17 x3) 18 x4) (vA (vA A 15 g5) 16 g6) D B) H := hP
    have hD : va_D A0 (mS cs h q (upd (upd F 17 x3) 18 x4) (vA (vA A 15 g5) 16 g6) D B) := hD
    refine lv_iconst (v := 0) hx hb dX11_trumpet_14 (by decide) ?_
    refine lv_istore_n (lv' := [(1, .int 0), (0, .ref h)]) hx hb dX11_trumpet_15 rfl hl (by decide) rfl (fun ls hl => ?_)
    refine lv_iconst (v := 0) hx hb dX11_trumpet_16 (by decide) ?_
    refine lv_istore_n (lv' := [(2, .int 0), (1, .int 0), (0, .ref h)]) hx hb dX11_trumpet_17 rfl hl (by decide) rfl (fun ls hl => ?_)
    have B18 : ∀ (n : Nat) (x18_1 : Int32) (x18_2 : Int32) (f17_18 : Int32) (f18_18 : Int32) (a15_18 : (Nat → Int32)) (a16_18 : (Nat → Int32)) (H : Heap) (locs : List Loc) (ls : Array Slot), (7 - x18_2.toInt).toNat < n → (0 : Int) ≤ x18_2.toInt ∧ x18_2.toInt ≤ 7 → va_P G vwCl (mS cs h q (upd (upd F 17 f17_18) 18 f18_18) (vA (vA A 15 a15_18) 16 a16_18) D B) H → va_D A0 (mS cs h q (upd (upd F 17 f17_18) 18 f18_18) (vA (vA A 15 a15_18) 16 a16_18) D B) → va_S A0 s.heap H locs → lv_has ls 3 [(0, .ref h), (1, .int x18_1), (2, .int x18_2)] → W p l e (rmk 5 0 0) s m args below meth c H locs 0 0 (MQ below ((QDi G (fun (r : Int32) (u : Int32 × Int32 × (Nat → Int32) × (Nat → Int32)) => True) (fun u : Int32 × Int32 × (Nat → Int32) × (Nat → Int32) => (mS cs h q (upd (upd F 17 u.1) 18 u.2.1) (vA (vA A 15 u.2.2.1) 16 u.2.2.2) D B))) A0) args s 0 0 A0) (F0 m 18 ls []) := by
      intro n
      induction n with
      | zero => intro x18_1 x18_2 f17_18 f18_18 a15_18 a16_18 H locs ls hmeas hx18_2 hP hD hS hl; exact absurd hmeas (Nat.not_lt_zero _)
      | succ n ih18 =>
        intro x18_1 x18_2 f17_18 f18_18 a15_18 a16_18 H locs ls hmeas hx18_2 hP hD hS hl
        refine lv_iload_n hx hb dX11_trumpet_18 rfl (lv_at hl 2 rfl) ?_
        refine lv_aload_n hx hb dX11_trumpet_19 rfl (lv_at hl 0 rfl) ?_
        refine getF (v := .ref (q 1)) hx hb ht hown hK hP iTX11 0 1 rfl rfl (by decide) fl_RX11_9 rfl dX11_trumpet_20 ?_
        refine lv_iconst (v := 4) hx hb dX11_trumpet_23 (by decide) ?_
        refine va_iald hx hb hK.1 hP 1 0 rfl rfl (show ¬ (_ ∨ _) by decide) dX11_trumpet_24 ?_
        refine W.eq (g2 := F0 m 25 ls [.int (A 1 4), .int x18_2]) rfl ?_
        have zf12001 : (0 : Int) ≤ (A 1 4).toInt ∧ (A 1 4).toInt ≤ 7 := (hI.2 1 4)
        refine lv_icmp_ge (tgt := 43) hx hb dX11_trumpet_25 (by decide) (fun c12002 => ?_) (fun c12002 => ?_)
        · have zc12002 := leK rfl rfl c12002
          refine lv_iload_n hx hb dX11_trumpet_43 rfl (lv_at hl 1 rfl) ?_
          exact retDi (f17_18, f18_18, a15_18, a16_18) hx hb hr hlk hP hD hS dX11_trumpet_44 (trivial) (Nat.le_of_ble_eq_true rfl) (Nat.le_of_ble_eq_true rfl)
        · have zc12002 := nleK rfl rfl c12002
          refine lv_iload_n hx hb dX11_trumpet_28 rfl (lv_at hl 1 rfl) ?_
          refine lv_aload_n hx hb dX11_trumpet_29 rfl (lv_at hl 0 rfl) ?_
          refine lv_iload_n hx hb dX11_trumpet_30 rfl (lv_at hl 2 rfl) ?_
          refine lv_iconst (v := 0) hx hb dX11_trumpet_31 (by decide) ?_
          refine behR (runVP (As := [.int x18_2, .int 0]) (rest := [.int x18_1]) ⟨hx, hb, hml, hown, ht⟩ (sX11_wouldFind l G cs h q (upd (upd F 17 f17_18) 18 f18_18) (vA (vA A 15 a15_18) 16 a16_18) D B (IM_arr (k := 16) (IM_arr (k := 15) (IM_put (k := 18) (IM_put (k := 17) hI (i32b _)) (i32b _)) (fun _ => i32b _)) (fun _ => i32b _)) x18_2 0 (by omega) (by decide)) okV_RX11_252 ⟨by decide, by decide⟩ hK hP [0, 1, 2, 3, 4, 5, 6, 7, 8, 9, 10, 11, 12, 13, 14, 15, 16, 17, 18, 19] rfl 0 rfl rfl hl.1 rfl (Nat.le_of_ble_eq_true rfl) dX11_trumpet_32 ⟨by decide, by decide⟩) hP hS hA (fun r12003 H locs hr12003 hP hS => ?_)
          refine lv_iadd hx hb dX11_trumpet_35 ?_
          refine lv_topi (fun v12004 ev12004 => ?_)
          refine lv_istore_n (lv' := [(1, .int v12004), (0, .ref h), (2, .int x18_2)]) hx hb dX11_trumpet_36 rfl hl (by decide) rfl (fun ls hl => ?_)
          obtain ⟨v12005, ev12005⟩ : ∃ z : Int32, z = x18_2 + 1 := ⟨_, rfl⟩
          have tv12005 : v12005.toInt = x18_2.toInt + 1 := by rw [ev12005]; exact addT rfl (by decide) (by omega)
          refine lv_iinc (v := v12005) (lv' := [(2, .int v12005), (1, .int v12004), (0, .ref h)]) hx hb dX11_trumpet_37 hl (k := 2) rfl (by rw [ev12005]; rfl) (by decide) rfl (fun ls hl => ?_)
          refine lv_goto (tgt := 18) hx hb dX11_trumpet_40 (by decide) ?_
          exact ih18 v12004 v12005 f17_18 f18_18 a15_18 a16_18 H locs ls (by omega) (by omega) hP hD hS (lv_sub hl [2, 1, 0] rfl)
    exact B18 _ 0 0 x3 x4 g5 g6 H locs ls (Nat.lt_succ_self _) (by decide) hP hD hS (lv_sub hl [2, 1, 0] rfl)
  · have zc2 := eqK rfl (show (0 : Int32).toInt = 0 by decide) c2
    refine lv_bipush (v := (-2)) hx hb dX11_trumpet_7 (by decide) ?_
    exact retDi ((F 17), (F 18), (A 15), (A 16)) hx hb hr hlk hP hD hS dX11_trumpet_9 (trivial) (Nat.le_of_ble_eq_true rfl) (Nat.le_of_ble_eq_true rfl)

set_option maxRecDepth 100000 in
set_option maxHeartbeats 8000000 in
theorem sX11_quietBy (l : Launch) (G : va_G) (cs : Nat → ClassId) (h : Nat) (q : Nat → Nat) (F : Nat → Int32) (A : Nat → Nat → Int32) (D : Int64) (B : Nat → Nat → Int64) (hI : IM F A) (a1 : Int32) : ImpI l yX11_quietBy cX11_quietBy 7 (some .int) 5 0 0 G (TY cs) [.ref h, .int a1] (mS cs h q F A D B) (fun (r : Int32) (u : Int32 × Int32 × Int32 × (Nat → Int32) × (Nat → Int32)) => True) (fun u : Int32 × Int32 × Int32 × (Nat → Int32) × (Nat → Int32) => (mS cs h q (upd (upd (upd F 17 u.1) 18 u.2.1) 22 u.2.2.1) (vA (vA A 15 u.2.2.2.1) 16 u.2.2.2.2) D B)) := by
  refine mkD (Qc := (QDi G (fun (r : Int32) (u : Int32 × Int32 × Int32 × (Nat → Int32) × (Nat → Int32)) => True) (fun u : Int32 × Int32 × Int32 × (Nat → Int32) × (Nat → Int32) => (mS cs h q (upd (upd (upd F 17 u.1) 18 u.2.1) 22 u.2.2.1) (vA (vA A 15 u.2.2.2.1) 16 u.2.2.2.2) D B)))) (by decide) (by simp [lg_sl, Value.category]) ?_
  intro p e s m args below meth c ls A0 hx hb hml hr hlk hown hmn ht hK hP hD hS hA hl
  have hl : lv_has ls 7 [(0, .ref h), (1, .int a1)] := hl
  refine lv_aload_n hx hb dX11_quietBy_0 rfl (lv_at hl 0 rfl) ?_
  refine behDw (wr := []) (runVD (As := []) (rest := []) ⟨hx, hb, hml, hown, ht⟩ (sX11_asItIs l G cs h q F A D B hI  ) okV_RX11_278 ⟨by decide, by decide⟩ hK hP hD [0, 1, 2, 3, 4, 5, 6, 7, 8, 9, 10, 11, 12, 13, 14, 15, 16, 17, 18, 19] rfl (by decide) rfl 0 rfl rfl hl.1 rfl (Nat.le_of_ble_eq_true rfl) dX11_quietBy_1 ⟨(Nat.le_of_ble_eq_true rfl), (Nat.le_of_ble_eq_true rfl)⟩) hP hD hS hA [0, 1, 2, 3, 4, 5, 6, 7, 8, 9, 10, 11, 12, 13, 14, 15, 16, 17, 18, 19] [] rfl rfl (by decide) (by decide) (fun u H locs hu hP hD hS => ?_)
  obtain ⟨x1, x2, g3, g4⟩ := u
  have hr5 := hu
  have hP : va_P G vwCl (mS cs h q (upd (upd F 17 x1) 18 x2) (vA (vA A 15 g3) 16 g4) D B) H := hP
  have hD : va_D A0 (mS cs h q (upd (upd F 17 x1) 18 x2) (vA (vA A 15 g3) 16 g4) D B) := hD
  refine lv_aload_n hx hb dX11_quietBy_4 rfl (lv_at hl 0 rfl) ?_
  refine lv_ldcw hx hb hown (ht _ ki_RX11_333) dX11_quietBy_5 ?_
  refine putD hx hb ht hown hK hP hD hS iTX11 tyX11 tyX11_ok nmX11 0 22 rfl rfl (by decide) fl_RX11_334 rfl rfl rfl (Nat.le_of_ble_eq_true rfl) dX11_quietBy_8 (fun H locs hP hD hS => ?_)
  have hP : va_P G vwCl (mS cs h q (upd (upd (upd F 17 x1) 18 x2) 22 1000000000) (vA (vA A 15 g3) 16 g4) D B) H := hP
  have hD : va_D A0 (mS cs h q (upd (upd (upd F 17 x1) 18 x2) 22 1000000000) (vA (vA A 15 g3) 16 g4) D B) := hD
  refine lv_iconst (v := (-1)) hx hb dX11_quietBy_11 (by decide) ?_
  refine lv_istore_n (lv' := [(2, .int (-1)), (0, .ref h), (1, .int a1)]) hx hb dX11_quietBy_12 rfl hl (by decide) rfl (fun ls hl => ?_)
  refine lv_iconst (v := 0) hx hb dX11_quietBy_13 (by decide) ?_
  refine lv_istore_n (lv' := [(3, .int 0), (2, .int (-1)), (0, .ref h), (1, .int a1)]) hx hb dX11_quietBy_14 rfl hl (by decide) rfl (fun ls hl => ?_)
  have B15 : ∀ (n : Nat) (x15_2 : Int32) (x15_3 : Int32) (f17_15 : Int32) (f18_15 : Int32) (f22_15 : Int32) (a15_15 : (Nat → Int32)) (a16_15 : (Nat → Int32)) (H : Heap) (locs : List Loc) (ls : Array Slot), (1000000000 - x15_3.toInt).toNat < n → (-1 : Int) ≤ x15_2.toInt ∧ x15_2.toInt ≤ 999999999 → (0 : Int) ≤ x15_3.toInt ∧ x15_3.toInt ≤ 1000000000 → va_P G vwCl (mS cs h q (upd (upd (upd F 17 f17_15) 18 f18_15) 22 f22_15) (vA (vA A 15 a15_15) 16 a16_15) D B) H → va_D A0 (mS cs h q (upd (upd (upd F 17 f17_15) 18 f18_15) 22 f22_15) (vA (vA A 15 a15_15) 16 a16_15) D B) → va_S A0 s.heap H locs → lv_has ls 7 [(0, .ref h), (1, .int a1), (2, .int x15_2), (3, .int x15_3)] → W p l e (rmk 5 0 0) s m args below meth c H locs 0 0 (MQ below ((QDi G (fun (r : Int32) (u : Int32 × Int32 × Int32 × (Nat → Int32) × (Nat → Int32)) => True) (fun u : Int32 × Int32 × Int32 × (Nat → Int32) × (Nat → Int32) => (mS cs h q (upd (upd (upd F 17 u.1) 18 u.2.1) 22 u.2.2.1) (vA (vA A 15 u.2.2.2.1) 16 u.2.2.2.2) D B))) A0) args s 0 0 A0) (F0 m 15 ls []) := by
    intro n
    induction n with
    | zero => intro x15_2 x15_3 f17_15 f18_15 f22_15 a15_15 a16_15 H locs ls hmeas hx15_2 hx15_3 hP hD hS hl; exact absurd hmeas (Nat.not_lt_zero _)
    | succ n ih15 =>
      intro x15_2 x15_3 f17_15 f18_15 f22_15 a15_15 a16_15 H locs ls hmeas hx15_2 hx15_3 hP hD hS hl
      refine lv_iload_n hx hb dX11_quietBy_15 rfl (lv_at hl 3 rfl) ?_
      refine lv_aload_n hx hb dX11_quietBy_16 rfl (lv_at hl 0 rfl) ?_
      refine behR (runVP (As := []) (rest := [.int x15_3]) ⟨hx, hb, hml, hown, ht⟩ (sX11_allRooms l G cs h q (upd (upd (upd F 17 f17_15) 18 f18_15) 22 f22_15) (vA (vA A 15 a15_15) 16 a16_15) D B (IM_arr (k := 16) (IM_arr (k := 15) (IM_put (k := 22) (IM_put (k := 18) (IM_put (k := 17) hI (i32b _)) (i32b _)) (i32b _)) (fun _ => i32b _)) (fun _ => i32b _))  ) okV_RX11_337 ⟨by decide, by decide⟩ hK hP [0, 1, 2, 3, 4, 5, 6, 7, 8, 9, 10, 11, 12, 13, 14, 15, 16, 17, 18, 19] rfl 0 rfl rfl hl.1 rfl (Nat.le_of_ble_eq_true rfl) dX11_quietBy_17 ⟨by decide, by decide⟩) hP hS hA (fun r10001 H locs hr10001 hP hS => ?_)
      have hr10001 : (0 : Int) ≤ r10001.toInt ∧ r10001.toInt ≤ 127 := hr10001
      refine lv_icmp_gt (tgt := 119) hx hb dX11_quietBy_20 (by decide) (fun c10002 => ?_) (fun c10002 => ?_)
      · have zc10002 := ltK rfl rfl c10002
        refine lv_iload_n hx hb dX11_quietBy_119 rfl (lv_at hl 2 rfl) ?_
        exact retDi (f17_15, f18_15, f22_15, a15_15, a16_15) hx hb hr hlk hP hD hS dX11_quietBy_120 (trivial) (Nat.le_of_ble_eq_true rfl) (Nat.le_of_ble_eq_true rfl)
      · have zc10002 := nltK rfl rfl c10002
        refine lv_iconst (v := 0) hx hb dX11_quietBy_23 (by decide) ?_
        refine lv_istore (lv' := [(4, .int 0), (0, .ref h), (1, .int a1), (2, .int x15_2), (3, .int x15_3)]) hx hb dX11_quietBy_24 hl (by decide) rfl (fun ls hl => ?_)
        refine lv_iconst (v := 0) hx hb dX11_quietBy_26 (by decide) ?_
        refine lv_istore (lv' := [(5, .int 0), (4, .int 0), (0, .ref h), (1, .int a1), (2, .int x15_2), (3, .int x15_3)]) hx hb dX11_quietBy_27 hl (by decide) rfl (fun ls hl => ?_)
        refine lv_iconst (v := 0) hx hb dX11_quietBy_29 (by decide) ?_
        refine lv_istore (lv' := [(6, .int 0), (5, .int 0), (4, .int 0), (0, .ref h), (1, .int a1), (2, .int x15_2), (3, .int x15_3)]) hx hb dX11_quietBy_30 hl (by decide) rfl (fun ls hl => ?_)
        have B32 : ∀ (n : Nat) (x32_2 : Int32) (x32_3 : Int32) (x32_4 : Int32) (x32_5 : Int32) (x32_6 : Int32) (f17_32 : Int32) (f18_32 : Int32) (f22_32 : Int32) (a15_32 : (Nat → Int32)) (a16_32 : (Nat → Int32)) (H : Heap) (locs : List Loc) (ls : Array Slot), (7 - x32_6.toInt).toNat < n → (-1 : Int) ≤ x32_2.toInt ∧ x32_2.toInt ≤ 999999999 → (0 : Int) ≤ x32_3.toInt ∧ x32_3.toInt ≤ 999999999 → (0 : Int) ≤ x32_6.toInt ∧ x32_6.toInt ≤ 7 → va_P G vwCl (mS cs h q (upd (upd (upd F 17 f17_32) 18 f18_32) 22 f22_32) (vA (vA A 15 a15_32) 16 a16_32) D B) H → va_D A0 (mS cs h q (upd (upd (upd F 17 f17_32) 18 f18_32) 22 f22_32) (vA (vA A 15 a15_32) 16 a16_32) D B) → va_S A0 s.heap H locs → lv_has ls 7 [(0, .ref h), (1, .int a1), (2, .int x32_2), (3, .int x32_3), (4, .int x32_4), (5, .int x32_5), (6, .int x32_6)] → W p l e (rmk 5 0 0) s m args below meth c H locs 0 0 (MQ below ((QDi G (fun (r : Int32) (u : Int32 × Int32 × Int32 × (Nat → Int32) × (Nat → Int32)) => True) (fun u : Int32 × Int32 × Int32 × (Nat → Int32) × (Nat → Int32) => (mS cs h q (upd (upd (upd F 17 u.1) 18 u.2.1) 22 u.2.2.1) (vA (vA A 15 u.2.2.2.1) 16 u.2.2.2.2) D B))) A0) args s 0 0 A0) (F0 m 32 ls []) := by
          intro n
          induction n with
          | zero => intro x32_2 x32_3 x32_4 x32_5 x32_6 f17_32 f18_32 f22_32 a15_32 a16_32 H locs ls hmeas hx32_2 hx32_3 hx32_6 hP hD hS hl; exact absurd hmeas (Nat.not_lt_zero _)
          | succ n ih32 =>
            intro x32_2 x32_3 x32_4 x32_5 x32_6 f17_32 f18_32 f22_32 a15_32 a16_32 H locs ls hmeas hx32_2 hx32_3 hx32_6 hP hD hS hl
            refine lv_iload hx hb dX11_quietBy_32 (lv_at hl 6 rfl) ?_
            refine lv_aload_n hx hb dX11_quietBy_34 rfl (lv_at hl 0 rfl) ?_
            refine getF (v := .ref (q 1)) hx hb ht hown hK hP iTX11 0 1 rfl rfl (by decide) fl_RX11_9 rfl dX11_quietBy_35 ?_
            refine lv_iconst (v := 4) hx hb dX11_quietBy_38 (by decide) ?_
            refine va_iald hx hb hK.1 hP 1 0 rfl rfl (show ¬ (_ ∨ _) by decide) dX11_quietBy_39 ?_
            refine W.eq (g2 := F0 m 40 ls [.int (A 1 4), .int x32_6]) rfl ?_
            have zf20001 : (0 : Int) ≤ (A 1 4).toInt ∧ (A 1 4).toInt ≤ 7 := (hI.2 1 4)
            refine lv_icmp_ge (tgt := 87) hx hb dX11_quietBy_40 (by decide) (fun c20002 => ?_) (fun c20002 => ?_)
            · have zc20002 := leK rfl rfl c20002
              refine lv_iload hx hb dX11_quietBy_87 (lv_at hl 4 rfl) ?_
              refine lv_iload_n hx hb dX11_quietBy_89 rfl (lv_at hl 1 rfl) ?_
              have B113 : ∀ (x113_2 : Int32) (x113_3 : Int32) (f17_113 : Int32) (f18_113 : Int32) (f22_113 : Int32) (a15_113 : (Nat → Int32)) (a16_113 : (Nat → Int32)) (H : Heap) (locs : List Loc) (ls : Array Slot), (-1 : Int) ≤ x113_2.toInt ∧ x113_2.toInt ≤ 999999999 → (0 : Int) ≤ x113_3.toInt ∧ x113_3.toInt ≤ 999999999 → va_P G vwCl (mS cs h q (upd (upd (upd F 17 f17_113) 18 f18_113) 22 f22_113) (vA (vA A 15 a15_113) 16 a16_113) D B) H → va_D A0 (mS cs h q (upd (upd (upd F 17 f17_113) 18 f18_113) 22 f22_113) (vA (vA A 15 a15_113) 16 a16_113) D B) → va_S A0 s.heap H locs → lv_has ls 7 [(0, .ref h), (1, .int a1), (2, .int x113_2), (3, .int x113_3)] → W p l e (rmk 5 0 0) s m args below meth c H locs 0 0 (MQ below ((QDi G (fun (r : Int32) (u : Int32 × Int32 × Int32 × (Nat → Int32) × (Nat → Int32)) => True) (fun u : Int32 × Int32 × Int32 × (Nat → Int32) × (Nat → Int32) => (mS cs h q (upd (upd (upd F 17 u.1) 18 u.2.1) 22 u.2.2.1) (vA (vA A 15 u.2.2.2.1) 16 u.2.2.2.2) D B))) A0) args s 0 0 A0) (F0 m 113 ls []) := by
                intro x113_2 x113_3 f17_113 f18_113 f22_113 a15_113 a16_113 H locs ls hx113_2 hx113_3 hP hD hS hl
                obtain ⟨v63001, ev63001⟩ : ∃ z : Int32, z = x113_3 + 1 := ⟨_, rfl⟩
                have tv63001 : v63001.toInt = x113_3.toInt + 1 := by rw [ev63001]; exact addT rfl (by decide) (by omega)
                refine lv_iinc (v := v63001) (lv' := [(3, .int v63001), (0, .ref h), (1, .int a1), (2, .int x113_2)]) hx hb dX11_quietBy_113 hl (k := 3) rfl (by rw [ev63001]; rfl) (by decide) rfl (fun ls hl => ?_)
                refine lv_goto (tgt := 15) hx hb dX11_quietBy_116 (by decide) ?_
                exact ih15 x113_2 v63001 f17_113 f18_113 f22_113 a15_113 a16_113 H locs ls (by omega) (by omega) (by omega) hP hD hS (lv_sub hl [1, 2, 3, 0] rfl)
              refine lv_icmp_lt (tgt := 113) hx hb dX11_quietBy_90 (by decide) (fun c20003 => ?_) (fun c20003 => ?_)
              · have zc20003 := ltK rfl rfl c20003
                exact B113 x32_2 x32_3 f17_32 f18_32 f22_32 a15_32 a16_32 H locs ls (by omega) (by omega) hP hD hS (lv_sub hl [0, 1, 2, 3] rfl)
              · have zc20003 := nltK rfl rfl c20003
                refine lv_iload hx hb dX11_quietBy_93 (lv_at hl 5 rfl) ?_
                refine lv_aload_n hx hb dX11_quietBy_95 rfl (lv_at hl 0 rfl) ?_
                refine getF (v := .int f22_32) hx hb ht hown hK hP iTX11 0 22 rfl rfl (by decide) fl_RX11_334 rfl dX11_quietBy_96 ?_
                refine lv_icmp_lt (tgt := 105) hx hb dX11_quietBy_99 (by decide) (fun c20004 => ?_) (fun c20004 => ?_)
                · have zc20004 := ltK rfl rfl c20004
                  refine lv_aload_n hx hb dX11_quietBy_105 rfl (lv_at hl 0 rfl) ?_
                  refine lv_iload hx hb dX11_quietBy_106 (lv_at hl 5 rfl) ?_
                  refine putD hx hb ht hown hK hP hD hS iTX11 tyX11 tyX11_ok nmX11 0 22 rfl rfl (by decide) fl_RX11_334 rfl rfl rfl (Nat.le_of_ble_eq_true rfl) dX11_quietBy_108 (fun H locs hP hD hS => ?_)
                  have hP : va_P G vwCl (mS cs h q (upd (upd (upd F 17 f17_32) 18 f18_32) 22 x32_5) (vA (vA A 15 a15_32) 16 a16_32) D B) H := hP
                  have hD : va_D A0 (mS cs h q (upd (upd (upd F 17 f17_32) 18 f18_32) 22 x32_5) (vA (vA A 15 a15_32) 16 a16_32) D B) := hD
                  refine lv_iload_n hx hb dX11_quietBy_111 rfl (lv_at hl 3 rfl) ?_
                  refine lv_istore_n (lv' := [(2, .int x32_3), (0, .ref h), (1, .int a1), (3, .int x32_3), (4, .int x32_4), (5, .int x32_5), (6, .int x32_6)]) hx hb dX11_quietBy_112 rfl hl (by decide) rfl (fun ls hl => ?_)
                  exact B113 x32_3 x32_3 f17_32 f18_32 x32_5 a15_32 a16_32 H locs ls (by omega) (by omega) hP hD hS (lv_sub hl [1, 2, 0, 3] rfl)
                · have zc20004 := nltK rfl rfl c20004
                  refine lv_goto (tgt := 113) hx hb dX11_quietBy_102 (by decide) ?_
                  exact B113 x32_2 x32_3 f17_32 f18_32 f22_32 a15_32 a16_32 H locs ls (by omega) (by omega) hP hD hS (lv_sub hl [0, 1, 2, 3] rfl)
            · have zc20002 := nleK rfl rfl c20002
              refine lv_iload hx hb dX11_quietBy_43 (lv_at hl 4 rfl) ?_
              refine lv_iload_n hx hb dX11_quietBy_45 rfl (lv_at hl 3 rfl) ?_
              refine lv_iload hx hb dX11_quietBy_46 (lv_at hl 6 rfl) ?_
              refine behR (runSP (As := [.int x32_3, .int x32_6]) (rest := [.int x32_4]) ⟨hx, hb, hml, hown, ht⟩ (sX11_bit l G cs x32_3 x32_6 ) okS_RX11_258 ⟨by decide, by decide⟩ hK hP [] rfl hl.1 rfl (Nat.le_of_ble_eq_true rfl) dX11_quietBy_48 ⟨by decide, by decide⟩) hP hS hA (fun r20005 H locs hr20005 hP hS => ?_)
              have hr20005 : (0 : Int) ≤ r20005.toInt ∧ r20005.toInt ≤ 1 := hr20005
              refine lv_aload_n hx hb dX11_quietBy_51 rfl (lv_at hl 0 rfl) ?_
              refine lv_iload hx hb dX11_quietBy_52 (lv_at hl 6 rfl) ?_
              refine lv_iconst (v := 0) hx hb dX11_quietBy_54 (by decide) ?_
              refine behR (runVP (As := [.int x32_6, .int 0]) (rest := [.int r20005, .int x32_4]) ⟨hx, hb, hml, hown, ht⟩ (sX11_wouldFind l G cs h q (upd (upd (upd F 17 f17_32) 18 f18_32) 22 f22_32) (vA (vA A 15 a15_32) 16 a16_32) D B (IM_arr (k := 16) (IM_arr (k := 15) (IM_put (k := 22) (IM_put (k := 18) (IM_put (k := 17) hI (i32b _)) (i32b _)) (i32b _)) (fun _ => i32b _)) (fun _ => i32b _)) x32_6 0 (by omega) (by decide)) okV_RX11_252 ⟨by decide, by decide⟩ hK hP [0, 1, 2, 3, 4, 5, 6, 7, 8, 9, 10, 11, 12, 13, 14, 15, 16, 17, 18, 19] rfl 0 rfl rfl hl.1 rfl (Nat.le_of_ble_eq_true rfl) dX11_quietBy_55 ⟨by decide, by decide⟩) hP hS hA (fun r20006 H locs hr20006 hP hS => ?_)
              refine lv_imul hx hb dX11_quietBy_58 ?_
              refine lv_topi (fun v20007 ev20007 => ?_)
              refine lv_iadd hx hb dX11_quietBy_59 ?_
              refine lv_topi (fun v20008 ev20008 => ?_)
              refine lv_istore (lv' := [(4, .int v20008), (0, .ref h), (1, .int a1), (2, .int x32_2), (3, .int x32_3), (5, .int x32_5), (6, .int x32_6)]) hx hb dX11_quietBy_60 hl (by decide) rfl (fun ls hl => ?_)
              refine lv_iload hx hb dX11_quietBy_62 (lv_at hl 5 rfl) ?_
              refine lv_iload_n hx hb dX11_quietBy_64 rfl (lv_at hl 4 rfl) ?_
              refine lv_iload hx hb dX11_quietBy_65 (lv_at hl 6 rfl) ?_
              refine behR (runSP (As := [.int x32_3, .int x32_6]) (rest := [.int x32_5]) ⟨hx, hb, hml, hown, ht⟩ (sX11_bit l G cs x32_3 x32_6 ) okS_RX11_258 ⟨by decide, by decide⟩ hK hP [] rfl hl.1 rfl (Nat.le_of_ble_eq_true rfl) dX11_quietBy_67 ⟨by decide, by decide⟩) hP hS hA (fun r20009 H locs hr20009 hP hS => ?_)
              have hr20009 : (0 : Int) ≤ r20009.toInt ∧ r20009.toInt ≤ 1 := hr20009
              refine lv_aload_n hx hb dX11_quietBy_70 rfl (lv_at hl 1 rfl) ?_
              refine lv_iload hx hb dX11_quietBy_71 (lv_at hl 6 rfl) ?_
              refine lv_iconst (v := 0) hx hb dX11_quietBy_73 (by decide) ?_
              refine behR (runVP (As := [.int x32_6, .int 0]) (rest := [.int r20009, .int x32_5]) ⟨hx, hb, hml, hown, ht⟩ (sX11_of l G cs h q (upd (upd (upd F 17 f17_32) 18 f18_32) 22 f22_32) (vA (vA A 15 a15_32) 16 a16_32) D B (IM_arr (k := 16) (IM_arr (k := 15) (IM_put (k := 22) (IM_put (k := 18) (IM_put (k := 17) hI (i32b _)) (i32b _)) (i32b _)) (fun _ => i32b _)) (fun _ => i32b _)) x32_6 0 (by omega) (by decide)) okV_RX11_227 ⟨by decide, by decide⟩ hK hP [0, 1, 2, 3, 4, 5, 6, 7, 8, 9, 10, 11, 12, 13, 14, 15, 16, 17, 18, 19] rfl 0 rfl rfl hl.1 rfl (Nat.le_of_ble_eq_true rfl) dX11_quietBy_74 ⟨by decide, by decide⟩) hP hS hA (fun r20010 H locs hr20010 hP hS => ?_)
              have hr20010 : (0 : Int) ≤ r20010.toInt ∧ r20010.toInt ≤ 999 ∧ (0 = 3 → r20010.toInt ≤ 127) ∧ (0 = 2 → r20010.toInt ≤ 99) := hr20010
              refine lv_imul hx hb dX11_quietBy_77 ?_
              refine lv_topi (fun v20011 ev20011 => ?_)
              refine lv_iadd hx hb dX11_quietBy_78 ?_
              refine lv_topi (fun v20012 ev20012 => ?_)
              refine lv_istore (lv' := [(5, .int v20012), (4, .int v20008), (0, .ref h), (1, .int a1), (2, .int x32_2), (3, .int x32_3), (6, .int x32_6)]) hx hb dX11_quietBy_79 hl (by decide) rfl (fun ls hl => ?_)
              obtain ⟨v20013, ev20013⟩ : ∃ z : Int32, z = x32_6 + 1 := ⟨_, rfl⟩
              have tv20013 : v20013.toInt = x32_6.toInt + 1 := by rw [ev20013]; exact addT rfl (by decide) (by omega)
              refine lv_iinc (v := v20013) (lv' := [(6, .int v20013), (5, .int v20012), (4, .int v20008), (0, .ref h), (1, .int a1), (2, .int x32_2), (3, .int x32_3)]) hx hb dX11_quietBy_81 hl (k := 6) rfl (by rw [ev20013]; rfl) (by decide) rfl (fun ls hl => ?_)
              refine lv_goto (tgt := 32) hx hb dX11_quietBy_84 (by decide) ?_
              exact ih32 x32_2 x32_3 v20008 v20012 v20013 f17_32 f18_32 f22_32 a15_32 a16_32 H locs ls (by omega) (by omega) (by omega) (by omega) hP hD hS (lv_sub hl [3, 4, 5, 6, 2, 1, 0] rfl)
        exact B32 _ x15_2 x15_3 0 0 0 f17_15 f18_15 f22_15 a15_15 a16_15 H locs ls (Nat.lt_succ_self _) (by omega) (by omega) (by decide) hP hD hS (lv_sub hl [3, 4, 5, 6, 2, 1, 0] rfl)
  exact B15 _ (-1) 0 x1 x2 1000000000 g3 g4 H locs ls (Nat.lt_succ_self _) (by decide) (by decide) hP hD hS (lv_sub hl [2, 3, 1, 0] rfl)

set_option maxRecDepth 100000 in
set_option maxHeartbeats 8000000 in
theorem sX11_quiet (l : Launch) (G : va_G) (cs : Nat → ClassId) (h : Nat) (q : Nat → Nat) (F : Nat → Int32) (A : Nat → Nat → Int32) (D : Int64) (B : Nat → Nat → Int64) (hI : IM F A) (a1 : Int32) : ImpI l yX11_quiet cX11_quiet 2 (some .int) 6 0 0 G (TY cs) [.ref h, .int a1] (mS cs h q F A D B) (fun (r : Int32) (u : Int32 × Int32 × Int32 × (Nat → Int32) × (Nat → Int32)) => True) (fun u : Int32 × Int32 × Int32 × (Nat → Int32) × (Nat → Int32) => (mS cs h q (upd (upd (upd F 17 u.1) 18 u.2.1) 22 u.2.2.1) (vA (vA A 15 u.2.2.2.1) 16 u.2.2.2.2) D B)) := by
  refine mkD (Qc := (QDi G (fun (r : Int32) (u : Int32 × Int32 × Int32 × (Nat → Int32) × (Nat → Int32)) => True) (fun u : Int32 × Int32 × Int32 × (Nat → Int32) × (Nat → Int32) => (mS cs h q (upd (upd (upd F 17 u.1) 18 u.2.1) 22 u.2.2.1) (vA (vA A 15 u.2.2.2.1) 16 u.2.2.2.2) D B)))) (by decide) (by simp [lg_sl, Value.category]) ?_
  intro p e s m args below meth c ls A0 hx hb hml hr hlk hown hmn ht hK hP hD hS hA hl
  have hl : lv_has ls 2 [(0, .ref h), (1, .int a1)] := hl
  refine lv_aload_n hx hb dX11_quiet_0 rfl (lv_at hl 0 rfl) ?_
  refine behR (runVP (As := []) (rest := []) ⟨hx, hb, hml, hown, ht⟩ (sX11_isHouse l G cs h q F A D B hI  ) okV_RX11_83 ⟨by decide, by decide⟩ hK hP [0, 1, 2, 3, 4, 5, 6, 7, 8, 9, 10, 11, 12, 13, 14, 15, 16, 17, 18, 19] rfl 0 rfl rfl hl.1 rfl (Nat.le_of_ble_eq_true rfl) dX11_quiet_1 ⟨by decide, by decide⟩) hP hS hA (fun r1 H locs hr1 hP hS => ?_)
  have hr1 : (0 : Int) ≤ r1.toInt ∧ r1.toInt ≤ 1 := hr1
  refine lv_if_eq (tgt := 19) hx hb dX11_quiet_4 (by decide) (fun c2 => ?_) (fun c2 => ?_)
  · have zc2 := eqK rfl (show (0 : Int32).toInt = 0 by decide) c2
    refine lv_bipush (v := (-2)) hx hb dX11_quiet_19 (by decide) ?_
    exact retDi ((F 17), (F 18), (F 22), (A 15), (A 16)) hx hb hr hlk hP hD hS dX11_quiet_21 (trivial) (Nat.le_of_ble_eq_true rfl) (Nat.le_of_ble_eq_true rfl)
  · have zc2 := neK rfl (show (0 : Int32).toInt = 0 by decide) c2
    refine lv_iload_n hx hb dX11_quiet_7 rfl (lv_at hl 1 rfl) ?_
    refine lv_i2l hx hb dX11_quiet_8 rfl ?_
    refine lv_topl (fun v3 ev3 => ?_)
    have tv3 : v3.toInt = a1.toInt := by rw [ev3]; exact Int32.toInt_toInt64 _
    refine lv_lconst (v := 0) hx hb dX11_quiet_9 (by decide) ?_
    refine lv_ldc2 hx hb hown (ht _ kl_RX11_273) dX11_quiet_10 ?_
    refine behR (runSP (As := [.long v3, .long 0, .long 1000000]) (rest := []) ⟨hx, hb, hml, hown, ht⟩ (sX11_in l G cs v3 0 1000000 ) okS_RX11_79 ⟨by decide, by decide⟩ hK hP [] rfl hl.1 rfl (Nat.le_of_ble_eq_true rfl) dX11_quiet_13 ⟨by decide, by decide⟩) hP hS hA (fun r4 H locs hr4 hP hS => ?_)
    have hr4 : (r4.toInt = 1 ∧ 0 ≤ v3.toInt ∧ v3.toInt ≤ 1000000) ∨ (r4.toInt = 0 ∧ (v3.toInt < 0 ∨ 1000000 < v3.toInt)) := hr4
    refine lv_if_ne (tgt := 22) hx hb dX11_quiet_16 (by decide) (fun c5 => ?_) (fun c5 => ?_)
    · have zc5 := neK rfl (show (0 : Int32).toInt = 0 by decide) c5
      refine lv_aload_n hx hb dX11_quiet_22 rfl (lv_at hl 0 rfl) ?_
      refine lv_iload_n hx hb dX11_quiet_23 rfl (lv_at hl 1 rfl) ?_
      refine behDi (wr := []) (runVD (As := [.int a1]) (rest := []) ⟨hx, hb, hml, hown, ht⟩ (sX11_quietBy l G cs h q F A D B hI a1 ) okV_RX11_340 ⟨by decide, by decide⟩ hK hP hD [0, 1, 2, 3, 4, 5, 6, 7, 8, 9, 10, 11, 12, 13, 14, 15, 16, 17, 18, 19] rfl (by decide) rfl 0 rfl rfl hl.1 rfl (Nat.le_of_ble_eq_true rfl) dX11_quiet_24 ⟨(Nat.le_of_ble_eq_true rfl), (Nat.le_of_ble_eq_true rfl)⟩) hP hD hS hA [0, 1, 2, 3, 4, 5, 6, 7, 8, 9, 10, 11, 12, 13, 14, 15, 16, 17, 18, 19] [] rfl rfl (by decide) (by decide) (fun r9 u H locs hu hP hD hS => ?_)
      obtain ⟨x6, x7, x8, g9, g10⟩ := u
      obtain ⟨r11, rfl⟩ : ∃ z, z = r9 := ⟨_, rfl⟩
      have hr11 := hu
      have hP : va_P G vwCl (mS cs h q (upd (upd (upd F 17 x6) 18 x7) 22 x8) (vA (vA A 15 g9) 16 g10) D B) H := hP
      have hD : va_D A0 (mS cs h q (upd (upd (upd F 17 x6) 18 x7) 22 x8) (vA (vA A 15 g9) 16 g10) D B) := hD
      refine lv_iconst (v := (-1)) hx hb dX11_quiet_27 (by decide) ?_
      refine lv_icmp_ne (tgt := 35) hx hb dX11_quiet_28 (by decide) (fun c12 => ?_) (fun c12 => ?_)
      · have zc12 := neK rfl (show (-1 : Int32).toInt = (-1) by decide) c12
        refine lv_aload_n hx hb dX11_quiet_35 rfl (lv_at hl 0 rfl) ?_
        refine getF (v := .int x8) hx hb ht hown hK hP iTX11 0 22 rfl rfl (by decide) fl_RX11_334 rfl dX11_quiet_36 ?_
        exact retDi (x6, x7, x8, g9, g10) hx hb hr hlk hP hD hS dX11_quiet_39 (trivial) (Nat.le_of_ble_eq_true rfl) (Nat.le_of_ble_eq_true rfl)
      · have zc12 := eqK rfl (show (-1 : Int32).toInt = (-1) by decide) c12
        refine lv_iconst (v := (-1)) hx hb dX11_quiet_31 (by decide) ?_
        refine lv_goto (tgt := 39) hx hb dX11_quiet_32 (by decide) ?_
        exact retDi (x6, x7, x8, g9, g10) hx hb hr hlk hP hD hS dX11_quiet_39 (trivial) (Nat.le_of_ble_eq_true rfl) (Nat.le_of_ble_eq_true rfl)
    · have zc5 := eqK rfl (show (0 : Int32).toInt = 0 by decide) c5
      refine lv_bipush (v := (-2)) hx hb dX11_quiet_19 (by decide) ?_
      exact retDi ((F 17), (F 18), (F 22), (A 15), (A 16)) hx hb hr hlk hP hD hS dX11_quiet_21 (trivial) (Nat.le_of_ble_eq_true rfl) (Nat.le_of_ble_eq_true rfl)

set_option maxRecDepth 100000 in
set_option maxHeartbeats 8000000 in
theorem sX11_quietly (l : Launch) (G : va_G) (cs : Nat → ClassId) (h : Nat) (q : Nat → Nat) (F : Nat → Int32) (A : Nat → Nat → Int32) (D : Int64) (B : Nat → Nat → Int64) (hI : IM F A) (a1 : Int32) : ImpI l yX11_quietly cX11_quietly 2 (some .int) 6 0 0 G (TY cs) [.ref h, .int a1] (mS cs h q F A D B) (fun (r : Int32) (u : Int32 × Int32 × Int32 × (Nat → Int32) × (Nat → Int32)) => True) (fun u : Int32 × Int32 × Int32 × (Nat → Int32) × (Nat → Int32) => (mS cs h q (upd (upd (upd F 17 u.1) 18 u.2.1) 22 u.2.2.1) (vA (vA A 15 u.2.2.2.1) 16 u.2.2.2.2) D B)) := by
  refine mkD (Qc := (QDi G (fun (r : Int32) (u : Int32 × Int32 × Int32 × (Nat → Int32) × (Nat → Int32)) => True) (fun u : Int32 × Int32 × Int32 × (Nat → Int32) × (Nat → Int32) => (mS cs h q (upd (upd (upd F 17 u.1) 18 u.2.1) 22 u.2.2.1) (vA (vA A 15 u.2.2.2.1) 16 u.2.2.2.2) D B)))) (by decide) (by simp [lg_sl, Value.category]) ?_
  intro p e s m args below meth c ls A0 hx hb hml hr hlk hown hmn ht hK hP hD hS hA hl
  have hl : lv_has ls 2 [(0, .ref h), (1, .int a1)] := hl
  refine lv_aload_n hx hb dX11_quietly_0 rfl (lv_at hl 0 rfl) ?_
  refine behR (runVP (As := []) (rest := []) ⟨hx, hb, hml, hown, ht⟩ (sX11_isHouse l G cs h q F A D B hI  ) okV_RX11_83 ⟨by decide, by decide⟩ hK hP [0, 1, 2, 3, 4, 5, 6, 7, 8, 9, 10, 11, 12, 13, 14, 15, 16, 17, 18, 19] rfl 0 rfl rfl hl.1 rfl (Nat.le_of_ble_eq_true rfl) dX11_quietly_1 ⟨by decide, by decide⟩) hP hS hA (fun r1 H locs hr1 hP hS => ?_)
  have hr1 : (0 : Int) ≤ r1.toInt ∧ r1.toInt ≤ 1 := hr1
  refine lv_if_eq (tgt := 27) hx hb dX11_quietly_4 (by decide) (fun c2 => ?_) (fun c2 => ?_)
  · have zc2 := eqK rfl (show (0 : Int32).toInt = 0 by decide) c2
    refine lv_bipush (v := (-2)) hx hb dX11_quietly_27 (by decide) ?_
    exact retDi ((F 17), (F 18), (F 22), (A 15), (A 16)) hx hb hr hlk hP hD hS dX11_quietly_29 (trivial) (Nat.le_of_ble_eq_true rfl) (Nat.le_of_ble_eq_true rfl)
  · have zc2 := neK rfl (show (0 : Int32).toInt = 0 by decide) c2
    refine lv_iload_n hx hb dX11_quietly_7 rfl (lv_at hl 1 rfl) ?_
    refine lv_i2l hx hb dX11_quietly_8 rfl ?_
    refine lv_topl (fun v3 ev3 => ?_)
    have tv3 : v3.toInt = a1.toInt := by rw [ev3]; exact Int32.toInt_toInt64 _
    refine lv_lconst (v := 0) hx hb dX11_quietly_9 (by decide) ?_
    refine lv_ldc2 hx hb hown (ht _ kl_RX11_273) dX11_quietly_10 ?_
    refine behR (runSP (As := [.long v3, .long 0, .long 1000000]) (rest := []) ⟨hx, hb, hml, hown, ht⟩ (sX11_in l G cs v3 0 1000000 ) okS_RX11_79 ⟨by decide, by decide⟩ hK hP [] rfl hl.1 rfl (Nat.le_of_ble_eq_true rfl) dX11_quietly_13 ⟨by decide, by decide⟩) hP hS hA (fun r4 H locs hr4 hP hS => ?_)
    have hr4 : (r4.toInt = 1 ∧ 0 ≤ v3.toInt ∧ v3.toInt ≤ 1000000) ∨ (r4.toInt = 0 ∧ (v3.toInt < 0 ∨ 1000000 < v3.toInt)) := hr4
    refine lv_if_eq (tgt := 27) hx hb dX11_quietly_16 (by decide) (fun c5 => ?_) (fun c5 => ?_)
    · have zc5 := eqK rfl (show (0 : Int32).toInt = 0 by decide) c5
      refine lv_bipush (v := (-2)) hx hb dX11_quietly_27 (by decide) ?_
      exact retDi ((F 17), (F 18), (F 22), (A 15), (A 16)) hx hb hr hlk hP hD hS dX11_quietly_29 (trivial) (Nat.le_of_ble_eq_true rfl) (Nat.le_of_ble_eq_true rfl)
    · have zc5 := neK rfl (show (0 : Int32).toInt = 0 by decide) c5
      refine lv_aload_n hx hb dX11_quietly_19 rfl (lv_at hl 0 rfl) ?_
      refine lv_iload_n hx hb dX11_quietly_20 rfl (lv_at hl 1 rfl) ?_
      refine behDi (wr := []) (runVD (As := [.int a1]) (rest := []) ⟨hx, hb, hml, hown, ht⟩ (sX11_quietBy l G cs h q F A D B hI a1 ) okV_RX11_340 ⟨by decide, by decide⟩ hK hP hD [0, 1, 2, 3, 4, 5, 6, 7, 8, 9, 10, 11, 12, 13, 14, 15, 16, 17, 18, 19] rfl (by decide) rfl 0 rfl rfl hl.1 rfl (Nat.le_of_ble_eq_true rfl) dX11_quietly_21 ⟨(Nat.le_of_ble_eq_true rfl), (Nat.le_of_ble_eq_true rfl)⟩) hP hD hS hA [0, 1, 2, 3, 4, 5, 6, 7, 8, 9, 10, 11, 12, 13, 14, 15, 16, 17, 18, 19] [] rfl rfl (by decide) (by decide) (fun r9 u H locs hu hP hD hS => ?_)
      obtain ⟨x6, x7, x8, g9, g10⟩ := u
      obtain ⟨r11, rfl⟩ : ∃ z, z = r9 := ⟨_, rfl⟩
      have hr11 := hu
      have hP : va_P G vwCl (mS cs h q (upd (upd (upd F 17 x6) 18 x7) 22 x8) (vA (vA A 15 g9) 16 g10) D B) H := hP
      have hD : va_D A0 (mS cs h q (upd (upd (upd F 17 x6) 18 x7) 22 x8) (vA (vA A 15 g9) 16 g10) D B) := hD
      refine lv_goto (tgt := 29) hx hb dX11_quietly_24 (by decide) ?_
      exact retDi (x6, x7, x8, g9, g10) hx hb hr hlk hP hD hS dX11_quietly_29 (trivial) (Nat.le_of_ble_eq_true rfl) (Nat.le_of_ble_eq_true rfl)

set_option maxRecDepth 100000 in
set_option maxHeartbeats 8000000 in
theorem sX11_state (l : Launch) (G : va_G) (cs : Nat → ClassId) (a1 : Int32) (a2 : Int32) (a3 : Int32) : SafeR l yX11_state cX11_state 3 (some .int) 0 G (TY cs) [.int a1, .int a2, .int a3] [] (fun r : Int32 => True) := by
  refine mkP (Qc := QRi (fun r : Int32 => True)) (by decide) (by simp [lg_sl, Value.category]) ?_
  intro p e s m args below meth c ls hx hb hml hr hlk hown ht hK hP hS hl
  have hl : lv_has ls 3 [(0, .int a1), (1, .int a2), (2, .int a3)] := hl
  refine lv_bipush (v := 7) hx hb dX11_state_0 (by decide) ?_
  refine lv_iload_n hx hb dX11_state_2 rfl (lv_at hl 0 rfl) ?_
  refine lv_imul hx hb dX11_state_3 ?_
  refine lv_topi (fun v1 ev1 => ?_)
  refine lv_iload_n hx hb dX11_state_4 rfl (lv_at hl 1 rfl) ?_
  refine lv_iadd hx hb dX11_state_5 ?_
  refine lv_topi (fun v2 ev2 => ?_)
  refine lv_sipush (v := 128) hx hb dX11_state_6 (by decide) ?_
  refine lv_imul hx hb dX11_state_9 ?_
  refine lv_topi (fun v3 ev3 => ?_)
  refine lv_iload_n hx hb dX11_state_10 rfl (lv_at hl 2 rfl) ?_
  refine lv_iadd hx hb dX11_state_11 ?_
  refine lv_topi (fun v4 ev4 => ?_)
  exact retRi hx hb hr hlk hS dX11_state_12 (trivial)

set_option maxRecDepth 100000 in
set_option maxHeartbeats 8000000 in
theorem sX11_saying (l : Launch) (G : va_G) (cs : Nat → ClassId) (h : Nat) (q : Nat → Nat) (F : Nat → Int32) (A : Nat → Nat → Int32) (D : Int64) (B : Nat → Nat → Int64) (hI : IM F A) (a1 : Int32) (a2 : Int32) : SafeR l yX11_saying cX11_saying 5 (some .int) 1 G (TY cs) [.ref h, .int a1, .int a2] (mS cs h q F A D B) (fun r : Int32 => True) := by
  refine mkP (Qc := QRi (fun r : Int32 => True)) (by decide) (by simp [lg_sl, Value.category]) ?_
  intro p e s m args below meth c ls hx hb hml hr hlk hown ht hK hP hS hl
  have hl : lv_has ls 5 [(0, .ref h), (1, .int a1), (2, .int a2)] := hl
  refine lv_iconst (v := 0) hx hb dX11_saying_0 (by decide) ?_
  refine lv_istore_n (lv' := [(3, .int 0), (0, .ref h), (1, .int a1), (2, .int a2)]) hx hb dX11_saying_1 rfl hl (by decide) rfl (fun ls hl => ?_)
  refine lv_iconst (v := 0) hx hb dX11_saying_2 (by decide) ?_
  refine lv_istore (lv' := [(4, .int 0), (3, .int 0), (0, .ref h), (1, .int a1), (2, .int a2)]) hx hb dX11_saying_3 hl (by decide) rfl (fun ls hl => ?_)
  have B5 : ∀ (n : Nat) (x5_3 : Int32) (x5_4 : Int32) (H : Heap) (locs : List Loc) (ls : Array Slot), (6 - x5_4.toInt).toNat < n → (0 : Int) ≤ x5_3.toInt ∧ x5_3.toInt ≤ 255 → (0 : Int) ≤ x5_4.toInt ∧ x5_4.toInt ≤ 6 → va_P G vwCl (mS cs h q F A D B) H → va_S (fun q => s.heap.size ≤ q) s.heap H locs → lv_has ls 5 [(0, .ref h), (1, .int a1), (2, .int a2), (3, .int x5_3), (4, .int x5_4)] → W p l e (rmk 1 0 0) s m args below meth c H locs 0 0 (MQ below (QRi (fun r : Int32 => True) s.heap.size) args s 0 0 (fun q => s.heap.size ≤ q)) (F0 m 5 ls []) := by
    intro n
    induction n with
    | zero => intro x5_3 x5_4 H locs ls hmeas hx5_3 hx5_4 hP hS hl; exact absurd hmeas (Nat.not_lt_zero _)
    | succ n ih5 =>
      intro x5_3 x5_4 H locs ls hmeas hx5_3 hx5_4 hP hS hl
      refine lv_iload hx hb dX11_saying_5 (lv_at hl 4 rfl) ?_
      refine lv_aload_n hx hb dX11_saying_7 rfl (lv_at hl 0 rfl) ?_
      refine getF (v := .ref (q 1)) hx hb ht hown hK hP iTX11 0 1 rfl rfl (by decide) fl_RX11_9 rfl dX11_saying_8 ?_
      refine lv_iconst (v := 5) hx hb dX11_saying_11 (by decide) ?_
      refine va_iald hx hb hK.1 hP 1 0 rfl rfl (show ¬ (_ ∨ _) by decide) dX11_saying_12 ?_
      refine W.eq (g2 := F0 m 13 ls [.int (A 1 5), .int x5_4]) rfl ?_
      have zf5001 : (0 : Int) ≤ (A 1 5).toInt ∧ (A 1 5).toInt ≤ 6 := (hI.2 1 5)
      refine lv_icmp_ge (tgt := 58) hx hb dX11_saying_13 (by decide) (fun c5002 => ?_) (fun c5002 => ?_)
      · have zc5002 := leK rfl rfl c5002
        refine lv_iload_n hx hb dX11_saying_58 rfl (lv_at hl 3 rfl) ?_
        exact retRi hx hb hr hlk hS dX11_saying_59 (trivial)
      · have zc5002 := nleK rfl rfl c5002
        refine lv_iload_n hx hb dX11_saying_16 rfl (lv_at hl 3 rfl) ?_
        refine lv_iload_n hx hb dX11_saying_17 rfl (lv_at hl 1 rfl) ?_
        refine lv_iload hx hb dX11_saying_18 (lv_at hl 4 rfl) ?_
        refine behR (runSP (As := [.int a1, .int x5_4]) (rest := [.int x5_3]) ⟨hx, hb, hml, hown, ht⟩ (sX11_bit l G cs a1 x5_4 ) okS_RX11_258 ⟨by decide, by decide⟩ hK hP [] rfl hl.1 rfl (Nat.le_of_ble_eq_true rfl) dX11_saying_20 ⟨by decide, by decide⟩) hP hS (fun _ h => h) (fun r5003 H locs hr5003 hP hS => ?_)
        have hr5003 : (0 : Int) ≤ r5003.toInt ∧ r5003.toInt ≤ 1 := hr5003
        refine lv_iconst (v := 1) hx hb dX11_saying_23 (by decide) ?_
        have B50 : ∀ (x50_4 : Int32) (s50_0 : Int32) (s50_1 : Int32) (H : Heap) (locs : List Loc) (ls : Array Slot), (0 : Int) ≤ x50_4.toInt ∧ x50_4.toInt ≤ 5 → (0 : Int) ≤ s50_0.toInt ∧ s50_0.toInt ≤ 128 → (0 : Int) ≤ s50_1.toInt ∧ s50_1.toInt ≤ 255 → va_P G vwCl (mS cs h q F A D B) H → va_S (fun q => s.heap.size ≤ q) s.heap H locs → lv_has ls 5 [(0, .ref h), (1, .int a1), (2, .int a2), (4, .int x50_4)] → W p l e (rmk 1 0 0) s m args below meth c H locs 0 0 (MQ below (QRi (fun r : Int32 => True) s.heap.size) args s 0 0 (fun q => s.heap.size ≤ q)) (F0 m 50 ls [.int s50_0, .int s50_1]) := by
          intro x50_4 s50_0 s50_1 H locs ls hx50_4 hs50_0 hs50_1 hP hS hl
          refine lv_ior hx hb dX11_saying_50 ?_
          refine lv_topi (fun v30001 ev30001 => ?_)
          have tv30001 : 0 ≤ v30001.toInt ∧ v30001.toInt ≤ 255 := by rw [ev30001]; exact orA 8 rfl rfl (by omega) (by omega) (by decide)
          refine lv_istore_n (lv' := [(3, .int v30001), (0, .ref h), (1, .int a1), (2, .int a2), (4, .int x50_4)]) hx hb dX11_saying_51 rfl hl (by decide) rfl (fun ls hl => ?_)
          obtain ⟨v30002, ev30002⟩ : ∃ z : Int32, z = x50_4 + 1 := ⟨_, rfl⟩
          have tv30002 : v30002.toInt = x50_4.toInt + 1 := by rw [ev30002]; exact addT rfl (by decide) (by omega)
          refine lv_iinc (v := v30002) (lv' := [(4, .int v30002), (3, .int v30001), (0, .ref h), (1, .int a1), (2, .int a2)]) hx hb dX11_saying_52 hl (k := 4) rfl (by rw [ev30002]; rfl) (by decide) rfl (fun ls hl => ?_)
          refine lv_goto (tgt := 5) hx hb dX11_saying_55 (by decide) ?_
          exact ih5 v30001 v30002 H locs ls (by omega) (by omega) (by omega) hP hS (lv_sub hl [2, 3, 4, 1, 0] rfl)
        have B49 : ∀ (x49_4 : Int32) (s49_0 : Int32) (H : Heap) (locs : List Loc) (ls : Array Slot), (0 : Int) ≤ x49_4.toInt ∧ x49_4.toInt ≤ 5 → (0 : Int) ≤ s49_0.toInt ∧ s49_0.toInt ≤ 255 → va_P G vwCl (mS cs h q F A D B) H → va_S (fun q => s.heap.size ≤ q) s.heap H locs → lv_has ls 5 [(0, .ref h), (1, .int a1), (2, .int a2), (4, .int x49_4)] → W p l e (rmk 1 0 0) s m args below meth c H locs 0 0 (MQ below (QRi (fun r : Int32 => True) s.heap.size) args s 0 0 (fun q => s.heap.size ≤ q)) (F0 m 49 ls [.int s49_0]) := by
          intro x49_4 s49_0 H locs ls hx49_4 hs49_0 hP hS hl
          refine lv_iconst (v := 0) hx hb dX11_saying_49 (by decide) ?_
          exact B50 x49_4 0 s49_0 H locs ls (by omega) (by decide) (by omega) hP hS (lv_sub hl [0, 1, 2, 3] rfl)
        refine lv_icmp_ne (tgt := 49) hx hb dX11_saying_24 (by decide) (fun c5004 => ?_) (fun c5004 => ?_)
        · have zc5004 := neK rfl (show (1 : Int32).toInt = 1 by decide) c5004
          exact B49 x5_4 x5_3 H locs ls (by omega) (by omega) hP hS (lv_sub hl [0, 1, 2, 4] rfl)
        · have zc5004 := eqK rfl (show (1 : Int32).toInt = 1 by decide) c5004
          refine lv_aload_n hx hb dX11_saying_27 rfl (lv_at hl 0 rfl) ?_
          refine lv_iload hx hb dX11_saying_28 (lv_at hl 4 rfl) ?_
          refine lv_iconst (v := 1) hx hb dX11_saying_30 (by decide) ?_
          refine behR (runVP (As := [.int x5_4, .int 1]) (rest := [.int x5_3]) ⟨hx, hb, hml, hown, ht⟩ (sX11_ofMan l G cs h q F A D B hI x5_4 1 (by omega) (by decide)) okV_RX11_234 ⟨by decide, by decide⟩ hK hP [0, 1, 2, 3, 4, 5, 6, 7, 8, 9, 10, 11, 12, 13, 14, 15, 16, 17, 18, 19] rfl 0 rfl rfl hl.1 rfl (Nat.le_of_ble_eq_true rfl) dX11_saying_31 ⟨by decide, by decide⟩) hP hS (fun _ h => h) (fun r5005 H locs hr5005 hP hS => ?_)
          have hr5005 : (0 : Int) ≤ r5005.toInt ∧ r5005.toInt ≤ 99 ∧ (1 = 1 → r5005.toInt ≤ 63) ∧ (2 ≤ 1 → r5005.toInt ≤ 9) := hr5005
          refine lv_iload_n hx hb dX11_saying_34 rfl (lv_at hl 2 rfl) ?_
          refine behR (runSP (As := [.int r5005, .int a2]) (rest := [.int x5_3]) ⟨hx, hb, hml, hown, ht⟩ (sX11_bit l G cs r5005 a2 ) okS_RX11_258 ⟨by decide, by decide⟩ hK hP [] rfl hl.1 rfl (Nat.le_of_ble_eq_true rfl) dX11_saying_35 ⟨by decide, by decide⟩) hP hS (fun _ h => h) (fun r5006 H locs hr5006 hP hS => ?_)
          have hr5006 : (0 : Int) ≤ r5006.toInt ∧ r5006.toInt ≤ 1 := hr5006
          refine lv_iconst (v := 1) hx hb dX11_saying_38 (by decide) ?_
          refine lv_icmp_ne (tgt := 49) hx hb dX11_saying_39 (by decide) (fun c5007 => ?_) (fun c5007 => ?_)
          · have zc5007 := neK rfl (show (1 : Int32).toInt = 1 by decide) c5007
            exact B49 x5_4 x5_3 H locs ls (by omega) (by omega) hP hS (lv_sub hl [0, 1, 2, 4] rfl)
          · have zc5007 := eqK rfl (show (1 : Int32).toInt = 1 by decide) c5007
            refine lv_iconst (v := 1) hx hb dX11_saying_42 (by decide) ?_
            refine lv_iload hx hb dX11_saying_43 (lv_at hl 4 rfl) ?_
            refine lv_ishl hx hb dX11_saying_45 ?_
            refine lv_topi (fun v5008 ev5008 => ?_)
            have tv5008 : (1 : Int) ≤ v5008.toInt ∧ v5008.toInt ≤ 128 := by rw [ev5008]; exact shl1 rfl (by omega)
            refine lv_goto (tgt := 50) hx hb dX11_saying_46 (by decide) ?_
            exact B50 x5_4 v5008 x5_3 H locs ls (by omega) (by omega) (by omega) hP hS (lv_sub hl [0, 1, 2, 4] rfl)
  exact B5 _ 0 0 s.heap [] ls (Nat.lt_succ_self _) (by decide) (by decide) hP hS (lv_sub hl [2, 3, 4, 1, 0] rfl)

set_option maxRecDepth 100000 in
set_option maxHeartbeats 8000000 in
theorem sX11_yes (l : Launch) (G : va_G) (cs : Nat → ClassId) (h : Nat) (q : Nat → Nat) (F : Nat → Int32) (A : Nat → Nat → Int32) (D : Int64) (B : Nat → Nat → Int64) (hI : IM F A) (a1 : Int32) (a2 : Int32) : SafeR l yX11_yes cX11_yes 3 (some .int) 2 G (TY cs) [.ref h, .int a1, .int a2] (mS cs h q F A D B) (fun r : Int32 => True) := by
  refine mkP (Qc := QRi (fun r : Int32 => True)) (by decide) (by simp [lg_sl, Value.category]) ?_
  intro p e s m args below meth c ls hx hb hml hr hlk hown ht hK hP hS hl
  have hl : lv_has ls 3 [(0, .ref h), (1, .int a1), (2, .int a2)] := hl
  refine lv_aload_n hx hb dX11_yes_0 rfl (lv_at hl 0 rfl) ?_
  refine lv_iload_n hx hb dX11_yes_1 rfl (lv_at hl 1 rfl) ?_
  refine behR (runVP (As := [.int a1]) (rest := []) ⟨hx, hb, hml, hown, ht⟩ (sX11_areMen l G cs h q F A D B hI a1 ) okV_RX11_375 ⟨by decide, by decide⟩ hK hP [0, 1, 2, 3, 4, 5, 6, 7, 8, 9, 10, 11, 12, 13, 14, 15, 16, 17, 18, 19] rfl 0 rfl rfl hl.1 rfl (Nat.le_of_ble_eq_true rfl) dX11_yes_2 ⟨by decide, by decide⟩) hP hS (fun _ h => h) (fun r1 H locs hr1 hP hS => ?_)
  have hr1 : (0 : Int) ≤ r1.toInt ∧ r1.toInt ≤ 1 := hr1
  refine lv_if_eq (tgt := 29) hx hb dX11_yes_5 (by decide) (fun c2 => ?_) (fun c2 => ?_)
  · have zc2 := eqK rfl (show (0 : Int32).toInt = 0 by decide) c2
    refine lv_bipush (v := (-2)) hx hb dX11_yes_29 (by decide) ?_
    exact retRi hx hb hr hlk hS dX11_yes_31 (trivial)
  · have zc2 := neK rfl (show (0 : Int32).toInt = 0 by decide) c2
    refine lv_iload_n hx hb dX11_yes_8 rfl (lv_at hl 2 rfl) ?_
    refine lv_i2l hx hb dX11_yes_9 rfl ?_
    refine lv_topl (fun v3 ev3 => ?_)
    have tv3 : v3.toInt = a2.toInt := by rw [ev3]; exact Int32.toInt_toInt64 _
    refine lv_lconst (v := 0) hx hb dX11_yes_10 (by decide) ?_
    refine lv_ldc2 hx hb hown (ht _ kl_RX11_325) dX11_yes_11 ?_
    refine behR (runSP (As := [.long v3, .long 0, .long 5]) (rest := []) ⟨hx, hb, hml, hown, ht⟩ (sX11_in l G cs v3 0 5 ) okS_RX11_79 ⟨by decide, by decide⟩ hK hP [] rfl hl.1 rfl (Nat.le_of_ble_eq_true rfl) dX11_yes_14 ⟨by decide, by decide⟩) hP hS (fun _ h => h) (fun r4 H locs hr4 hP hS => ?_)
    have hr4 : (r4.toInt = 1 ∧ 0 ≤ v3.toInt ∧ v3.toInt ≤ 5) ∨ (r4.toInt = 0 ∧ (v3.toInt < 0 ∨ 5 < v3.toInt)) := hr4
    refine lv_if_eq (tgt := 29) hx hb dX11_yes_17 (by decide) (fun c5 => ?_) (fun c5 => ?_)
    · have zc5 := eqK rfl (show (0 : Int32).toInt = 0 by decide) c5
      refine lv_bipush (v := (-2)) hx hb dX11_yes_29 (by decide) ?_
      exact retRi hx hb hr hlk hS dX11_yes_31 (trivial)
    · have zc5 := neK rfl (show (0 : Int32).toInt = 0 by decide) c5
      refine lv_aload_n hx hb dX11_yes_20 rfl (lv_at hl 0 rfl) ?_
      refine lv_iload_n hx hb dX11_yes_21 rfl (lv_at hl 1 rfl) ?_
      refine lv_iload_n hx hb dX11_yes_22 rfl (lv_at hl 2 rfl) ?_
      refine behR (runVP (As := [.int a1, .int a2]) (rest := []) ⟨hx, hb, hml, hown, ht⟩ (sX11_saying l G cs h q F A D B hI a1 a2 ) okV_RX11_366 ⟨by decide, by decide⟩ hK hP [0, 1, 2, 3, 4, 5, 6, 7, 8, 9, 10, 11, 12, 13, 14, 15, 16, 17, 18, 19] rfl 0 rfl rfl hl.1 rfl (Nat.le_of_ble_eq_true rfl) dX11_yes_23 ⟨by decide, by decide⟩) hP hS (fun _ h => h) (fun r6 H locs hr6 hP hS => ?_)
      refine lv_goto (tgt := 31) hx hb dX11_yes_26 (by decide) ?_
      exact retRi hx hb hr hlk hS dX11_yes_31 (trivial)

set_option maxRecDepth 100000 in
set_option maxHeartbeats 8000000 in
theorem sX11_tellsApart (l : Launch) (G : va_G) (cs : Nat → ClassId) (h : Nat) (q : Nat → Nat) (F : Nat → Int32) (A : Nat → Nat → Int32) (D : Int64) (B : Nat → Nat → Int64) (hI : IM F A) (a1 : Int32) (a2 : Int32) : SafeR l yX11_tellsApart cX11_tellsApart 5 (some .boolean) 1 G (TY cs) [.ref h, .int a1, .int a2] (mS cs h q F A D B) (fun r : Int32 => (0 : Int) ≤ r.toInt ∧ r.toInt ≤ 1) := by
  refine mkP (Qc := QRi (fun r : Int32 => (0 : Int) ≤ r.toInt ∧ r.toInt ≤ 1)) (by decide) (by simp [lg_sl, Value.category]) ?_
  intro p e s m args below meth c ls hx hb hml hr hlk hown ht hK hP hS hl
  have hl : lv_has ls 5 [(0, .ref h), (1, .int a1), (2, .int a2)] := hl
  refine lv_iconst (v := 0) hx hb dX11_tellsApart_0 (by decide) ?_
  refine lv_istore_n (lv' := [(3, .int 0), (0, .ref h), (1, .int a1), (2, .int a2)]) hx hb dX11_tellsApart_1 rfl hl (by decide) rfl (fun ls hl => ?_)
  have B2 : ∀ (n : Nat) (x2_3 : Int32) (H : Heap) (locs : List Loc) (ls : Array Slot), (6 - x2_3.toInt).toNat < n → (0 : Int) ≤ x2_3.toInt ∧ x2_3.toInt ≤ 6 → va_P G vwCl (mS cs h q F A D B) H → va_S (fun q => s.heap.size ≤ q) s.heap H locs → lv_has ls 5 [(0, .ref h), (1, .int a1), (2, .int a2), (3, .int x2_3)] → W p l e (rmk 1 0 0) s m args below meth c H locs 0 0 (MQ below (QRi (fun r : Int32 => (0 : Int) ≤ r.toInt ∧ r.toInt ≤ 1) s.heap.size) args s 0 0 (fun q => s.heap.size ≤ q)) (F0 m 2 ls []) := by
    intro n
    induction n with
    | zero => intro x2_3 H locs ls hmeas hx2_3 hP hS hl; exact absurd hmeas (Nat.not_lt_zero _)
    | succ n ih2 =>
      intro x2_3 H locs ls hmeas hx2_3 hP hS hl
      refine lv_iload_n hx hb dX11_tellsApart_2 rfl (lv_at hl 3 rfl) ?_
      refine lv_aload_n hx hb dX11_tellsApart_3 rfl (lv_at hl 0 rfl) ?_
      refine getF (v := .ref (q 1)) hx hb ht hown hK hP iTX11 0 1 rfl rfl (by decide) fl_RX11_9 rfl dX11_tellsApart_4 ?_
      refine lv_iconst (v := 5) hx hb dX11_tellsApart_7 (by decide) ?_
      refine va_iald hx hb hK.1 hP 1 0 rfl rfl (show ¬ (_ ∨ _) by decide) dX11_tellsApart_8 ?_
      refine W.eq (g2 := F0 m 9 ls [.int (A 1 5), .int x2_3]) rfl ?_
      have zf3001 : (0 : Int) ≤ (A 1 5).toInt ∧ (A 1 5).toInt ≤ 6 := (hI.2 1 5)
      refine lv_icmp_ge (tgt := 73) hx hb dX11_tellsApart_9 (by decide) (fun c3002 => ?_) (fun c3002 => ?_)
      · have zc3002 := leK rfl rfl c3002
        refine lv_iconst (v := 1) hx hb dX11_tellsApart_73 (by decide) ?_
        exact retRz hx hb hr hlk hS dX11_tellsApart_74 (rfl) (show (0 : Int) ≤ (1 : Int32).toInt ∧ (1 : Int32).toInt ≤ 1 by have kk : (1 : Int32).toInt = 1 := (by decide); omega)
      · have zc3002 := nleK rfl rfl c3002
        refine lv_iconst (v := 0) hx hb dX11_tellsApart_12 (by decide) ?_
        refine lv_istore (lv' := [(4, .int 0), (0, .ref h), (1, .int a1), (2, .int a2), (3, .int x2_3)]) hx hb dX11_tellsApart_13 hl (by decide) rfl (fun ls hl => ?_)
        have B15 : ∀ (n : Nat) (x15_3 : Int32) (x15_4 : Int32) (H : Heap) (locs : List Loc) (ls : Array Slot), (5 - x15_4.toInt).toNat < n → (0 : Int) ≤ x15_3.toInt ∧ x15_3.toInt ≤ 5 → (0 : Int) ≤ x15_4.toInt ∧ x15_4.toInt ≤ 5 → va_P G vwCl (mS cs h q F A D B) H → va_S (fun q => s.heap.size ≤ q) s.heap H locs → lv_has ls 5 [(0, .ref h), (1, .int a1), (2, .int a2), (3, .int x15_3), (4, .int x15_4)] → W p l e (rmk 1 0 0) s m args below meth c H locs 0 0 (MQ below (QRi (fun r : Int32 => (0 : Int) ≤ r.toInt ∧ r.toInt ≤ 1) s.heap.size) args s 0 0 (fun q => s.heap.size ≤ q)) (F0 m 15 ls []) := by
          intro n
          induction n with
          | zero => intro x15_3 x15_4 H locs ls hmeas hx15_3 hx15_4 hP hS hl; exact absurd hmeas (Nat.not_lt_zero _)
          | succ n ih15 =>
            intro x15_3 x15_4 H locs ls hmeas hx15_3 hx15_4 hP hS hl
            refine lv_iload hx hb dX11_tellsApart_15 (lv_at hl 4 rfl) ?_
            refine lv_iload_n hx hb dX11_tellsApart_17 rfl (lv_at hl 3 rfl) ?_
            refine lv_icmp_ge (tgt := 67) hx hb dX11_tellsApart_18 (by decide) (fun c11001 => ?_) (fun c11001 => ?_)
            · have zc11001 := leK rfl rfl c11001
              obtain ⟨v11002, ev11002⟩ : ∃ z : Int32, z = x15_3 + 1 := ⟨_, rfl⟩
              have tv11002 : v11002.toInt = x15_3.toInt + 1 := by rw [ev11002]; exact addT rfl (by decide) (by omega)
              refine lv_iinc (v := v11002) (lv' := [(3, .int v11002), (0, .ref h), (1, .int a1), (2, .int a2), (4, .int x15_4)]) hx hb dX11_tellsApart_67 hl (k := 3) rfl (by rw [ev11002]; rfl) (by decide) rfl (fun ls hl => ?_)
              refine lv_goto (tgt := 2) hx hb dX11_tellsApart_70 (by decide) ?_
              exact ih2 v11002 H locs ls (by omega) (by omega) hP hS (lv_sub hl [1, 2, 3, 0] rfl)
            · have zc11001 := nleK rfl rfl c11001
              refine lv_iload_n hx hb dX11_tellsApart_21 rfl (lv_at hl 1 rfl) ?_
              refine lv_iload_n hx hb dX11_tellsApart_22 rfl (lv_at hl 3 rfl) ?_
              refine behR (runSP (As := [.int a1, .int x15_3]) (rest := []) ⟨hx, hb, hml, hown, ht⟩ (sX11_bit l G cs a1 x15_3 ) okS_RX11_258 ⟨by decide, by decide⟩ hK hP [] rfl hl.1 rfl (Nat.le_of_ble_eq_true rfl) dX11_tellsApart_23 ⟨by decide, by decide⟩) hP hS (fun _ h => h) (fun r11003 H locs hr11003 hP hS => ?_)
              have hr11003 : (0 : Int) ≤ r11003.toInt ∧ r11003.toInt ≤ 1 := hr11003
              refine lv_iconst (v := 1) hx hb dX11_tellsApart_26 (by decide) ?_
              have B61 : ∀ (x61_3 : Int32) (x61_4 : Int32) (H : Heap) (locs : List Loc) (ls : Array Slot), (1 : Int) ≤ x61_3.toInt ∧ x61_3.toInt ≤ 5 → (0 : Int) ≤ x61_4.toInt ∧ x61_4.toInt ≤ 4 → va_P G vwCl (mS cs h q F A D B) H → va_S (fun q => s.heap.size ≤ q) s.heap H locs → lv_has ls 5 [(0, .ref h), (1, .int a1), (2, .int a2), (3, .int x61_3), (4, .int x61_4)] → W p l e (rmk 1 0 0) s m args below meth c H locs 0 0 (MQ below (QRi (fun r : Int32 => (0 : Int) ≤ r.toInt ∧ r.toInt ≤ 1) s.heap.size) args s 0 0 (fun q => s.heap.size ≤ q)) (F0 m 61 ls []) := by
                intro x61_3 x61_4 H locs ls hx61_3 hx61_4 hP hS hl
                obtain ⟨v38001, ev38001⟩ : ∃ z : Int32, z = x61_4 + 1 := ⟨_, rfl⟩
                have tv38001 : v38001.toInt = x61_4.toInt + 1 := by rw [ev38001]; exact addT rfl (by decide) (by omega)
                refine lv_iinc (v := v38001) (lv' := [(4, .int v38001), (0, .ref h), (1, .int a1), (2, .int a2), (3, .int x61_3)]) hx hb dX11_tellsApart_61 hl (k := 4) rfl (by rw [ev38001]; rfl) (by decide) rfl (fun ls hl => ?_)
                refine lv_goto (tgt := 15) hx hb dX11_tellsApart_64 (by decide) ?_
                exact ih15 x61_3 v38001 H locs ls (by omega) (by omega) (by omega) hP hS (lv_sub hl [1, 2, 3, 4, 0] rfl)
              refine lv_icmp_ne (tgt := 61) hx hb dX11_tellsApart_27 (by decide) (fun c11004 => ?_) (fun c11004 => ?_)
              · have zc11004 := neK rfl (show (1 : Int32).toInt = 1 by decide) c11004
                exact B61 x15_3 x15_4 H locs ls (by omega) (by omega) hP hS (lv_sub hl [0, 1, 2, 3, 4] rfl)
              · have zc11004 := eqK rfl (show (1 : Int32).toInt = 1 by decide) c11004
                refine lv_iload_n hx hb dX11_tellsApart_30 rfl (lv_at hl 1 rfl) ?_
                refine lv_iload hx hb dX11_tellsApart_31 (lv_at hl 4 rfl) ?_
                refine behR (runSP (As := [.int a1, .int x15_4]) (rest := []) ⟨hx, hb, hml, hown, ht⟩ (sX11_bit l G cs a1 x15_4 ) okS_RX11_258 ⟨by decide, by decide⟩ hK hP [] rfl hl.1 rfl (Nat.le_of_ble_eq_true rfl) dX11_tellsApart_33 ⟨by decide, by decide⟩) hP hS (fun _ h => h) (fun r11005 H locs hr11005 hP hS => ?_)
                have hr11005 : (0 : Int) ≤ r11005.toInt ∧ r11005.toInt ≤ 1 := hr11005
                refine lv_iconst (v := 1) hx hb dX11_tellsApart_36 (by decide) ?_
                refine lv_icmp_ne (tgt := 61) hx hb dX11_tellsApart_37 (by decide) (fun c11006 => ?_) (fun c11006 => ?_)
                · have zc11006 := neK rfl (show (1 : Int32).toInt = 1 by decide) c11006
                  exact B61 x15_3 x15_4 H locs ls (by omega) (by omega) hP hS (lv_sub hl [0, 1, 2, 3, 4] rfl)
                · have zc11006 := eqK rfl (show (1 : Int32).toInt = 1 by decide) c11006
                  refine lv_aload_n hx hb dX11_tellsApart_40 rfl (lv_at hl 0 rfl) ?_
                  refine lv_iload_n hx hb dX11_tellsApart_41 rfl (lv_at hl 3 rfl) ?_
                  refine lv_iconst (v := 1) hx hb dX11_tellsApart_42 (by decide) ?_
                  refine behR (runVP (As := [.int x15_3, .int 1]) (rest := []) ⟨hx, hb, hml, hown, ht⟩ (sX11_ofMan l G cs h q F A D B hI x15_3 1 (by omega) (by decide)) okV_RX11_234 ⟨by decide, by decide⟩ hK hP [0, 1, 2, 3, 4, 5, 6, 7, 8, 9, 10, 11, 12, 13, 14, 15, 16, 17, 18, 19] rfl 0 rfl rfl hl.1 rfl (Nat.le_of_ble_eq_true rfl) dX11_tellsApart_43 ⟨by decide, by decide⟩) hP hS (fun _ h => h) (fun r11007 H locs hr11007 hP hS => ?_)
                  have hr11007 : (0 : Int) ≤ r11007.toInt ∧ r11007.toInt ≤ 99 ∧ (1 = 1 → r11007.toInt ≤ 63) ∧ (2 ≤ 1 → r11007.toInt ≤ 9) := hr11007
                  refine lv_aload_n hx hb dX11_tellsApart_46 rfl (lv_at hl 0 rfl) ?_
                  refine lv_iload hx hb dX11_tellsApart_47 (lv_at hl 4 rfl) ?_
                  refine lv_iconst (v := 1) hx hb dX11_tellsApart_49 (by decide) ?_
                  refine behR (runVP (As := [.int x15_4, .int 1]) (rest := [.int r11007]) ⟨hx, hb, hml, hown, ht⟩ (sX11_ofMan l G cs h q F A D B hI x15_4 1 (by omega) (by decide)) okV_RX11_234 ⟨by decide, by decide⟩ hK hP [0, 1, 2, 3, 4, 5, 6, 7, 8, 9, 10, 11, 12, 13, 14, 15, 16, 17, 18, 19] rfl 0 rfl rfl hl.1 rfl (Nat.le_of_ble_eq_true rfl) dX11_tellsApart_50 ⟨by decide, by decide⟩) hP hS (fun _ h => h) (fun r11008 H locs hr11008 hP hS => ?_)
                  have hr11008 : (0 : Int) ≤ r11008.toInt ∧ r11008.toInt ≤ 99 ∧ (1 = 1 → r11008.toInt ≤ 63) ∧ (2 ≤ 1 → r11008.toInt ≤ 9) := hr11008
                  refine lv_ixor hx hb dX11_tellsApart_53 ?_
                  refine lv_topi (fun v11009 ev11009 => ?_)
                  have tv11009 : 0 ≤ v11009.toInt ∧ v11009.toInt ≤ 63 := by rw [ev11009]; exact xorA 6 rfl rfl (by omega) (by omega) (by decide)
                  refine lv_iload_n hx hb dX11_tellsApart_54 rfl (lv_at hl 2 rfl) ?_
                  refine lv_iand hx hb dX11_tellsApart_55 ?_
                  refine lv_topi (fun v11010 ev11010 => ?_)
                  have tv11010 : 0 ≤ v11010.toInt ∧ v11010.toInt ≤ 63 := by rw [ev11010]; exact andA 6 rfl (by omega) (by decide)
                  refine lv_if_ne (tgt := 61) hx hb dX11_tellsApart_56 (by decide) (fun c11011 => ?_) (fun c11011 => ?_)
                  · have zc11011 := neK rfl (show (0 : Int32).toInt = 0 by decide) c11011
                    exact B61 x15_3 x15_4 H locs ls (by omega) (by omega) hP hS (lv_sub hl [0, 1, 2, 3, 4] rfl)
                  · have zc11011 := eqK rfl (show (0 : Int32).toInt = 0 by decide) c11011
                    refine lv_iconst (v := 0) hx hb dX11_tellsApart_59 (by decide) ?_
                    exact retRz hx hb hr hlk hS dX11_tellsApart_60 (rfl) (show (0 : Int) ≤ (0 : Int32).toInt ∧ (0 : Int32).toInt ≤ 1 by have kk : (0 : Int32).toInt = 0 := (by decide); omega)
        exact B15 _ x2_3 0 H locs ls (Nat.lt_succ_self _) (by omega) (by decide) hP hS (lv_sub hl [1, 2, 3, 4, 0] rfl)
  exact B2 _ 0 s.heap [] ls (Nat.lt_succ_self _) (by decide) hP hS (lv_sub hl [1, 2, 3, 0] rfl)

set_option maxRecDepth 100000 in
set_option maxHeartbeats 8000000 in
theorem sX11_list (l : Launch) (G : va_G) (cs : Nat → ClassId) (h : Nat) (q : Nat → Nat) (F : Nat → Int32) (A : Nat → Nat → Int32) (D : Int64) (B : Nat → Nat → Int64) (hI : IM F A) (a1 : Int32) : SafeR l yX11_list cX11_list 4 (some .int) 2 G (TY cs) [.ref h, .int a1] (mS cs h q F A D B) (fun r : Int32 => True) := by
  refine mkP (Qc := QRi (fun r : Int32 => True)) (by decide) (by simp [lg_sl, Value.category]) ?_
  intro p e s m args below meth c ls hx hb hml hr hlk hown ht hK hP hS hl
  have hl : lv_has ls 4 [(0, .ref h), (1, .int a1)] := hl
  refine lv_aload_n hx hb dX11_list_0 rfl (lv_at hl 0 rfl) ?_
  refine lv_iload_n hx hb dX11_list_1 rfl (lv_at hl 1 rfl) ?_
  refine behR (runVP (As := [.int a1]) (rest := []) ⟨hx, hb, hml, hown, ht⟩ (sX11_areMen l G cs h q F A D B hI a1 ) okV_RX11_375 ⟨by decide, by decide⟩ hK hP [0, 1, 2, 3, 4, 5, 6, 7, 8, 9, 10, 11, 12, 13, 14, 15, 16, 17, 18, 19] rfl 0 rfl rfl hl.1 rfl (Nat.le_of_ble_eq_true rfl) dX11_list_2 ⟨by decide, by decide⟩) hP hS (fun _ h => h) (fun r1 H locs hr1 hP hS => ?_)
  have hr1 : (0 : Int) ≤ r1.toInt ∧ r1.toInt ≤ 1 := hr1
  refine lv_if_ne (tgt := 11) hx hb dX11_list_5 (by decide) (fun c2 => ?_) (fun c2 => ?_)
  · have zc2 := neK rfl (show (0 : Int32).toInt = 0 by decide) c2
    refine lv_iconst (v := (-1)) hx hb dX11_list_11 (by decide) ?_
    refine lv_istore_n (lv' := [(2, .int (-1)), (0, .ref h), (1, .int a1)]) hx hb dX11_list_12 rfl hl (by decide) rfl (fun ls hl => ?_)
    refine lv_iconst (v := 0) hx hb dX11_list_13 (by decide) ?_
    refine lv_istore_n (lv' := [(3, .int 0), (2, .int (-1)), (0, .ref h), (1, .int a1)]) hx hb dX11_list_14 rfl hl (by decide) rfl (fun ls hl => ?_)
    have B15 : ∀ (n : Nat) (x15_2 : Int32) (x15_3 : Int32) (H : Heap) (locs : List Loc) (ls : Array Slot), (64 - x15_3.toInt).toNat < n → (-1 : Int) ≤ x15_2.toInt ∧ x15_2.toInt ≤ 63 → (0 : Int) ≤ x15_3.toInt ∧ x15_3.toInt ≤ 64 → va_P G vwCl (mS cs h q F A D B) H → va_S (fun q => s.heap.size ≤ q) s.heap H locs → lv_has ls 4 [(0, .ref h), (1, .int a1), (2, .int x15_2), (3, .int x15_3)] → W p l e (rmk 2 0 0) s m args below meth c H locs 0 0 (MQ below (QRi (fun r : Int32 => True) s.heap.size) args s 0 0 (fun q => s.heap.size ≤ q)) (F0 m 15 ls []) := by
      intro n
      induction n with
      | zero => intro x15_2 x15_3 H locs ls hmeas hx15_2 hx15_3 hP hS hl; exact absurd hmeas (Nat.not_lt_zero _)
      | succ n ih15 =>
        intro x15_2 x15_3 H locs ls hmeas hx15_2 hx15_3 hP hS hl
        refine lv_iload_n hx hb dX11_list_15 rfl (lv_at hl 3 rfl) ?_
        refine lv_bipush (v := 64) hx hb dX11_list_16 (by decide) ?_
        refine lv_icmp_ge (tgt := 58) hx hb dX11_list_18 (by decide) (fun c11001 => ?_) (fun c11001 => ?_)
        · have zc11001 := leK (show (64 : Int32).toInt = 64 by decide) rfl c11001
          refine lv_iload_n hx hb dX11_list_58 rfl (lv_at hl 2 rfl) ?_
          exact retRi hx hb hr hlk hS dX11_list_59 (trivial)
        · have zc11001 := nleK (show (64 : Int32).toInt = 64 by decide) rfl c11001
          refine lv_iload_n hx hb dX11_list_21 rfl (lv_at hl 2 rfl) ?_
          refine lv_iconst (v := (-1)) hx hb dX11_list_22 (by decide) ?_
          have B51 : ∀ (x51_3 : Int32) (s51_0 : Int32) (H : Heap) (locs : List Loc) (ls : Array Slot), (0 : Int) ≤ x51_3.toInt ∧ x51_3.toInt ≤ 63 → (-1 : Int) ≤ s51_0.toInt ∧ s51_0.toInt ≤ 63 → va_P G vwCl (mS cs h q F A D B) H → va_S (fun q => s.heap.size ≤ q) s.heap H locs → lv_has ls 4 [(0, .ref h), (1, .int a1), (3, .int x51_3)] → W p l e (rmk 2 0 0) s m args below meth c H locs 0 0 (MQ below (QRi (fun r : Int32 => True) s.heap.size) args s 0 0 (fun q => s.heap.size ≤ q)) (F0 m 51 ls [.int s51_0]) := by
            intro x51_3 s51_0 H locs ls hx51_3 hs51_0 hP hS hl
            refine lv_istore_n (lv' := [(2, .int s51_0), (0, .ref h), (1, .int a1), (3, .int x51_3)]) hx hb dX11_list_51 rfl hl (by decide) rfl (fun ls hl => ?_)
            obtain ⟨v30001, ev30001⟩ : ∃ z : Int32, z = x51_3 + 1 := ⟨_, rfl⟩
            have tv30001 : v30001.toInt = x51_3.toInt + 1 := by rw [ev30001]; exact addT rfl (by decide) (by omega)
            refine lv_iinc (v := v30001) (lv' := [(3, .int v30001), (2, .int s51_0), (0, .ref h), (1, .int a1)]) hx hb dX11_list_52 hl (k := 3) rfl (by rw [ev30001]; rfl) (by decide) rfl (fun ls hl => ?_)
            refine lv_goto (tgt := 15) hx hb dX11_list_55 (by decide) ?_
            exact ih15 s51_0 v30001 H locs ls (by omega) (by omega) (by omega) hP hS (lv_sub hl [2, 3, 1, 0] rfl)
          have B50 : ∀ (x50_2 : Int32) (x50_3 : Int32) (H : Heap) (locs : List Loc) (ls : Array Slot), (-1 : Int) ≤ x50_2.toInt ∧ x50_2.toInt ≤ 63 → (0 : Int) ≤ x50_3.toInt ∧ x50_3.toInt ≤ 63 → va_P G vwCl (mS cs h q F A D B) H → va_S (fun q => s.heap.size ≤ q) s.heap H locs → lv_has ls 4 [(0, .ref h), (1, .int a1), (2, .int x50_2), (3, .int x50_3)] → W p l e (rmk 2 0 0) s m args below meth c H locs 0 0 (MQ below (QRi (fun r : Int32 => True) s.heap.size) args s 0 0 (fun q => s.heap.size ≤ q)) (F0 m 50 ls []) := by
            intro x50_2 x50_3 H locs ls hx50_2 hx50_3 hP hS hl
            refine lv_iload_n hx hb dX11_list_50 rfl (lv_at hl 2 rfl) ?_
            exact B51 x50_3 x50_2 H locs ls (by omega) (by omega) hP hS (lv_sub hl [0, 1, 3] rfl)
          have B37 : ∀ (x37_2 : Int32) (x37_3 : Int32) (H : Heap) (locs : List Loc) (ls : Array Slot), (-1 : Int) ≤ x37_2.toInt ∧ x37_2.toInt ≤ 63 → (0 : Int) ≤ x37_3.toInt ∧ x37_3.toInt ≤ 63 → va_P G vwCl (mS cs h q F A D B) H → va_S (fun q => s.heap.size ≤ q) s.heap H locs → lv_has ls 4 [(0, .ref h), (1, .int a1), (2, .int x37_2), (3, .int x37_3)] → W p l e (rmk 2 0 0) s m args below meth c H locs 0 0 (MQ below (QRi (fun r : Int32 => True) s.heap.size) args s 0 0 (fun q => s.heap.size ≤ q)) (F0 m 37 ls []) := by
            intro x37_2 x37_3 H locs ls hx37_2 hx37_3 hP hS hl
            refine lv_aload_n hx hb dX11_list_37 rfl (lv_at hl 0 rfl) ?_
            refine lv_iload_n hx hb dX11_list_38 rfl (lv_at hl 1 rfl) ?_
            refine lv_iload_n hx hb dX11_list_39 rfl (lv_at hl 3 rfl) ?_
            refine behR (runVP (As := [.int a1, .int x37_3]) (rest := []) ⟨hx, hb, hml, hown, ht⟩ (sX11_tellsApart l G cs h q F A D B hI a1 x37_3 ) okV_RX11_381 ⟨by decide, by decide⟩ hK hP [0, 1, 2, 3, 4, 5, 6, 7, 8, 9, 10, 11, 12, 13, 14, 15, 16, 17, 18, 19] rfl 0 rfl rfl hl.1 rfl (Nat.le_of_ble_eq_true rfl) dX11_list_40 ⟨by decide, by decide⟩) hP hS (fun _ h => h) (fun r22001 H locs hr22001 hP hS => ?_)
            have hr22001 : (0 : Int) ≤ r22001.toInt ∧ r22001.toInt ≤ 1 := hr22001
            refine lv_if_eq (tgt := 50) hx hb dX11_list_43 (by decide) (fun c22002 => ?_) (fun c22002 => ?_)
            · have zc22002 := eqK rfl (show (0 : Int32).toInt = 0 by decide) c22002
              exact B50 x37_2 x37_3 H locs ls (by omega) (by omega) hP hS (lv_sub hl [0, 1, 2, 3] rfl)
            · have zc22002 := neK rfl (show (0 : Int32).toInt = 0 by decide) c22002
              refine lv_iload_n hx hb dX11_list_46 rfl (lv_at hl 3 rfl) ?_
              refine lv_goto (tgt := 51) hx hb dX11_list_47 (by decide) ?_
              exact B51 x37_3 x37_3 H locs ls (by omega) (by omega) hP hS (lv_sub hl [0, 1, 3] rfl)
          refine lv_icmp_eq (tgt := 37) hx hb dX11_list_23 (by decide) (fun c11002 => ?_) (fun c11002 => ?_)
          · have zc11002 := eqK rfl (show (-1 : Int32).toInt = (-1) by decide) c11002
            exact B37 x15_2 x15_3 H locs ls (by omega) (by omega) hP hS (lv_sub hl [0, 1, 2, 3] rfl)
          · have zc11002 := neK rfl (show (-1 : Int32).toInt = (-1) by decide) c11002
            refine lv_iload_n hx hb dX11_list_26 rfl (lv_at hl 3 rfl) ?_
            refine behR (runSP (As := [.int x15_3]) (rest := []) ⟨hx, hb, hml, hown, ht⟩ (sX11_bits l G cs x15_3 ) okS_RX11_255 ⟨by decide, by decide⟩ hK hP [] rfl hl.1 rfl (Nat.le_of_ble_eq_true rfl) dX11_list_27 ⟨by decide, by decide⟩) hP hS (fun _ h => h) (fun r11003 H locs hr11003 hP hS => ?_)
            refine lv_iload_n hx hb dX11_list_30 rfl (lv_at hl 2 rfl) ?_
            refine behR (runSP (As := [.int x15_2]) (rest := [.int r11003]) ⟨hx, hb, hml, hown, ht⟩ (sX11_bits l G cs x15_2 ) okS_RX11_255 ⟨by decide, by decide⟩ hK hP [] rfl hl.1 rfl (Nat.le_of_ble_eq_true rfl) dX11_list_31 ⟨by decide, by decide⟩) hP hS (fun _ h => h) (fun r11004 H locs hr11004 hP hS => ?_)
            refine lv_icmp_ge (tgt := 50) hx hb dX11_list_34 (by decide) (fun c11005 => ?_) (fun c11005 => ?_)
            · have zc11005 := leK rfl rfl c11005
              exact B50 x15_2 x15_3 H locs ls (by omega) (by omega) hP hS (lv_sub hl [0, 1, 2, 3] rfl)
            · have zc11005 := nleK rfl rfl c11005
              exact B37 x15_2 x15_3 H locs ls (by omega) (by omega) hP hS (lv_sub hl [0, 1, 2, 3] rfl)
    exact B15 _ (-1) 0 H locs ls (Nat.lt_succ_self _) (by decide) (by decide) hP hS (lv_sub hl [2, 3, 1, 0] rfl)
  · have zc2 := eqK rfl (show (0 : Int32).toInt = 0 by decide) c2
    refine lv_bipush (v := (-2)) hx hb dX11_list_8 (by decide) ?_
    exact retRi hx hb hr hlk hS dX11_list_10 (trivial)

set_option maxRecDepth 100000 in
set_option maxHeartbeats 8000000 in
theorem sX11_count (l : Launch) (G : va_G) (cs : Nat → ClassId) (h : Nat) (q : Nat → Nat) (F : Nat → Int32) (A : Nat → Nat → Int32) (D : Int64) (B : Nat → Nat → Int64) (hI : IM F A) (a1 : Int32) : SafeR l yX11_count cX11_count 4 (some .int) 1 G (TY cs) [.ref h, .int a1] (mS cs h q F A D B) (fun r : Int32 => True) := by
  refine mkP (Qc := QRi (fun r : Int32 => True)) (by decide) (by simp [lg_sl, Value.category]) ?_
  intro p e s m args below meth c ls hx hb hml hr hlk hown ht hK hP hS hl
  have hl : lv_has ls 4 [(0, .ref h), (1, .int a1)] := hl
  refine lv_iconst (v := 0) hx hb dX11_count_0 (by decide) ?_
  refine lv_istore_n (lv' := [(2, .int 0), (0, .ref h), (1, .int a1)]) hx hb dX11_count_1 rfl hl (by decide) rfl (fun ls hl => ?_)
  refine lv_iload_n hx hb dX11_count_2 rfl (lv_at hl 2 rfl) ?_
  rcases csN8 a1 with hN | hN | rfl | rfl | rfl | rfl | rfl | rfl | rfl | rfl
  · refine lv_tableOut (tgt := 179) hx hb dX11_count_3 (by left; omega) (by decide) ?_
    refine lv_iconst (v := (-1)) hx hb dX11_count_179 (by decide) ?_
    exact retRi hx hb hr hlk hS dX11_count_180 (trivial)
  · refine lv_tableOut (tgt := 179) hx hb dX11_count_3 (by right; omega) (by decide) ?_
    refine lv_iconst (v := (-1)) hx hb dX11_count_179 (by decide) ?_
    exact retRi hx hb hr hlk hS dX11_count_180 (trivial)
  · refine lv_tableIn (off := 45) (tgt := 48) hx hb dX11_count_3 (by decide) (by decide) (by decide) (by decide) ?_
    refine lv_aload_n hx hb dX11_count_48 rfl (lv_at hl 1 rfl) ?_
    refine getF (v := .ref (q 1)) hx hb ht hown hK hP iTX11 0 1 rfl rfl (by decide) fl_RX11_9 rfl dX11_count_49 ?_
    refine lv_iconst (v := 4) hx hb dX11_count_52 (by decide) ?_
    refine va_iald hx hb hK.1 hP 1 0 rfl rfl (show ¬ (_ ∨ _) by decide) dX11_count_53 ?_
    refine W.eq (g2 := F0 m 54 ls [.int (A 1 4)]) rfl ?_
    have zf1 : (0 : Int) ≤ (A 1 4).toInt ∧ (A 1 4).toInt ≤ 7 := (hI.2 1 4)
    exact retRi hx hb hr hlk hS dX11_count_54 (trivial)
  · refine lv_tableIn (off := 52) (tgt := 55) hx hb dX11_count_3 (by decide) (by decide) (by decide) (by decide) ?_
    refine lv_iconst (v := 0) hx hb dX11_count_55 (by decide) ?_
    refine lv_istore_n (lv' := [(3, .int 0), (2, .int 0), (0, .ref h), (1, .int 1)]) hx hb dX11_count_56 rfl hl (by decide) rfl (fun ls hl => ?_)
    have B57 : ∀ (n : Nat) (x57_2 : Int32) (x57_3 : Int32) (H : Heap) (locs : List Loc) (ls : Array Slot), (7 - x57_3.toInt).toNat < n → (0 : Int) ≤ x57_3.toInt ∧ x57_3.toInt ≤ 7 → va_P G vwCl (mS cs h q F A D B) H → va_S (fun q => s.heap.size ≤ q) s.heap H locs → lv_has ls 4 [(0, .ref h), (1, .int 1), (2, .int x57_2), (3, .int x57_3)] → W p l e (rmk 1 0 0) s m args below meth c H locs 0 0 (MQ below (QRi (fun r : Int32 => True) s.heap.size) args s 0 0 (fun q => s.heap.size ≤ q)) (F0 m 57 ls []) := by
      intro n
      induction n with
      | zero => intro x57_2 x57_3 H locs ls hmeas hx57_3 hP hS hl; exact absurd hmeas (Nat.not_lt_zero _)
      | succ n ih57 =>
        intro x57_2 x57_3 H locs ls hmeas hx57_3 hP hS hl
        refine lv_iload_n hx hb dX11_count_57 rfl (lv_at hl 3 rfl) ?_
        refine lv_aload_n hx hb dX11_count_58 rfl (lv_at hl 0 rfl) ?_
        refine getF (v := .ref (q 1)) hx hb ht hown hK hP iTX11 0 1 rfl rfl (by decide) fl_RX11_9 rfl dX11_count_59 ?_
        refine lv_iconst (v := 4) hx hb dX11_count_62 (by decide) ?_
        refine va_iald hx hb hK.1 hP 1 0 rfl rfl (show ¬ (_ ∨ _) by decide) dX11_count_63 ?_
        refine W.eq (g2 := F0 m 64 ls [.int (A 1 4), .int x57_3]) rfl ?_
        have zf67001 : (0 : Int) ≤ (A 1 4).toInt ∧ (A 1 4).toInt ≤ 7 := (hI.2 1 4)
        refine lv_icmp_ge (tgt := 85) hx hb dX11_count_64 (by decide) (fun c67002 => ?_) (fun c67002 => ?_)
        · have zc67002 := leK rfl rfl c67002
          refine lv_iload_n hx hb dX11_count_85 rfl (lv_at hl 2 rfl) ?_
          refine lv_iconst (v := 2) hx hb dX11_count_86 (by decide) ?_
          refine lv_idiv hx hb dX11_count_87 (by decide) ?_
          refine lv_topi (fun v67003 ev67003 => ?_)
          exact retRi hx hb hr hlk hS dX11_count_88 (trivial)
        · have zc67002 := nleK rfl rfl c67002
          refine lv_iload_n hx hb dX11_count_67 rfl (lv_at hl 2 rfl) ?_
          refine lv_aload_n hx hb dX11_count_68 rfl (lv_at hl 0 rfl) ?_
          refine lv_iload_n hx hb dX11_count_69 rfl (lv_at hl 3 rfl) ?_
          refine lv_iconst (v := 3) hx hb dX11_count_70 (by decide) ?_
          refine behR (runVP (As := [.int x57_3, .int 3]) (rest := [.int x57_2]) ⟨hx, hb, hml, hown, ht⟩ (sX11_of l G cs h q F A D B hI x57_3 3 (by omega) (by decide)) okV_RX11_227 ⟨by decide, by decide⟩ hK hP [0, 1, 2, 3, 4, 5, 6, 7, 8, 9, 10, 11, 12, 13, 14, 15, 16, 17, 18, 19] rfl 0 rfl rfl hl.1 rfl (Nat.le_of_ble_eq_true rfl) dX11_count_71 ⟨by decide, by decide⟩) hP hS (fun _ h => h) (fun r67004 H locs hr67004 hP hS => ?_)
          have hr67004 : (0 : Int) ≤ r67004.toInt ∧ r67004.toInt ≤ 999 ∧ (3 = 3 → r67004.toInt ≤ 127) ∧ (3 = 2 → r67004.toInt ≤ 99) := hr67004
          refine behR (runSP (As := [.int r67004]) (rest := [.int x57_2]) ⟨hx, hb, hml, hown, ht⟩ (sX11_bits l G cs r67004 ) okS_RX11_255 ⟨by decide, by decide⟩ hK hP [] rfl hl.1 rfl (Nat.le_of_ble_eq_true rfl) dX11_count_74 ⟨by decide, by decide⟩) hP hS (fun _ h => h) (fun r67005 H locs hr67005 hP hS => ?_)
          refine lv_iadd hx hb dX11_count_77 ?_
          refine lv_topi (fun v67006 ev67006 => ?_)
          refine lv_istore_n (lv' := [(2, .int v67006), (0, .ref h), (1, .int 1), (3, .int x57_3)]) hx hb dX11_count_78 rfl hl (by decide) rfl (fun ls hl => ?_)
          obtain ⟨v67007, ev67007⟩ : ∃ z : Int32, z = x57_3 + 1 := ⟨_, rfl⟩
          have tv67007 : v67007.toInt = x57_3.toInt + 1 := by rw [ev67007]; exact addT rfl (by decide) (by omega)
          refine lv_iinc (v := v67007) (lv' := [(3, .int v67007), (2, .int v67006), (0, .ref h), (1, .int 1)]) hx hb dX11_count_79 hl (k := 3) rfl (by rw [ev67007]; rfl) (by decide) rfl (fun ls hl => ?_)
          refine lv_goto (tgt := 57) hx hb dX11_count_82 (by decide) ?_
          exact ih57 v67006 v67007 H locs ls (by omega) (by omega) hP hS (lv_sub hl [2, 3, 1, 0] rfl)
    exact B57 _ 0 0 s.heap [] ls (Nat.lt_succ_self _) (by decide) hP hS (lv_sub hl [2, 3, 1, 0] rfl)
  · refine lv_tableIn (off := 86) (tgt := 89) hx hb dX11_count_3 (by decide) (by decide) (by decide) (by decide) ?_
    refine lv_aload_n hx hb dX11_count_89 rfl (lv_at hl 1 rfl) ?_
    refine getF (v := .ref (q 1)) hx hb ht hown hK hP iTX11 0 1 rfl rfl (by decide) fl_RX11_9 rfl dX11_count_90 ?_
    refine lv_iconst (v := 5) hx hb dX11_count_93 (by decide) ?_
    refine va_iald hx hb hK.1 hP 1 0 rfl rfl (show ¬ (_ ∨ _) by decide) dX11_count_94 ?_
    refine W.eq (g2 := F0 m 95 ls [.int (A 1 5)]) rfl ?_
    have zf2 : (0 : Int) ≤ (A 1 5).toInt ∧ (A 1 5).toInt ≤ 6 := (hI.2 1 5)
    exact retRi hx hb hr hlk hS dX11_count_95 (trivial)
  · refine lv_tableIn (off := 93) (tgt := 96) hx hb dX11_count_3 (by decide) (by decide) (by decide) (by decide) ?_
    refine lv_iconst (v := 0) hx hb dX11_count_96 (by decide) ?_
    refine lv_istore_n (lv' := [(3, .int 0), (2, .int 0), (0, .ref h), (1, .int 3)]) hx hb dX11_count_97 rfl hl (by decide) rfl (fun ls hl => ?_)
    have B98 : ∀ (n : Nat) (x98_2 : Int32) (x98_3 : Int32) (H : Heap) (locs : List Loc) (ls : Array Slot), (7 - x98_3.toInt).toNat < n → (0 : Int) ≤ x98_3.toInt ∧ x98_3.toInt ≤ 7 → va_P G vwCl (mS cs h q F A D B) H → va_S (fun q => s.heap.size ≤ q) s.heap H locs → lv_has ls 4 [(0, .ref h), (1, .int 3), (2, .int x98_2), (3, .int x98_3)] → W p l e (rmk 1 0 0) s m args below meth c H locs 0 0 (MQ below (QRi (fun r : Int32 => True) s.heap.size) args s 0 0 (fun q => s.heap.size ≤ q)) (F0 m 98 ls []) := by
      intro n
      induction n with
      | zero => intro x98_2 x98_3 H locs ls hmeas hx98_3 hP hS hl; exact absurd hmeas (Nat.not_lt_zero _)
      | succ n ih98 =>
        intro x98_2 x98_3 H locs ls hmeas hx98_3 hP hS hl
        refine lv_iload_n hx hb dX11_count_98 rfl (lv_at hl 3 rfl) ?_
        refine lv_aload_n hx hb dX11_count_99 rfl (lv_at hl 0 rfl) ?_
        refine getF (v := .ref (q 1)) hx hb ht hown hK hP iTX11 0 1 rfl rfl (by decide) fl_RX11_9 rfl dX11_count_100 ?_
        refine lv_iconst (v := 4) hx hb dX11_count_103 (by decide) ?_
        refine va_iald hx hb hK.1 hP 1 0 rfl rfl (show ¬ (_ ∨ _) by decide) dX11_count_104 ?_
        refine W.eq (g2 := F0 m 105 ls [.int (A 1 4), .int x98_3]) rfl ?_
        have zf43001 : (0 : Int) ≤ (A 1 4).toInt ∧ (A 1 4).toInt ≤ 7 := (hI.2 1 4)
        refine lv_icmp_ge (tgt := 123) hx hb dX11_count_105 (by decide) (fun c43002 => ?_) (fun c43002 => ?_)
        · have zc43002 := leK rfl rfl c43002
          refine lv_iload_n hx hb dX11_count_123 rfl (lv_at hl 2 rfl) ?_
          exact retRi hx hb hr hlk hS dX11_count_124 (trivial)
        · have zc43002 := nleK rfl rfl c43002
          refine lv_iload_n hx hb dX11_count_108 rfl (lv_at hl 2 rfl) ?_
          refine lv_aload_n hx hb dX11_count_109 rfl (lv_at hl 0 rfl) ?_
          refine lv_iload_n hx hb dX11_count_110 rfl (lv_at hl 3 rfl) ?_
          refine lv_iconst (v := 0) hx hb dX11_count_111 (by decide) ?_
          refine behR (runVP (As := [.int x98_3, .int 0]) (rest := [.int x98_2]) ⟨hx, hb, hml, hown, ht⟩ (sX11_of l G cs h q F A D B hI x98_3 0 (by omega) (by decide)) okV_RX11_227 ⟨by decide, by decide⟩ hK hP [0, 1, 2, 3, 4, 5, 6, 7, 8, 9, 10, 11, 12, 13, 14, 15, 16, 17, 18, 19] rfl 0 rfl rfl hl.1 rfl (Nat.le_of_ble_eq_true rfl) dX11_count_112 ⟨by decide, by decide⟩) hP hS (fun _ h => h) (fun r43003 H locs hr43003 hP hS => ?_)
          have hr43003 : (0 : Int) ≤ r43003.toInt ∧ r43003.toInt ≤ 999 ∧ (0 = 3 → r43003.toInt ≤ 127) ∧ (0 = 2 → r43003.toInt ≤ 99) := hr43003
          refine lv_iadd hx hb dX11_count_115 ?_
          refine lv_topi (fun v43004 ev43004 => ?_)
          refine lv_istore_n (lv' := [(2, .int v43004), (0, .ref h), (1, .int 3), (3, .int x98_3)]) hx hb dX11_count_116 rfl hl (by decide) rfl (fun ls hl => ?_)
          obtain ⟨v43005, ev43005⟩ : ∃ z : Int32, z = x98_3 + 1 := ⟨_, rfl⟩
          have tv43005 : v43005.toInt = x98_3.toInt + 1 := by rw [ev43005]; exact addT rfl (by decide) (by omega)
          refine lv_iinc (v := v43005) (lv' := [(3, .int v43005), (2, .int v43004), (0, .ref h), (1, .int 3)]) hx hb dX11_count_117 hl (k := 3) rfl (by rw [ev43005]; rfl) (by decide) rfl (fun ls hl => ?_)
          refine lv_goto (tgt := 98) hx hb dX11_count_120 (by decide) ?_
          exact ih98 v43004 v43005 H locs ls (by omega) (by omega) hP hS (lv_sub hl [2, 3, 1, 0] rfl)
    exact B98 _ 0 0 s.heap [] ls (Nat.lt_succ_self _) (by decide) hP hS (lv_sub hl [2, 3, 1, 0] rfl)
  · refine lv_tableIn (off := 122) (tgt := 125) hx hb dX11_count_3 (by decide) (by decide) (by decide) (by decide) ?_
    refine lv_aload_n hx hb dX11_count_125 rfl (lv_at hl 1 rfl) ?_
    refine getF (v := .ref (q 1)) hx hb ht hown hK hP iTX11 0 1 rfl rfl (by decide) fl_RX11_9 rfl dX11_count_126 ?_
    refine lv_bipush (v := 6) hx hb dX11_count_129 (by decide) ?_
    refine va_iald hx hb hK.1 hP 1 0 rfl rfl (show ¬ (_ ∨ _) by decide) dX11_count_131 ?_
    refine W.eq (g2 := F0 m 132 ls [.int (A 1 6)]) rfl ?_
    exact retRi hx hb hr hlk hS dX11_count_132 (trivial)
  · refine lv_tableIn (off := 130) (tgt := 133) hx hb dX11_count_3 (by decide) (by decide) (by decide) (by decide) ?_
    refine lv_aload_n hx hb dX11_count_133 rfl (lv_at hl 1 rfl) ?_
    refine getF (v := .int (F 5)) hx hb ht hown hK hP iTX11 0 5 rfl rfl (by decide) fl_RX11_93 rfl dX11_count_134 ?_
    have zf3 : (0 : Int) ≤ (F 5).toInt ∧ (F 5).toInt ≤ 900 := hI.1 5
    exact retRi hx hb hr hlk hS dX11_count_137 (trivial)
  · refine lv_tableIn (off := 135) (tgt := 138) hx hb dX11_count_3 (by decide) (by decide) (by decide) (by decide) ?_
    refine lv_aload_n hx hb dX11_count_138 rfl (lv_at hl 1 rfl) ?_
    refine getF (v := .ref (q 1)) hx hb ht hown hK hP iTX11 0 1 rfl rfl (by decide) fl_RX11_9 rfl dX11_count_139 ?_
    refine lv_bipush (v := 7) hx hb dX11_count_142 (by decide) ?_
    refine va_iald hx hb hK.1 hP 1 0 rfl rfl (show ¬ (_ ∨ _) by decide) dX11_count_144 ?_
    refine W.eq (g2 := F0 m 145 ls [.int (A 1 7)]) rfl ?_
    have zf4 : (0 : Int) ≤ (A 1 7).toInt ∧ (A 1 7).toInt ≤ 60 := (hI.2 1 7)
    exact retRi hx hb hr hlk hS dX11_count_145 (trivial)
  · refine lv_tableIn (off := 143) (tgt := 146) hx hb dX11_count_3 (by decide) (by decide) (by decide) (by decide) ?_
    refine lv_iconst (v := 0) hx hb dX11_count_146 (by decide) ?_
    refine lv_istore_n (lv' := [(3, .int 0), (2, .int 0), (0, .ref h), (1, .int 7)]) hx hb dX11_count_147 rfl hl (by decide) rfl (fun ls hl => ?_)
    have B148 : ∀ (n : Nat) (x148_2 : Int32) (x148_3 : Int32) (H : Heap) (locs : List Loc) (ls : Array Slot), (4 - x148_3.toInt).toNat < n → (0 : Int) ≤ x148_3.toInt ∧ x148_3.toInt ≤ 4 → va_P G vwCl (mS cs h q F A D B) H → va_S (fun q => s.heap.size ≤ q) s.heap H locs → lv_has ls 4 [(0, .ref h), (1, .int 7), (2, .int x148_2), (3, .int x148_3)] → W p l e (rmk 1 0 0) s m args below meth c H locs 0 0 (MQ below (QRi (fun r : Int32 => True) s.heap.size) args s 0 0 (fun q => s.heap.size ≤ q)) (F0 m 148 ls []) := by
      intro n
      induction n with
      | zero => intro x148_2 x148_3 H locs ls hmeas hx148_3 hP hS hl; exact absurd hmeas (Nat.not_lt_zero _)
      | succ n ih148 =>
        intro x148_2 x148_3 H locs ls hmeas hx148_3 hP hS hl
        refine lv_iload_n hx hb dX11_count_148 rfl (lv_at hl 3 rfl) ?_
        refine lv_iconst (v := 4) hx hb dX11_count_149 (by decide) ?_
        refine lv_icmp_ge (tgt := 177) hx hb dX11_count_150 (by decide) (fun c9001 => ?_) (fun c9001 => ?_)
        · have zc9001 := leK (show (4 : Int32).toInt = 4 by decide) rfl c9001
          refine lv_iload_n hx hb dX11_count_177 rfl (lv_at hl 2 rfl) ?_
          exact retRi hx hb hr hlk hS dX11_count_178 (trivial)
        · have zc9001 := nleK (show (4 : Int32).toInt = 4 by decide) rfl c9001
          refine lv_iload_n hx hb dX11_count_153 rfl (lv_at hl 2 rfl) ?_
          refine lv_aload_n hx hb dX11_count_154 rfl (lv_at hl 0 rfl) ?_
          refine getF (v := .ref (q 31)) hx hb ht hown hK hP iTX11 0 31 rfl rfl (by decide) fl_RX11_61 rfl dX11_count_155 ?_
          refine lv_iload_n hx hb dX11_count_158 rfl (lv_at hl 3 rfl) ?_
          refine va_iald hx hb hK.1 hP 16 0 rfl rfl (inK rfl (by omega) (by decide)) dX11_count_159 ?_
          refine lv_topi (fun v9002 ev9002 => ?_)
          have zf9003 : (-1 : Int) ≤ v9002.toInt ∧ v9002.toInt ≤ 60 := by rw [ev9002]; exact (hI.2 31 _)
          refine lv_iconst (v := (-1)) hx hb dX11_count_160 (by decide) ?_
          have B169 : ∀ (x169_3 : Int32) (s169_0 : Int32) (s169_1 : Int32) (H : Heap) (locs : List Loc) (ls : Array Slot), (0 : Int) ≤ x169_3.toInt ∧ x169_3.toInt ≤ 3 → (0 : Int) ≤ s169_0.toInt ∧ s169_0.toInt ≤ 1 → va_P G vwCl (mS cs h q F A D B) H → va_S (fun q => s.heap.size ≤ q) s.heap H locs → lv_has ls 4 [(0, .ref h), (1, .int 7), (3, .int x169_3)] → W p l e (rmk 1 0 0) s m args below meth c H locs 0 0 (MQ below (QRi (fun r : Int32 => True) s.heap.size) args s 0 0 (fun q => s.heap.size ≤ q)) (F0 m 169 ls [.int s169_0, .int s169_1]) := by
            intro x169_3 s169_0 s169_1 H locs ls hx169_3 hs169_0 hP hS hl
            refine lv_iadd hx hb dX11_count_169 ?_
            refine lv_topi (fun v22001 ev22001 => ?_)
            refine lv_istore_n (lv' := [(2, .int v22001), (0, .ref h), (1, .int 7), (3, .int x169_3)]) hx hb dX11_count_170 rfl hl (by decide) rfl (fun ls hl => ?_)
            obtain ⟨v22002, ev22002⟩ : ∃ z : Int32, z = x169_3 + 1 := ⟨_, rfl⟩
            have tv22002 : v22002.toInt = x169_3.toInt + 1 := by rw [ev22002]; exact addT rfl (by decide) (by omega)
            refine lv_iinc (v := v22002) (lv' := [(3, .int v22002), (2, .int v22001), (0, .ref h), (1, .int 7)]) hx hb dX11_count_171 hl (k := 3) rfl (by rw [ev22002]; rfl) (by decide) rfl (fun ls hl => ?_)
            refine lv_goto (tgt := 148) hx hb dX11_count_174 (by decide) ?_
            exact ih148 v22001 v22002 H locs ls (by omega) (by omega) hP hS (lv_sub hl [2, 3, 1, 0] rfl)
          refine lv_icmp_ne (tgt := 168) hx hb dX11_count_161 (by decide) (fun c9004 => ?_) (fun c9004 => ?_)
          · have zc9004 := neK rfl (show (-1 : Int32).toInt = (-1) by decide) c9004
            refine lv_iconst (v := 1) hx hb dX11_count_168 (by decide) ?_
            exact B169 x148_3 1 x148_2 H locs ls (by omega) (by decide) hP hS (lv_sub hl [0, 1, 3] rfl)
          · have zc9004 := eqK rfl (show (-1 : Int32).toInt = (-1) by decide) c9004
            refine lv_iconst (v := 0) hx hb dX11_count_164 (by decide) ?_
            refine lv_goto (tgt := 169) hx hb dX11_count_165 (by decide) ?_
            exact B169 x148_3 0 x148_2 H locs ls (by omega) (by decide) hP hS (lv_sub hl [0, 1, 3] rfl)
    exact B148 _ 0 0 s.heap [] ls (Nat.lt_succ_self _) (by decide) hP hS (lv_sub hl [2, 3, 1, 0] rfl)

