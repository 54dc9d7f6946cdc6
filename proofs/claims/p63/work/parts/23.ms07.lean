set_option maxRecDepth 100000 in
set_option maxHeartbeats 8000000 in
theorem sX11_card (l : Launch) (G : va_G) (cs : Nat → ClassId) (h : Nat) (q : Nat → Nat) (F : Nat → Int32) (A : Nat → Nat → Int32) (D : Int64) (B : Nat → Nat → Int64) (hI : IM F A) (a1 : Int32) (a2 : Int32) : ImpI l yX11_card cX11_card 3 (some .int) 6 0 0 G (TY cs) [.ref h, .int a1, .int a2] (mS cs h q F A D B) (fun (r : Int32) (u : Int32 × Int32 × (Nat → Int32) × (Nat → Int32)) => True) (fun u : Int32 × Int32 × (Nat → Int32) × (Nat → Int32) => (mS cs h q (upd (upd F 17 u.1) 18 u.2.1) (vA (vA A 15 u.2.2.1) 16 u.2.2.2) D B)) := by
  refine mkD (Qc := (QDi G (fun (r : Int32) (u : Int32 × Int32 × (Nat → Int32) × (Nat → Int32)) => True) (fun u : Int32 × Int32 × (Nat → Int32) × (Nat → Int32) => (mS cs h q (upd (upd F 17 u.1) 18 u.2.1) (vA (vA A 15 u.2.2.1) 16 u.2.2.2) D B)))) (by decide) (by simp [lg_sl, Value.category]) ?_
  intro p e s m args below meth c ls A0 hx hb hml hr hlk hown hmn ht hK hP hD hS hA hl
  have hl : lv_has ls 3 [(0, .ref h), (1, .int a1), (2, .int a2)] := hl
  refine lv_aload_n hx hb dX11_card_0 rfl (lv_at hl 0 rfl) ?_
  refine lv_iload_n hx hb dX11_card_1 rfl (lv_at hl 1 rfl) ?_
  refine lv_i2l hx hb dX11_card_2 rfl ?_
  have bb1 := i32b a1
  refine lv_topl (fun v2 ev2 => ?_)
  have tv2 : v2.toInt = a1.toInt := by rw [ev2]; exact Int32.toInt_toInt64 _
  refine behR (runVP (As := [.long v2]) (rest := []) ⟨hx, hb, hml, hown, ht⟩ (sX11_isRoom l G cs h q F A D B hI v2 ) okV_RX11_89 ⟨by decide, by decide⟩ hK hP [0, 1, 2, 3, 4, 5, 6, 7, 8, 9, 10, 11, 12, 13, 14, 15, 16, 17, 18, 19] rfl 0 rfl rfl hl.1 rfl (Nat.le_of_ble_eq_true rfl) dX11_card_3 ⟨by decide, by decide⟩) hP hS hA (fun r3 H locs hr3 hP hS => ?_)
  have hr3 : (r3.toInt = 1 ∧ 0 ≤ v2.toInt ∧ v2.toInt < (A 1 4).toInt ∧ v2.toInt ≤ 6 ∧ (A 1 4).toInt ≤ 7) ∨ r3.toInt = 0 := hr3
  refine lv_if_eq (tgt := 30) hx hb dX11_card_6 (by decide) (fun c4 => ?_) (fun c4 => ?_)
  · have zc4 := eqK rfl (show (0 : Int32).toInt = 0 by decide) c4
    refine lv_bipush (v := (-2)) hx hb dX11_card_30 (by decide) ?_
    exact retDi ((F 17), (F 18), (A 15), (A 16)) hx hb hr hlk hP hD hS dX11_card_32 (trivial) (Nat.le_of_ble_eq_true rfl) (Nat.le_of_ble_eq_true rfl)
  · have zc4 := neK rfl (show (0 : Int32).toInt = 0 by decide) c4
    refine lv_iload_n hx hb dX11_card_9 rfl (lv_at hl 2 rfl) ?_
    refine lv_i2l hx hb dX11_card_10 rfl ?_
    have bb5 := i32b a2
    refine lv_topl (fun v6 ev6 => ?_)
    have tv6 : v6.toInt = a2.toInt := by rw [ev6]; exact Int32.toInt_toInt64 _
    refine lv_lconst (v := 0) hx hb dX11_card_11 (by decide) ?_
    refine lv_ldc2 hx hb hown (ht _ kl_RX11_284) dX11_card_12 ?_
    refine behR (runSP (As := [.long v6, .long 0, .long 200]) (rest := []) ⟨hx, hb, hml, hown, ht⟩ (sX11_in l G cs v6 0 200 ) okS_RX11_79 ⟨by decide, by decide⟩ hK hP [] rfl hl.1 rfl (Nat.le_of_ble_eq_true rfl) dX11_card_15 ⟨by decide, by decide⟩) hP hS hA (fun r7 H locs hr7 hP hS => ?_)
    have kk8 : (0 : Int64).toInt = 0 := by decide
    have kk9 : (200 : Int64).toInt = 200 := by decide
    have hr7 : (r7.toInt = 1 ∧ (0 : Int64).toInt ≤ v6.toInt ∧ v6.toInt ≤ (200 : Int64).toInt) ∨ (r7.toInt = 0 ∧ (v6.toInt < (0 : Int64).toInt ∨ (200 : Int64).toInt < v6.toInt)) := hr7
    refine lv_if_eq (tgt := 30) hx hb dX11_card_18 (by decide) (fun c10 => ?_) (fun c10 => ?_)
    · have zc10 := eqK rfl (show (0 : Int32).toInt = 0 by decide) c10
      refine lv_bipush (v := (-2)) hx hb dX11_card_30 (by decide) ?_
      exact retDi ((F 17), (F 18), (A 15), (A 16)) hx hb hr hlk hP hD hS dX11_card_32 (trivial) (Nat.le_of_ble_eq_true rfl) (Nat.le_of_ble_eq_true rfl)
    · have zc10 := neK rfl (show (0 : Int32).toInt = 0 by decide) c10
      refine lv_aload_n hx hb dX11_card_21 rfl (lv_at hl 0 rfl) ?_
      refine lv_iload_n hx hb dX11_card_22 rfl (lv_at hl 1 rfl) ?_
      refine lv_iload_n hx hb dX11_card_23 rfl (lv_at hl 2 rfl) ?_
      refine behDi (wr := []) (runVD (As := [.int a1, .int a2]) (rest := []) ⟨hx, hb, hml, hown, ht⟩ (sX11_cardIn l G cs h q F A D B hI a1 a2 (by omega) (by omega)) okV_RX11_343 ⟨by decide, by decide⟩ hK hP hD [0, 1, 2, 3, 4, 5, 6, 7, 8, 9, 10, 11, 12, 13, 14, 15, 16, 17, 18, 19] rfl (by decide) rfl 0 rfl rfl hl.1 rfl (Nat.le_of_ble_eq_true rfl) dX11_card_24 ⟨(Nat.le_of_ble_eq_true rfl), (Nat.le_of_ble_eq_true rfl)⟩) hP hD hS hA [0, 1, 2, 3, 4, 5, 6, 7, 8, 9, 10, 11, 12, 13, 14, 15, 16, 17, 18, 19] [] rfl rfl (by decide) (by decide) (fun r9 u H locs hu hP hD hS => ?_)
      obtain ⟨x11, x12, g13, g14⟩ := u
      obtain ⟨r15, rfl⟩ : ∃ z, z = r9 := ⟨_, rfl⟩
      have hr15 := hu
      have hP : va_P G vwCl (mS cs h q (upd (upd F 17 x11) 18 x12) (vA (vA A 15 g13) 16 g14) D B) H := hP
      have hD : va_D A0 (mS cs h q (upd (upd F 17 x11) 18 x12) (vA (vA A 15 g13) 16 g14) D B) := hD
      refine lv_goto (tgt := 32) hx hb dX11_card_27 (by decide) ?_
      exact retDi (x11, x12, g13, g14) hx hb hr hlk hP hD hS dX11_card_32 (trivial) (Nat.le_of_ble_eq_true rfl) (Nat.le_of_ble_eq_true rfl)

set_option maxRecDepth 100000 in
set_option maxHeartbeats 8000000 in
theorem sX11_desk (l : Launch) (G : va_G) (cs : Nat → ClassId) (h : Nat) (q : Nat → Nat) (F : Nat → Int32) (A : Nat → Nat → Int32) (D : Int64) (B : Nat → Nat → Int64) (hI : IM F A) (a1 : Int32) : ImpI l yX11_desk cX11_desk 6 (some .int) 6 0 0 G (TY cs) [.ref h, .int a1] (mS cs h q F A D B) (fun (r : Int32) (u : Int32 × Int32 × (Nat → Int32) × (Nat → Int32)) => True) (fun u : Int32 × Int32 × (Nat → Int32) × (Nat → Int32) => (mS cs h q (upd (upd F 17 u.1) 18 u.2.1) (vA (vA A 15 u.2.2.1) 16 u.2.2.2) D B)) := by
  refine mkD (Qc := (QDi G (fun (r : Int32) (u : Int32 × Int32 × (Nat → Int32) × (Nat → Int32)) => True) (fun u : Int32 × Int32 × (Nat → Int32) × (Nat → Int32) => (mS cs h q (upd (upd F 17 u.1) 18 u.2.1) (vA (vA A 15 u.2.2.1) 16 u.2.2.2) D B)))) (by decide) (by simp [lg_sl, Value.category]) ?_
  intro p e s m args below meth c ls A0 hx hb hml hr hlk hown hmn ht hK hP hD hS hA hl
  have hl : lv_has ls 6 [(0, .ref h), (1, .int a1)] := hl
  refine lv_aload_n hx hb dX11_desk_0 rfl (lv_at hl 0 rfl) ?_
  refine getF (v := .ref (q 1)) hx hb ht hown hK hP iTX11 0 1 rfl rfl (by decide) fl_RX11_9 rfl dX11_desk_1 ?_
  refine lv_iconst (v := 4) hx hb dX11_desk_4 (by decide) ?_
  refine va_iald hx hb hK.1 hP 1 0 rfl rfl (show ¬ (_ ∨ _) by decide) dX11_desk_5 ?_
  refine W.eq (g2 := F0 m 6 ls [.int (A 1 4)]) rfl ?_
  have zf1 : (0 : Int) ≤ (A 1 4).toInt ∧ (A 1 4).toInt ≤ 7 := (hI.2 1 4)
  refine lv_if_eq (tgt := 21) hx hb dX11_desk_6 (by decide) (fun c2 => ?_) (fun c2 => ?_)
  · have zc2 := eqK rfl (show (0 : Int32).toInt = 0 by decide) c2
    refine lv_bipush (v := (-2)) hx hb dX11_desk_21 (by decide) ?_
    exact retDi ((F 17), (F 18), (A 15), (A 16)) hx hb hr hlk hP hD hS dX11_desk_23 (trivial) (Nat.le_of_ble_eq_true rfl) (Nat.le_of_ble_eq_true rfl)
  · have zc2 := neK rfl (show (0 : Int32).toInt = 0 by decide) c2
    refine lv_iload_n hx hb dX11_desk_9 rfl (lv_at hl 1 rfl) ?_
    refine lv_i2l hx hb dX11_desk_10 rfl ?_
    have bb3 := i32b a1
    refine lv_topl (fun v4 ev4 => ?_)
    have tv4 : v4.toInt = a1.toInt := by rw [ev4]; exact Int32.toInt_toInt64 _
    refine lv_lconst (v := 0) hx hb dX11_desk_11 (by decide) ?_
    refine lv_ldc2 hx hb hown (ht _ kl_RX11_284) dX11_desk_12 ?_
    refine behR (runSP (As := [.long v4, .long 0, .long 200]) (rest := []) ⟨hx, hb, hml, hown, ht⟩ (sX11_in l G cs v4 0 200 ) okS_RX11_79 ⟨by decide, by decide⟩ hK hP [] rfl hl.1 rfl (Nat.le_of_ble_eq_true rfl) dX11_desk_15 ⟨by decide, by decide⟩) hP hS hA (fun r5 H locs hr5 hP hS => ?_)
    have kk6 : (0 : Int64).toInt = 0 := by decide
    have kk7 : (200 : Int64).toInt = 200 := by decide
    have hr5 : (r5.toInt = 1 ∧ (0 : Int64).toInt ≤ v4.toInt ∧ v4.toInt ≤ (200 : Int64).toInt) ∨ (r5.toInt = 0 ∧ (v4.toInt < (0 : Int64).toInt ∨ (200 : Int64).toInt < v4.toInt)) := hr5
    refine lv_if_ne (tgt := 24) hx hb dX11_desk_18 (by decide) (fun c8 => ?_) (fun c8 => ?_)
    · have zc8 := neK rfl (show (0 : Int32).toInt = 0 by decide) c8
      refine lv_iconst (v := (-1)) hx hb dX11_desk_24 (by decide) ?_
      refine lv_istore_n (lv' := [(2, .int (-1)), (0, .ref h), (1, .int a1)]) hx hb dX11_desk_25 rfl hl (by decide) rfl (fun ls hl => ?_)
      refine lv_iconst (v := (-1)) hx hb dX11_desk_26 (by decide) ?_
      refine lv_istore_n (lv' := [(3, .int (-1)), (2, .int (-1)), (0, .ref h), (1, .int a1)]) hx hb dX11_desk_27 rfl hl (by decide) rfl (fun ls hl => ?_)
      refine lv_iconst (v := 0) hx hb dX11_desk_28 (by decide) ?_
      refine lv_istore (lv' := [(4, .int 0), (3, .int (-1)), (2, .int (-1)), (0, .ref h), (1, .int a1)]) hx hb dX11_desk_29 hl (by decide) rfl (fun ls hl => ?_)
      have B31 : ∀ (n : Nat) (x31_2 : Int32) (x31_3 : Int32) (x31_4 : Int32) (f17_31 : Int32) (f18_31 : Int32) (a15_31 : (Nat → Int32)) (a16_31 : (Nat → Int32)) (H : Heap) (locs : List Loc) (ls : Array Slot), (7 - x31_4.toInt).toNat < n → (-1 : Int) ≤ x31_2.toInt ∧ x31_2.toInt ≤ 6 → (-1 : Int) ≤ x31_3.toInt → (0 : Int) ≤ x31_4.toInt ∧ x31_4.toInt ≤ 7 → va_P G vwCl (mS cs h q (upd (upd F 17 f17_31) 18 f18_31) (vA (vA A 15 a15_31) 16 a16_31) D B) H → va_D A0 (mS cs h q (upd (upd F 17 f17_31) 18 f18_31) (vA (vA A 15 a15_31) 16 a16_31) D B) → va_S A0 s.heap H locs → lv_has ls 6 [(0, .ref h), (1, .int a1), (2, .int x31_2), (3, .int x31_3), (4, .int x31_4)] → W p l e (rmk 6 0 0) s m args below meth c H locs 0 0 (MQ below ((QDi G (fun (r : Int32) (u : Int32 × Int32 × (Nat → Int32) × (Nat → Int32)) => True) (fun u : Int32 × Int32 × (Nat → Int32) × (Nat → Int32) => (mS cs h q (upd (upd F 17 u.1) 18 u.2.1) (vA (vA A 15 u.2.2.1) 16 u.2.2.2) D B))) A0) args s 0 0 A0) (F0 m 31 ls []) := by
        intro n
        induction n with
        | zero => intro x31_2 x31_3 x31_4 f17_31 f18_31 a15_31 a16_31 H locs ls hmeas hx31_2 hx31_3 hx31_4 hP hD hS hl; exact absurd hmeas (Nat.not_lt_zero _)
        | succ n ih31 =>
          intro x31_2 x31_3 x31_4 f17_31 f18_31 a15_31 a16_31 H locs ls hmeas hx31_2 hx31_3 hx31_4 hP hD hS hl
          refine lv_iload hx hb dX11_desk_31 (lv_at hl 4 rfl) ?_
          refine lv_aload_n hx hb dX11_desk_33 rfl (lv_at hl 0 rfl) ?_
          refine getF (v := .ref (q 1)) hx hb ht hown hK hP iTX11 0 1 rfl rfl (by decide) fl_RX11_9 rfl dX11_desk_34 ?_
          refine lv_iconst (v := 4) hx hb dX11_desk_37 (by decide) ?_
          refine va_iald hx hb hK.1 hP 1 0 rfl rfl (show ¬ (_ ∨ _) by decide) dX11_desk_38 ?_
          refine W.eq (g2 := F0 m 39 ls [.int (A 1 4), .int x31_4]) rfl ?_
          have zf18001 : (0 : Int) ≤ (A 1 4).toInt ∧ (A 1 4).toInt ≤ 7 := (hI.2 1 4)
          refine lv_icmp_ge (tgt := 72) hx hb dX11_desk_39 (by decide) (fun c18002 => ?_) (fun c18002 => ?_)
          · have zc18002 := leK rfl rfl c18002
            refine lv_iload_n hx hb dX11_desk_72 rfl (lv_at hl 2 rfl) ?_
            exact retDi (f17_31, f18_31, a15_31, a16_31) hx hb hr hlk hP hD hS dX11_desk_73 (trivial) (Nat.le_of_ble_eq_true rfl) (Nat.le_of_ble_eq_true rfl)
          · have zc18002 := nleK rfl rfl c18002
            refine lv_aload_n hx hb dX11_desk_42 rfl (lv_at hl 0 rfl) ?_
            refine lv_iload hx hb dX11_desk_43 (lv_at hl 4 rfl) ?_
            refine lv_iload_n hx hb dX11_desk_45 rfl (lv_at hl 1 rfl) ?_
            refine behDi (wr := []) (runVD (As := [.int x31_4, .int a1]) (rest := []) ⟨hx, hb, hml, hown, ht⟩ (sX11_cardIn l G cs h q (upd (upd F 17 f17_31) 18 f18_31) (vA (vA A 15 a15_31) 16 a16_31) D B (IM_arr (k := 16) (IM_arr (k := 15) (IM_put (k := 18) (IM_put (k := 17) hI (i32b _)) (i32b _)) (fun _ => i32b _)) (fun _ => i32b _)) x31_4 a1 (by omega) (by omega)) okV_RX11_343 ⟨by decide, by decide⟩ hK hP hD [0, 1, 2, 3, 4, 5, 6, 7, 8, 9, 10, 11, 12, 13, 14, 15, 16, 17, 18, 19] rfl (by decide) rfl 0 rfl rfl hl.1 rfl (Nat.le_of_ble_eq_true rfl) dX11_desk_46 ⟨(Nat.le_of_ble_eq_true rfl), (Nat.le_of_ble_eq_true rfl)⟩) hP hD hS hA [0, 1, 2, 3, 4, 5, 6, 7, 8, 9, 10, 11, 12, 13, 14, 15, 16, 17, 18, 19] [] rfl rfl (by decide) (by decide) (fun r9 u H locs hu hP hD hS => ?_)
            obtain ⟨x18003, x18004, g18005, g18006⟩ := u
            obtain ⟨r18007, rfl⟩ : ∃ z, z = r9 := ⟨_, rfl⟩
            have hr18007 := hu
            have hP : va_P G vwCl (mS cs h q (upd (upd F 17 x18003) 18 x18004) (vA (vA A 15 g18005) 16 g18006) D B) H := hP
            have hD : va_D A0 (mS cs h q (upd (upd F 17 x18003) 18 x18004) (vA (vA A 15 g18005) 16 g18006) D B) := hD
            refine lv_istore (lv' := [(5, .int r18007), (0, .ref h), (1, .int a1), (2, .int x31_2), (3, .int x31_3), (4, .int x31_4)]) hx hb dX11_desk_49 hl (by decide) rfl (fun ls hl => ?_)
            refine lv_iload hx hb dX11_desk_51 (lv_at hl 0 rfl) ?_
            refine lv_iload_n hx hb dX11_desk_53 rfl (lv_at hl 4 rfl) ?_
            have B66 : ∀ (x66_2 : Int32) (x66_3 : Int32) (H : Heap) (locs : List Loc) (ls : Array Slot), (-1 : Int) ≤ x66_2.toInt ∧ x66_2.toInt ≤ 6 → (-1 : Int) ≤ x66_3.toInt → va_P G vwCl (mS cs h q (upd (upd F 17 x18003) 18 x18004) (vA (vA A 15 g18005) 16 g18006) D B) H → va_D A0 (mS cs h q (upd (upd F 17 x18003) 18 x18004) (vA (vA A 15 g18005) 16 g18006) D B) → va_S A0 s.heap H locs → lv_has ls 6 [(0, .ref h), (1, .int a1), (2, .int x66_2), (3, .int x66_3), (4, .int x31_4)] → W p l e (rmk 6 0 0) s m args below meth c H locs 0 0 (MQ below ((QDi G (fun (r : Int32) (u : Int32 × Int32 × (Nat → Int32) × (Nat → Int32)) => True) (fun u : Int32 × Int32 × (Nat → Int32) × (Nat → Int32) => (mS cs h q (upd (upd F 17 u.1) 18 u.2.1) (vA (vA A 15 u.2.2.1) 16 u.2.2.2) D B))) A0) args s 0 0 A0) (F0 m 66 ls []) := by
              intro x66_2 x66_3 H locs ls hx66_2 hx66_3 hP hD hS hl
              obtain ⟨v37001, ev37001⟩ : ∃ z : Int32, z = x31_4 + 1 := ⟨_, rfl⟩
              have tv37001 : v37001.toInt = x31_4.toInt + 1 := by rw [ev37001]; exact addT rfl (by decide) (by omega)
              refine lv_iinc (v := v37001) (lv' := [(4, .int v37001), (0, .ref h), (1, .int a1), (2, .int x66_2), (3, .int x66_3)]) hx hb dX11_desk_66 hl (k := 4) rfl (by rw [ev37001]; rfl) (by decide) rfl (fun ls hl => ?_)
              refine lv_goto (tgt := 31) hx hb dX11_desk_69 (by decide) ?_
              exact ih31 x66_2 x66_3 v37001 x18003 x18004 g18005 g18006 H locs ls (by omega) (by omega) (by omega) (by omega) hP hD hS (lv_sub hl [1, 2, 3, 4, 0] rfl)
            refine lv_icmp_gt (tgt := 60) hx hb dX11_desk_54 (by decide) (fun c18008 => ?_) (fun c18008 => ?_)
            · have zc18008 := ltK rfl rfl c18008
              refine lv_iload hx hb dX11_desk_60 (lv_at hl 0 rfl) ?_
              refine lv_istore_n (lv' := [(3, .int r18007), (5, .int r18007), (0, .ref h), (1, .int a1), (2, .int x31_2), (4, .int x31_4)]) hx hb dX11_desk_62 rfl hl (by decide) rfl (fun ls hl => ?_)
              refine lv_iload hx hb dX11_desk_63 (lv_at hl 5 rfl) ?_
              refine lv_istore_n (lv' := [(2, .int x31_4), (3, .int r18007), (5, .int r18007), (0, .ref h), (1, .int a1), (4, .int x31_4)]) hx hb dX11_desk_65 rfl hl (by decide) rfl (fun ls hl => ?_)
              exact B66 x31_4 r18007 H locs ls (by omega) (by omega) hP hD hS (lv_sub hl [3, 4, 0, 1, 5] rfl)
            · have zc18008 := nltK rfl rfl c18008
              refine lv_goto (tgt := 66) hx hb dX11_desk_57 (by decide) ?_
              exact B66 x31_2 x31_3 H locs ls (by omega) (by omega) hP hD hS (lv_sub hl [1, 2, 3, 4, 5] rfl)
      exact B31 _ (-1) (-1) 0 (F 17) (F 18) (A 15) (A 16) H locs ls (Nat.lt_succ_self _) (by decide) (by decide) (by decide) hP hD hS (lv_sub hl [3, 4, 2, 1, 0] rfl)
    · have zc8 := eqK rfl (show (0 : Int32).toInt = 0 by decide) c8
      refine lv_bipush (v := (-2)) hx hb dX11_desk_21 (by decide) ?_
      exact retDi ((F 17), (F 18), (A 15), (A 16)) hx hb hr hlk hP hD hS dX11_desk_23 (trivial) (Nat.le_of_ble_eq_true rfl) (Nat.le_of_ble_eq_true rfl)

set_option maxRecDepth 100000 in
set_option maxHeartbeats 8000000 in
theorem sX11_state (l : Launch) (G : va_G) (cs : Nat → ClassId) (a1 : Int32) (a2 : Int32) (a3 : Int32) : SafeR l yX11_state cX11_state 3 (some .int) 0 G (TY cs) [.int a1, .int a2, .int a3] [] (fun r : Int32 => True) := by
  refine mkP (Qc := QRi (fun r : Int32 => True)) (by decide) (by simp [lg_sl, Value.category]) ?_
  intro p e s m args below meth c ls hx hb hml hr hlk hown ht hK hP hS hl
  have hl : lv_has ls 3 [(0, .int a1), (1, .int a2), (2, .int a3)] := hl
  refine lv_bipush (v := 7) hx hb dX11_state_0 (by decide) ?_
  refine lv_iload_n hx hb dX11_state_2 rfl (lv_at hl 0 rfl) ?_
  refine lv_imul hx hb dX11_state_3 ?_
  refine lv_topi (fun v1 ev1 => ?_)
  refine lv_iload_n hx hb dX11_state_4 rfl (lv_at hl 1 rfl) ?_
  refine lv_iadd hx hb dX11_state_5 ?_
  refine lv_topi (fun v2 ev2 => ?_)
  refine lv_sipush (v := 128) hx hb dX11_state_6 (by decide) ?_
  refine lv_imul hx hb dX11_state_9 ?_
  refine lv_topi (fun v3 ev3 => ?_)
  refine lv_iload_n hx hb dX11_state_10 rfl (lv_at hl 2 rfl) ?_
  refine lv_iadd hx hb dX11_state_11 ?_
  refine lv_topi (fun v4 ev4 => ?_)
  exact retRi hx hb hr hlk hS dX11_state_12 (trivial)

set_option maxRecDepth 100000 in
set_option maxHeartbeats 8000000 in
theorem sX11_farTo (l : Launch) (G : va_G) (cs : Nat → ClassId) (h : Nat) (q : Nat → Nat) (F : Nat → Int32) (A : Nat → Nat → Int32) (D : Int64) (B : Nat → Nat → Int64) (hI : IM F A) (a1 : Int32) (ha1 : (-1 : Int) ≤ a1.toInt ∧ a1.toInt ≤ 6271) : SafeR l yX11_farTo cX11_farTo 2 (some .int) 0 G (TY cs) [.ref h, .int a1] (mS cs h q F A D B) (fun r : Int32 => True) := by
  refine mkP (Qc := QRi (fun r : Int32 => True)) (by decide) (by simp [lg_sl, Value.category]) ?_
  intro p e s m args below meth c ls hx hb hml hr hlk hown ht hK hP hS hl
  have hl : lv_has ls 2 [(0, .ref h), (1, .int a1)] := hl
  refine lv_iload_n hx hb dX11_farTo_0 rfl (lv_at hl 1 rfl) ?_
  refine lv_iconst (v := (-1)) hx hb dX11_farTo_1 (by decide) ?_
  refine lv_icmp_ne (tgt := 9) hx hb dX11_farTo_2 (by decide) (fun c1 => ?_) (fun c1 => ?_)
  · have zc1 := neK rfl (show (-1 : Int32).toInt = (-1) by decide) c1
    refine lv_aload_n hx hb dX11_farTo_9 rfl (lv_at hl 0 rfl) ?_
    refine getF (v := .ref (q 24)) hx hb ht hown hK hP iTX11 0 24 rfl rfl (by decide) fl_RX11_52 rfl dX11_farTo_10 ?_
    refine lv_iload_n hx hb dX11_farTo_13 rfl (lv_at hl 1 rfl) ?_
    refine va_iald hx hb hK.1 hP 13 0 rfl rfl (inK rfl (by omega) (by decide)) dX11_farTo_14 ?_
    refine lv_topi (fun v2 ev2 => ?_)
    exact retRi hx hb hr hlk hS dX11_farTo_15 (trivial)
  · have zc1 := eqK rfl (show (-1 : Int32).toInt = (-1) by decide) c1
    refine lv_iconst (v := (-1)) hx hb dX11_farTo_5 (by decide) ?_
    refine lv_goto (tgt := 15) hx hb dX11_farTo_6 (by decide) ?_
    exact retRi hx hb hr hlk hS dX11_farTo_15 (trivial)

set_option maxRecDepth 100000 in
set_option maxHeartbeats 8000000 in
theorem sX11_saying (l : Launch) (G : va_G) (cs : Nat → ClassId) (h : Nat) (q : Nat → Nat) (F : Nat → Int32) (A : Nat → Nat → Int32) (D : Int64) (B : Nat → Nat → Int64) (hI : IM F A) (a1 : Int32) (a2 : Int32) (ha1 : (0 : Int) ≤ a1.toInt ∧ a1.toInt ≤ 63) (ha2 : (0 : Int) ≤ a2.toInt ∧ a2.toInt ≤ 5) : SafeR l yX11_saying cX11_saying 5 (some .int) 1 G (TY cs) [.ref h, .int a1, .int a2] (mS cs h q F A D B) (fun r : Int32 => (0 : Int) ≤ r.toInt ∧ r.toInt ≤ 63) := by
  refine mkP (Qc := QRi (fun r : Int32 => (0 : Int) ≤ r.toInt ∧ r.toInt ≤ 63)) (by decide) (by simp [lg_sl, Value.category]) ?_
  intro p e s m args below meth c ls hx hb hml hr hlk hown ht hK hP hS hl
  have hl : lv_has ls 5 [(0, .ref h), (1, .int a1), (2, .int a2)] := hl
  refine lv_iconst (v := 0) hx hb dX11_saying_0 (by decide) ?_
  refine lv_istore_n (lv' := [(3, .int 0), (0, .ref h), (1, .int a1), (2, .int a2)]) hx hb dX11_saying_1 rfl hl (by decide) rfl (fun ls hl => ?_)
  refine lv_iconst (v := 0) hx hb dX11_saying_2 (by decide) ?_
  refine lv_istore (lv' := [(4, .int 0), (3, .int 0), (0, .ref h), (1, .int a1), (2, .int a2)]) hx hb dX11_saying_3 hl (by decide) rfl (fun ls hl => ?_)
  have B5 : ∀ (n : Nat) (x5_3 : Int32) (x5_4 : Int32) (H : Heap) (locs : List Loc) (ls : Array Slot), (6 - x5_4.toInt).toNat < n → (0 : Int) ≤ x5_3.toInt ∧ x5_3.toInt ≤ 63 → (0 : Int) ≤ x5_4.toInt ∧ x5_4.toInt ≤ 6 → va_P G vwCl (mS cs h q F A D B) H → va_S (fun q => s.heap.size ≤ q) s.heap H locs → lv_has ls 5 [(0, .ref h), (1, .int a1), (2, .int a2), (3, .int x5_3), (4, .int x5_4)] → W p l e (rmk 1 0 0) s m args below meth c H locs 0 0 (MQ below (QRi (fun r : Int32 => (0 : Int) ≤ r.toInt ∧ r.toInt ≤ 63) s.heap.size) args s 0 0 (fun q => s.heap.size ≤ q)) (F0 m 5 ls []) := by
    intro n
    induction n with
    | zero => intro x5_3 x5_4 H locs ls hmeas hx5_3 hx5_4 hP hS hl; exact absurd hmeas (Nat.not_lt_zero _)
    | succ n ih5 =>
      intro x5_3 x5_4 H locs ls hmeas hx5_3 hx5_4 hP hS hl
      refine lv_iload hx hb dX11_saying_5 (lv_at hl 4 rfl) ?_
      refine lv_aload_n hx hb dX11_saying_7 rfl (lv_at hl 0 rfl) ?_
      refine getF (v := .ref (q 1)) hx hb ht hown hK hP iTX11 0 1 rfl rfl (by decide) fl_RX11_9 rfl dX11_saying_8 ?_
      refine lv_iconst (v := 5) hx hb dX11_saying_11 (by decide) ?_
      refine va_iald hx hb hK.1 hP 1 0 rfl rfl (show ¬ (_ ∨ _) by decide) dX11_saying_12 ?_
      refine W.eq (g2 := F0 m 13 ls [.int (A 1 5), .int x5_4]) rfl ?_
      have zf5001 : (0 : Int) ≤ (A 1 5).toInt ∧ (A 1 5).toInt ≤ 6 := (hI.2 1 5)
      refine lv_icmp_ge (tgt := 58) hx hb dX11_saying_13 (by decide) (fun c5002 => ?_) (fun c5002 => ?_)
      · have zc5002 := leK rfl rfl c5002
        refine lv_iload_n hx hb dX11_saying_58 rfl (lv_at hl 3 rfl) ?_
        exact retRi hx hb hr hlk hS dX11_saying_59 (show (0 : Int) ≤ x5_3.toInt ∧ x5_3.toInt ≤ 63 by omega)
      · have zc5002 := nleK rfl rfl c5002
        refine lv_iload_n hx hb dX11_saying_16 rfl (lv_at hl 3 rfl) ?_
        refine lv_iload_n hx hb dX11_saying_17 rfl (lv_at hl 1 rfl) ?_
        refine lv_iload hx hb dX11_saying_18 (lv_at hl 4 rfl) ?_
        refine behR (runSP (As := [.int a1, .int x5_4]) (rest := [.int x5_3]) ⟨hx, hb, hml, hown, ht⟩ (sX11_bit l G cs a1 x5_4 ) okS_RX11_258 ⟨by decide, by decide⟩ hK hP [] rfl hl.1 rfl (Nat.le_of_ble_eq_true rfl) dX11_saying_20 ⟨by decide, by decide⟩) hP hS (fun _ h => h) (fun r5003 H locs hr5003 hP hS => ?_)
        have hr5003 : (0 : Int) ≤ r5003.toInt ∧ r5003.toInt ≤ 1 := hr5003
        refine lv_iconst (v := 1) hx hb dX11_saying_23 (by decide) ?_
        have B50 : ∀ (s50_0 : Int32) (s50_1 : Int32) (H : Heap) (locs : List Loc) (ls : Array Slot), (0 : Int) ≤ s50_0.toInt ∧ s50_0.toInt ≤ 32 → (0 : Int) ≤ s50_1.toInt ∧ s50_1.toInt ≤ 63 → va_P G vwCl (mS cs h q F A D B) H → va_S (fun q => s.heap.size ≤ q) s.heap H locs → lv_has ls 5 [(0, .ref h), (1, .int a1), (2, .int a2), (4, .int x5_4)] → W p l e (rmk 1 0 0) s m args below meth c H locs 0 0 (MQ below (QRi (fun r : Int32 => (0 : Int) ≤ r.toInt ∧ r.toInt ≤ 63) s.heap.size) args s 0 0 (fun q => s.heap.size ≤ q)) (F0 m 50 ls [.int s50_0, .int s50_1]) := by
          intro s50_0 s50_1 H locs ls hs50_0 hs50_1 hP hS hl
          refine lv_ior hx hb dX11_saying_50 ?_
          refine lv_topi (fun v30001 ev30001 => ?_)
          have tv30001 : 0 ≤ v30001.toInt ∧ v30001.toInt ≤ 63 := by rw [ev30001]; exact orA 6 rfl rfl (by omega) (by omega) (by decide)
          refine lv_istore_n (lv' := [(3, .int v30001), (0, .ref h), (1, .int a1), (2, .int a2), (4, .int x5_4)]) hx hb dX11_saying_51 rfl hl (by decide) rfl (fun ls hl => ?_)
          obtain ⟨v30002, ev30002⟩ : ∃ z : Int32, z = x5_4 + 1 := ⟨_, rfl⟩
          have tv30002 : v30002.toInt = x5_4.toInt + 1 := by rw [ev30002]; exact addT rfl (by decide) (by omega)
          refine lv_iinc (v := v30002) (lv' := [(4, .int v30002), (3, .int v30001), (0, .ref h), (1, .int a1), (2, .int a2)]) hx hb dX11_saying_52 hl (k := 4) rfl (by rw [ev30002]; rfl) (by decide) rfl (fun ls hl => ?_)
          refine lv_goto (tgt := 5) hx hb dX11_saying_55 (by decide) ?_
          exact ih5 v30001 v30002 H locs ls (by omega) (by omega) (by omega) hP hS (lv_sub hl [2, 3, 4, 1, 0] rfl)
        have B49 : ∀ (s49_0 : Int32) (H : Heap) (locs : List Loc) (ls : Array Slot), (0 : Int) ≤ s49_0.toInt ∧ s49_0.toInt ≤ 63 → va_P G vwCl (mS cs h q F A D B) H → va_S (fun q => s.heap.size ≤ q) s.heap H locs → lv_has ls 5 [(0, .ref h), (1, .int a1), (2, .int a2), (4, .int x5_4)] → W p l e (rmk 1 0 0) s m args below meth c H locs 0 0 (MQ below (QRi (fun r : Int32 => (0 : Int) ≤ r.toInt ∧ r.toInt ≤ 63) s.heap.size) args s 0 0 (fun q => s.heap.size ≤ q)) (F0 m 49 ls [.int s49_0]) := by
          intro s49_0 H locs ls hs49_0 hP hS hl
          refine lv_iconst (v := 0) hx hb dX11_saying_49 (by decide) ?_
          exact B50 0 s49_0 H locs ls (by decide) (by omega) hP hS (lv_sub hl [0, 1, 2, 3] rfl)
        refine lv_icmp_ne (tgt := 49) hx hb dX11_saying_24 (by decide) (fun c5004 => ?_) (fun c5004 => ?_)
        · have zc5004 := neK rfl (show (1 : Int32).toInt = 1 by decide) c5004
          exact B49 x5_3 H locs ls (by omega) hP hS (lv_sub hl [0, 1, 2, 4] rfl)
        · have zc5004 := eqK rfl (show (1 : Int32).toInt = 1 by decide) c5004
          refine lv_aload_n hx hb dX11_saying_27 rfl (lv_at hl 0 rfl) ?_
          refine lv_iload hx hb dX11_saying_28 (lv_at hl 4 rfl) ?_
          refine lv_iconst (v := 1) hx hb dX11_saying_30 (by decide) ?_
          refine behR (runVP (As := [.int x5_4, .int 1]) (rest := [.int x5_3]) ⟨hx, hb, hml, hown, ht⟩ (sX11_ofMan l G cs h q F A D B hI x5_4 1 (by omega) (by decide)) okV_RX11_234 ⟨by decide, by decide⟩ hK hP [0, 1, 2, 3, 4, 5, 6, 7, 8, 9, 10, 11, 12, 13, 14, 15, 16, 17, 18, 19] rfl 0 rfl rfl hl.1 rfl (Nat.le_of_ble_eq_true rfl) dX11_saying_31 ⟨by decide, by decide⟩) hP hS (fun _ h => h) (fun r5005 H locs hr5005 hP hS => ?_)
          have kk5006 : (1 : Int32).toInt = 1 := by decide
          have hr5005 : (0 : Int) ≤ r5005.toInt ∧ r5005.toInt ≤ 99 ∧ ((1 : Int32).toInt = 1 → r5005.toInt ≤ 63) ∧ (2 ≤ (1 : Int32).toInt → r5005.toInt ≤ 9) := hr5005
          refine lv_iload_n hx hb dX11_saying_34 rfl (lv_at hl 2 rfl) ?_
          refine behR (runSP (As := [.int r5005, .int a2]) (rest := [.int x5_3]) ⟨hx, hb, hml, hown, ht⟩ (sX11_bit l G cs r5005 a2 ) okS_RX11_258 ⟨by decide, by decide⟩ hK hP [] rfl hl.1 rfl (Nat.le_of_ble_eq_true rfl) dX11_saying_35 ⟨by decide, by decide⟩) hP hS (fun _ h => h) (fun r5007 H locs hr5007 hP hS => ?_)
          have hr5007 : (0 : Int) ≤ r5007.toInt ∧ r5007.toInt ≤ 1 := hr5007
          refine lv_iconst (v := 1) hx hb dX11_saying_38 (by decide) ?_
          refine lv_icmp_ne (tgt := 49) hx hb dX11_saying_39 (by decide) (fun c5008 => ?_) (fun c5008 => ?_)
          · have zc5008 := neK rfl (show (1 : Int32).toInt = 1 by decide) c5008
            exact B49 x5_3 H locs ls (by omega) hP hS (lv_sub hl [0, 1, 2, 4] rfl)
          · have zc5008 := eqK rfl (show (1 : Int32).toInt = 1 by decide) c5008
            refine lv_iconst (v := 1) hx hb dX11_saying_42 (by decide) ?_
            refine lv_iload hx hb dX11_saying_43 (lv_at hl 4 rfl) ?_
            refine lv_ishl hx hb dX11_saying_45 ?_
            refine lv_topi (fun v5009 ev5009 => ?_)
            have tv5009 : (1 : Int) ≤ v5009.toInt ∧ v5009.toInt ≤ 32 := by rw [ev5009]; exact shlT 5 (by decide) rfl (by omega) (by decide)
            have pv5009 : v5009.toInt = P2 x5_4.toInt := by rw [ev5009]; exact shlP rfl (by omega)
            refine lv_goto (tgt := 50) hx hb dX11_saying_46 (by decide) ?_
            exact B50 v5009 x5_3 H locs ls (by omega) (by omega) hP hS (lv_sub hl [0, 1, 2, 4] rfl)
  exact B5 _ 0 0 s.heap [] ls (Nat.lt_succ_self _) (by decide) (by decide) hP hS (lv_sub hl [2, 3, 4, 1, 0] rfl)

set_option maxRecDepth 100000 in
set_option maxHeartbeats 8000000 in
theorem sX11_askedBy (l : Launch) (G : va_G) (cs : Nat → ClassId) (h : Nat) (q : Nat → Nat) (F : Nat → Int32) (A : Nat → Nat → Int32) (D : Int64) (B : Nat → Nat → Int64) (hI : IM F A) (a1 : Int32) (a2 : Int32) (ha1 : (0 : Int) ≤ a1.toInt ∧ a1.toInt ≤ 63) (ha2 : (0 : Int) ≤ a2.toInt ∧ a2.toInt ≤ 5) : SafeR l yX11_askedBy cX11_askedBy 4 (some .int) 2 G (TY cs) [.ref h, .int a1, .int a2] (mS cs h q F A D B) (fun r : Int32 => True) := by
  refine mkP (Qc := QRi (fun r : Int32 => True)) (by decide) (by simp [lg_sl, Value.category]) ?_
  intro p e s m args below meth c ls hx hb hml hr hlk hown ht hK hP hS hl
  have hl : lv_has ls 4 [(0, .ref h), (1, .int a1), (2, .int a2)] := hl
  refine lv_aload_n hx hb dX11_askedBy_0 rfl (lv_at hl 0 rfl) ?_
  refine lv_iload_n hx hb dX11_askedBy_1 rfl (lv_at hl 1 rfl) ?_
  refine lv_iload_n hx hb dX11_askedBy_2 rfl (lv_at hl 2 rfl) ?_
  refine behR (runVP (As := [.int a1, .int a2]) (rest := []) ⟨hx, hb, hml, hown, ht⟩ (sX11_saying l G cs h q F A D B hI a1 a2 (by omega) (by omega)) okV_RX11_366 ⟨by decide, by decide⟩ hK hP [0, 1, 2, 3, 4, 5, 6, 7, 8, 9, 10, 11, 12, 13, 14, 15, 16, 17, 18, 19] rfl 0 rfl rfl hl.1 rfl (Nat.le_of_ble_eq_true rfl) dX11_askedBy_3 ⟨by decide, by decide⟩) hP hS (fun _ h => h) (fun r1 H locs hr1 hP hS => ?_)
  have hr1 : (0 : Int) ≤ r1.toInt ∧ r1.toInt ≤ 63 := hr1
  refine lv_istore_n (lv' := [(3, .int r1), (0, .ref h), (1, .int a1), (2, .int a2)]) hx hb dX11_askedBy_6 rfl hl (by decide) rfl (fun ls hl => ?_)
  refine lv_iload_n hx hb dX11_askedBy_7 rfl (lv_at hl 0 rfl) ?_
  refine lv_if_eq (tgt := 16) hx hb dX11_askedBy_8 (by decide) (fun c2 => ?_) (fun c2 => ?_)
  · have zc2 := eqK rfl (show (0 : Int32).toInt = 0 by decide) c2
    refine lv_ldcw hx hb hown (ht _ ki_RX11_333) dX11_askedBy_16 ?_
    refine lv_goto (tgt := 43) hx hb dX11_askedBy_19 (by decide) ?_
    exact retRi hx hb hr hlk hS dX11_askedBy_43 (trivial)
  · have zc2 := neK rfl (show (0 : Int32).toInt = 0 by decide) c2
    refine lv_iload_n hx hb dX11_askedBy_11 rfl (lv_at hl 0 rfl) ?_
    refine lv_iload_n hx hb dX11_askedBy_12 rfl (lv_at hl 2 rfl) ?_
    refine lv_icmp_ne (tgt := 22) hx hb dX11_askedBy_13 (by decide) (fun c3 => ?_) (fun c3 => ?_)
    · have zc3 := neK rfl rfl c3
      refine lv_iconst (v := 1) hx hb dX11_askedBy_22 (by decide) ?_
      refine lv_aload_n hx hb dX11_askedBy_23 rfl (lv_at hl 1 rfl) ?_
      refine getF (v := .ref (q 27)) hx hb ht hown hK hP iTX11 0 27 rfl rfl (by decide) fl_RX11_58 rfl dX11_askedBy_24 ?_
      refine lv_iload_n hx hb dX11_askedBy_27 rfl (lv_at hl 0 rfl) ?_
      refine va_iald hx hb hK.1 hP 15 0 rfl rfl (inK rfl (by omega) (by decide)) dX11_askedBy_28 ?_
      refine lv_topi (fun v4 ev4 => ?_)
      refine lv_aload_n hx hb dX11_askedBy_29 rfl (lv_at hl 1 rfl) ?_
      refine getF (v := .ref (q 27)) hx hb ht hown hK hP iTX11 0 27 rfl rfl (by decide) fl_RX11_58 rfl dX11_askedBy_30 ?_
      refine lv_iload_n hx hb dX11_askedBy_33 rfl (lv_at hl 2 rfl) ?_
      refine lv_iload_n hx hb dX11_askedBy_34 rfl (lv_at hl 0 rfl) ?_
      refine lv_iconst (v := (-1)) hx hb dX11_askedBy_35 (by decide) ?_
      refine lv_ixor hx hb dX11_askedBy_36 ?_
      refine lv_topi (fun v5 ev5 => ?_)
      refine lv_iand hx hb dX11_askedBy_37 ?_
      refine lv_topi (fun v6 ev6 => ?_)
      have tv6 : 0 ≤ v6.toInt ∧ v6.toInt ≤ 63 := by rw [ev6]; exact andA 6 rfl (by omega) (by decide)
      refine va_iald hx hb hK.1 hP 15 0 rfl rfl (inK rfl (by omega) (by decide)) dX11_askedBy_38 ?_
      refine lv_topi (fun v7 ev7 => ?_)
      refine va_mmax hx hb (by rw [hml]; exact hl.1.symm) hown (ht _ mth_RX11_369) (ht _ mth_max_st) (ht _ mth_in) (ht _ mth_max_co) (Nat.le_of_ble_eq_true rfl) (Nat.le_of_ble_eq_true rfl) (Nat.zero_le _) (Nat.zero_le _) dX11_askedBy_39 ?_
      refine lv_topi (fun v8 ev8 => ?_)
      have tv8 := maxK (a := v4) (b := v7)
      rw [← ev8] at tv8
      refine lv_iadd hx hb dX11_askedBy_42 ?_
      refine lv_topi (fun v9 ev9 => ?_)
      exact retRi hx hb hr hlk hS dX11_askedBy_43 (trivial)
    · have zc3 := eqK rfl rfl c3
      refine lv_ldcw hx hb hown (ht _ ki_RX11_333) dX11_askedBy_16 ?_
      refine lv_goto (tgt := 43) hx hb dX11_askedBy_19 (by decide) ?_
      exact retRi hx hb hr hlk hS dX11_askedBy_43 (trivial)

set_option maxRecDepth 100000 in
set_option maxHeartbeats 8000000 in
theorem sX11_fillAsked (l : Launch) (G : va_G) (cs : Nat → ClassId) (h : Nat) (q : Nat → Nat) (F : Nat → Int32) (A : Nat → Nat → Int32) (D : Int64) (B : Nat → Nat → Int64) (hI : IM F A) : ImpW l yX11_fillAsked cX11_fillAsked 4 3 0 0 G (TY cs) [.ref h] (mS cs h q F A D B) (fun u : (Nat → Int32) => True) (fun u : (Nat → Int32) => (mS cs h q F (vA A 27 u) D B)) := by
  refine mkD (Qc := (QDw G (fun u : (Nat → Int32) => True) (fun u : (Nat → Int32) => (mS cs h q F (vA A 27 u) D B)))) (by decide) (by simp [lg_sl, Value.category]) ?_
  intro p e s m args below meth c ls A0 hx hb hml hr hlk hown hmn ht hK hP hD hS hA hl
  have hl : lv_has ls 4 [(0, .ref h)] := hl
  refine lv_iconst (v := 0) hx hb dX11_fillAsked_0 (by decide) ?_
  refine lv_istore_n (lv' := [(1, .int 0), (0, .ref h)]) hx hb dX11_fillAsked_1 rfl hl (by decide) rfl (fun ls hl => ?_)
  have B2 : ∀ (n : Nat) (x2_1 : Int32) (a27_2 : (Nat → Int32)) (H : Heap) (locs : List Loc) (ls : Array Slot), (64 - x2_1.toInt).toNat < n → (0 : Int) ≤ x2_1.toInt ∧ x2_1.toInt ≤ 64 → va_P G vwCl (mS cs h q F (vA A 27 a27_2) D B) H → va_D A0 (mS cs h q F (vA A 27 a27_2) D B) → va_S A0 s.heap H locs → lv_has ls 4 [(0, .ref h), (1, .int x2_1)] → W p l e (rmk 3 0 0) s m args below meth c H locs 0 0 (MQ below ((QDw G (fun u : (Nat → Int32) => True) (fun u : (Nat → Int32) => (mS cs h q F (vA A 27 u) D B))) A0) args s 0 0 A0) (F0 m 2 ls []) := by
    intro n
    induction n with
    | zero => intro x2_1 a27_2 H locs ls hmeas hx2_1 hP hD hS hl; exact absurd hmeas (Nat.not_lt_zero _)
    | succ n ih2 =>
      intro x2_1 a27_2 H locs ls hmeas hx2_1 hP hD hS hl
      refine lv_iload_n hx hb dX11_fillAsked_2 rfl (lv_at hl 1 rfl) ?_
      refine lv_iconst (v := 1) hx hb dX11_fillAsked_3 (by decide) ?_
      refine lv_aload_n hx hb dX11_fillAsked_4 rfl (lv_at hl 0 rfl) ?_
      refine getF (v := .ref (q 1)) hx hb ht hown hK hP iTX11 0 1 rfl rfl (by decide) fl_RX11_9 rfl dX11_fillAsked_5 ?_
      refine lv_iconst (v := 5) hx hb dX11_fillAsked_8 (by decide) ?_
      refine va_iald hx hb hK.1 hP 1 0 rfl rfl (show ¬ (_ ∨ _) by decide) dX11_fillAsked_9 ?_
      refine W.eq (g2 := F0 m 10 ls [.int (A 1 5), .int 1, .int x2_1]) rfl ?_
      have zf3001 : (0 : Int) ≤ (A 1 5).toInt ∧ (A 1 5).toInt ≤ 6 := (hI.2 1 5)
      refine lv_ishl hx hb dX11_fillAsked_10 ?_
      refine lv_topi (fun v3002 ev3002 => ?_)
      have tv3002 : (1 : Int) ≤ v3002.toInt ∧ v3002.toInt ≤ 64 := by rw [ev3002]; exact shlT 6 (by decide) rfl (by omega) (by decide)
      have pv3002 : v3002.toInt = P2 (A 1 5).toInt := by rw [ev3002]; exact shlP rfl (by omega)
      refine lv_icmp_ge (tgt := 72) hx hb dX11_fillAsked_11 (by decide) (fun c3003 => ?_) (fun c3003 => ?_)
      · have zc3003 := leK rfl rfl c3003
        exact retDw a27_2 hx hb hr hlk hP hD hS dX11_fillAsked_72 (trivial) (Nat.le_of_ble_eq_true rfl) (Nat.le_of_ble_eq_true rfl)
      · have zc3003 := nleK rfl rfl c3003
        refine lv_iload_n hx hb dX11_fillAsked_14 rfl (lv_at hl 1 rfl) ?_
        refine behR (runSP (As := [.int x2_1]) (rest := []) ⟨hx, hb, hml, hown, ht⟩ (sX11_bits l G cs x2_1 ) okS_RX11_255 ⟨by decide, by decide⟩ hK hP [] rfl hl.1 rfl (Nat.le_of_ble_eq_true rfl) dX11_fillAsked_15 ⟨by decide, by decide⟩) hP hS hA (fun r3004 H locs hr3004 hP hS => ?_)
        refine lv_iconst (v := 1) hx hb dX11_fillAsked_18 (by decide) ?_
        have B29 : ∀ (s29_0 : Int32) (H : Heap) (locs : List Loc) (ls : Array Slot), (0 : Int) ≤ s29_0.toInt ∧ s29_0.toInt ≤ 1000000000 → va_P G vwCl (mS cs h q F (vA A 27 a27_2) D B) H → va_D A0 (mS cs h q F (vA A 27 a27_2) D B) → va_S A0 s.heap H locs → lv_has ls 4 [(0, .ref h), (1, .int x2_1)] → W p l e (rmk 3 0 0) s m args below meth c H locs 0 0 (MQ below ((QDw G (fun u : (Nat → Int32) => True) (fun u : (Nat → Int32) => (mS cs h q F (vA A 27 u) D B))) A0) args s 0 0 A0) (F0 m 29 ls [.int s29_0]) := by
          intro s29_0 H locs ls hs29_0 hP hD hS hl
          refine lv_istore_n (lv' := [(2, .int s29_0), (0, .ref h), (1, .int x2_1)]) hx hb dX11_fillAsked_29 rfl hl (by decide) rfl (fun ls hl => ?_)
          refine lv_iconst (v := 0) hx hb dX11_fillAsked_30 (by decide) ?_
          refine lv_istore_n (lv' := [(3, .int 0), (2, .int s29_0), (0, .ref h), (1, .int x2_1)]) hx hb dX11_fillAsked_31 rfl hl (by decide) rfl (fun ls hl => ?_)
          have B32 : ∀ (n : Nat) (x32_2 : Int32) (x32_3 : Int32) (H : Heap) (locs : List Loc) (ls : Array Slot), (6 - x32_3.toInt).toNat < n → x32_2.toInt ≤ 1000000000 → (0 : Int) ≤ x32_3.toInt ∧ x32_3.toInt ≤ 6 → va_P G vwCl (mS cs h q F (vA A 27 a27_2) D B) H → va_D A0 (mS cs h q F (vA A 27 a27_2) D B) → va_S A0 s.heap H locs → lv_has ls 4 [(0, .ref h), (1, .int x2_1), (2, .int x32_2), (3, .int x32_3)] → W p l e (rmk 3 0 0) s m args below meth c H locs 0 0 (MQ below ((QDw G (fun u : (Nat → Int32) => True) (fun u : (Nat → Int32) => (mS cs h q F (vA A 27 u) D B))) A0) args s 0 0 A0) (F0 m 32 ls []) := by
            intro n
            induction n with
            | zero => intro x32_2 x32_3 H locs ls hmeas hx32_2 hx32_3 hP hD hS hl; exact absurd hmeas (Nat.not_lt_zero _)
            | succ n ih32 =>
              intro x32_2 x32_3 H locs ls hmeas hx32_2 hx32_3 hP hD hS hl
              refine lv_iload_n hx hb dX11_fillAsked_32 rfl (lv_at hl 3 rfl) ?_
              refine lv_bipush (v := 6) hx hb dX11_fillAsked_33 (by decide) ?_
              have B59 : ∀ (H : Heap) (locs : List Loc) (ls : Array Slot), va_P G vwCl (mS cs h q F (vA A 27 a27_2) D B) H → va_D A0 (mS cs h q F (vA A 27 a27_2) D B) → va_S A0 s.heap H locs → lv_has ls 4 [(0, .ref h), (1, .int x2_1), (2, .int x32_2)] → W p l e (rmk 3 0 0) s m args below meth c H locs 0 0 (MQ below ((QDw G (fun u : (Nat → Int32) => True) (fun u : (Nat → Int32) => (mS cs h q F (vA A 27 u) D B))) A0) args s 0 0 A0) (F0 m 59 ls []) := by
                intro H locs ls hP hD hS hl
                refine lv_aload_n hx hb dX11_fillAsked_59 rfl (lv_at hl 0 rfl) ?_
                refine getF (v := .ref (q 27)) hx hb ht hown hK hP iTX11 0 27 rfl rfl (by decide) fl_RX11_58 rfl dX11_fillAsked_60 ?_
                refine lv_iload_n hx hb dX11_fillAsked_63 rfl (lv_at hl 1 rfl) ?_
                refine lv_iload_n hx hb dX11_fillAsked_64 rfl (lv_at hl 2 rfl) ?_
                refine va_iast hx hb hK.1 hP hD hS 15 0 rfl rfl (inK rfl (by omega) (by decide)) dX11_fillAsked_65 (fun H locs hP hD hS => ?_)
                obtain ⟨g35001, hP, hD⟩ : ∃ g35001 : Nat → Int32, va_P G vwCl (mS cs h q F (vA A 27 g35001) D B) H ∧ va_D A0 (mS cs h q F (vA A 27 g35001) D B) := ⟨upd a27_2 x2_1.toNatClampNeg x32_2, hP, hD⟩
                obtain ⟨v35002, ev35002⟩ : ∃ z : Int32, z = x2_1 + 1 := ⟨_, rfl⟩
                have tv35002 : v35002.toInt = x2_1.toInt + 1 := by rw [ev35002]; exact addT rfl (by decide) (by omega)
                refine lv_iinc (v := v35002) (lv' := [(1, .int v35002), (0, .ref h), (2, .int x32_2)]) hx hb dX11_fillAsked_66 hl (k := 1) rfl (by rw [ev35002]; rfl) (by decide) rfl (fun ls hl => ?_)
                refine lv_goto (tgt := 2) hx hb dX11_fillAsked_69 (by decide) ?_
                exact ih2 v35002 g35001 H locs ls (by omega) (by omega) hP hD hS (lv_sub hl [1, 0] rfl)
              refine lv_icmp_ge (tgt := 59) hx hb dX11_fillAsked_35 (by decide) (fun c21001 => ?_) (fun c21001 => ?_)
              · have zc21001 := leK (show (6 : Int32).toInt = 6 by decide) rfl c21001
                exact B59 H locs ls hP hD hS (lv_sub hl [0, 1, 2] rfl)
              · have zc21001 := nleK (show (6 : Int32).toInt = 6 by decide) rfl c21001
                refine lv_iload_n hx hb dX11_fillAsked_38 rfl (lv_at hl 2 rfl) ?_
                refine lv_if_le (tgt := 59) hx hb dX11_fillAsked_39 (by decide) (fun c21002 => ?_) (fun c21002 => ?_)
                · have zc21002 := leK rfl (show (0 : Int32).toInt = 0 by decide) c21002
                  exact B59 H locs ls hP hD hS (lv_sub hl [0, 1, 2] rfl)
                · have zc21002 := nleK rfl (show (0 : Int32).toInt = 0 by decide) c21002
                  refine lv_iload_n hx hb dX11_fillAsked_42 rfl (lv_at hl 2 rfl) ?_
                  refine lv_aload_n hx hb dX11_fillAsked_43 rfl (lv_at hl 0 rfl) ?_
                  refine lv_iload_n hx hb dX11_fillAsked_44 rfl (lv_at hl 1 rfl) ?_
                  refine lv_iload_n hx hb dX11_fillAsked_45 rfl (lv_at hl 3 rfl) ?_
                  refine behR (runVP (As := [.int x2_1, .int x32_3]) (rest := [.int x32_2]) ⟨hx, hb, hml, hown, ht⟩ (sX11_askedBy l G cs h q F (vA A 27 a27_2) D B (IM_arr (k := 27) hI (fun _ => i32b _)) x2_1 x32_3 (by omega) (by omega)) okV_RX11_372 ⟨by decide, by decide⟩ hK hP [0, 1, 2, 3, 4, 5, 6, 7, 8, 9, 10, 11, 12, 13, 14, 15, 16, 17, 18, 19] rfl 0 rfl rfl hl.1 rfl (Nat.le_of_ble_eq_true rfl) dX11_fillAsked_46 ⟨by decide, by decide⟩) hP hS hA (fun r21003 H locs hr21003 hP hS => ?_)
                  refine va_mmin hx hb (by rw [hml]; exact hl.1.symm) hown (ht _ mth_RX11_124) (ht _ mth_min_st) (ht _ mth_in) (ht _ mth_min_co) (Nat.le_of_ble_eq_true rfl) (Nat.le_of_ble_eq_true rfl) (Nat.zero_le _) (Nat.zero_le _) dX11_fillAsked_49 ?_
                  refine lv_topi (fun v21004 ev21004 => ?_)
                  have tv21004 := minK (a := x32_2) (b := r21003)
                  rw [← ev21004] at tv21004
                  refine lv_istore_n (lv' := [(2, .int v21004), (0, .ref h), (1, .int x2_1), (3, .int x32_3)]) hx hb dX11_fillAsked_52 rfl hl (by decide) rfl (fun ls hl => ?_)
                  obtain ⟨v21005, ev21005⟩ : ∃ z : Int32, z = x32_3 + 1 := ⟨_, rfl⟩
                  have tv21005 : v21005.toInt = x32_3.toInt + 1 := by rw [ev21005]; exact addT rfl (by decide) (by omega)
                  refine lv_iinc (v := v21005) (lv' := [(3, .int v21005), (2, .int v21004), (0, .ref h), (1, .int x2_1)]) hx hb dX11_fillAsked_53 hl (k := 3) rfl (by rw [ev21005]; rfl) (by decide) rfl (fun ls hl => ?_)
                  refine lv_goto (tgt := 32) hx hb dX11_fillAsked_56 (by decide) ?_
                  exact ih32 v21004 v21005 H locs ls (by omega) (by omega) (by omega) hP hD hS (lv_sub hl [2, 3, 1, 0] rfl)
          exact B32 _ s29_0 0 H locs ls (Nat.lt_succ_self _) (by omega) (by decide) hP hD hS (lv_sub hl [2, 3, 1, 0] rfl)
        refine lv_icmp_gt (tgt := 26) hx hb dX11_fillAsked_19 (by decide) (fun c3005 => ?_) (fun c3005 => ?_)
        · have zc3005 := ltK (show (1 : Int32).toInt = 1 by decide) rfl c3005
          refine lv_ldcw hx hb hown (ht _ ki_RX11_333) dX11_fillAsked_26 ?_
          exact B29 1000000000 H locs ls (by decide) hP hD hS (lv_sub hl [0, 1] rfl)
        · have zc3005 := nltK (show (1 : Int32).toInt = 1 by decide) rfl c3005
          refine lv_iconst (v := 0) hx hb dX11_fillAsked_22 (by decide) ?_
          refine lv_goto (tgt := 29) hx hb dX11_fillAsked_23 (by decide) ?_
          exact B29 0 H locs ls (by decide) hP hD hS (lv_sub hl [0, 1] rfl)
  exact B2 _ 0 (A 27) s.heap [] ls (Nat.lt_succ_self _) (by decide) hP hD hS (lv_sub hl [1, 0] rfl)

set_option maxRecDepth 100000 in
set_option maxHeartbeats 8000000 in
theorem sX11_which (l : Launch) (G : va_G) (cs : Nat → ClassId) (h : Nat) (q : Nat → Nat) (F : Nat → Int32) (A : Nat → Nat → Int32) (D : Int64) (B : Nat → Nat → Int64) (hI : IM F A) (a1 : Int32) : ImpI l yX11_which cX11_which 2 (some .int) 4 0 0 G (TY cs) [.ref h, .int a1] (mS cs h q F A D B) (fun (r : Int32) (u : (Nat → Int32)) => True) (fun u : (Nat → Int32) => (mS cs h q F (vA A 27 u) D B)) := by
  refine mkD (Qc := (QDi G (fun (r : Int32) (u : (Nat → Int32)) => True) (fun u : (Nat → Int32) => (mS cs h q F (vA A 27 u) D B)))) (by decide) (by simp [lg_sl, Value.category]) ?_
  intro p e s m args below meth c ls A0 hx hb hml hr hlk hown hmn ht hK hP hD hS hA hl
  have hl : lv_has ls 2 [(0, .ref h), (1, .int a1)] := hl
  refine lv_aload_n hx hb dX11_which_0 rfl (lv_at hl 0 rfl) ?_
  refine lv_iload_n hx hb dX11_which_1 rfl (lv_at hl 1 rfl) ?_
  refine behR (runVP (As := [.int a1]) (rest := []) ⟨hx, hb, hml, hown, ht⟩ (sX11_areMen l G cs h q F A D B hI a1 ) okV_RX11_375 ⟨by decide, by decide⟩ hK hP [0, 1, 2, 3, 4, 5, 6, 7, 8, 9, 10, 11, 12, 13, 14, 15, 16, 17, 18, 19] rfl 0 rfl rfl hl.1 rfl (Nat.le_of_ble_eq_true rfl) dX11_which_2 ⟨by decide, by decide⟩) hP hS hA (fun r1 H locs hr1 hP hS => ?_)
  have hr1 : (r1.toInt = 1 ∧ 1 ≤ a1.toInt ∧ a1.toInt ≤ 63) ∨ r1.toInt = 0 := hr1
  refine lv_if_ne (tgt := 11) hx hb dX11_which_5 (by decide) (fun c2 => ?_) (fun c2 => ?_)
  · have zc2 := neK rfl (show (0 : Int32).toInt = 0 by decide) c2
    refine lv_aload_n hx hb dX11_which_11 rfl (lv_at hl 0 rfl) ?_
    refine behDw (wr := []) (runVD (As := []) (rest := []) ⟨hx, hb, hml, hown, ht⟩ (sX11_fillAsked l G cs h q F A D B hI  ) okV_RX11_378 ⟨by decide, by decide⟩ hK hP hD [0, 1, 2, 3, 4, 5, 6, 7, 8, 9, 10, 11, 12, 13, 14, 15, 16, 17, 18, 19] rfl (by decide) rfl 0 rfl rfl hl.1 rfl (Nat.le_of_ble_eq_true rfl) dX11_which_12 ⟨(Nat.le_of_ble_eq_true rfl), (Nat.le_of_ble_eq_true rfl)⟩) hP hD hS hA [0, 1, 2, 3, 4, 5, 6, 7, 8, 9, 10, 11, 12, 13, 14, 15, 16, 17, 18, 19] [] rfl rfl (by decide) (by decide) (fun u H locs hu hP hD hS => ?_)
    obtain ⟨g3, rfl⟩ : ∃ z, z = u := ⟨_, rfl⟩
    have hr4 := hu
    have hP : va_P G vwCl (mS cs h q F (vA A 27 g3) D B) H := hP
    have hD : va_D A0 (mS cs h q F (vA A 27 g3) D B) := hD
    refine lv_aload_n hx hb dX11_which_15 rfl (lv_at hl 0 rfl) ?_
    refine getF (v := .ref (q 27)) hx hb ht hown hK hP iTX11 0 27 rfl rfl (by decide) fl_RX11_58 rfl dX11_which_16 ?_
    refine lv_iload_n hx hb dX11_which_19 rfl (lv_at hl 1 rfl) ?_
    refine va_iald hx hb hK.1 hP 15 0 rfl rfl (inK rfl (by omega) (by decide)) dX11_which_20 ?_
    refine lv_topi (fun v5 ev5 => ?_)
    refine lv_ldcw hx hb hown (ht _ ki_RX11_333) dX11_which_21 ?_
    refine lv_icmp_lt (tgt := 31) hx hb dX11_which_24 (by decide) (fun c6 => ?_) (fun c6 => ?_)
    · have zc6 := ltK rfl (show (1000000000 : Int32).toInt = 1000000000 by decide) c6
      refine lv_aload_n hx hb dX11_which_31 rfl (lv_at hl 0 rfl) ?_
      refine getF (v := .ref (q 27)) hx hb ht hown hK hP iTX11 0 27 rfl rfl (by decide) fl_RX11_58 rfl dX11_which_32 ?_
      refine lv_iload_n hx hb dX11_which_35 rfl (lv_at hl 1 rfl) ?_
      refine va_iald hx hb hK.1 hP 15 0 rfl rfl (inK rfl (by omega) (by decide)) dX11_which_36 ?_
      refine lv_topi (fun v7 ev7 => ?_)
      exact retDi g3 hx hb hr hlk hP hD hS dX11_which_37 (trivial) (Nat.le_of_ble_eq_true rfl) (Nat.le_of_ble_eq_true rfl)
    · have zc6 := nltK rfl (show (1000000000 : Int32).toInt = 1000000000 by decide) c6
      refine lv_iconst (v := (-1)) hx hb dX11_which_27 (by decide) ?_
      refine lv_goto (tgt := 37) hx hb dX11_which_28 (by decide) ?_
      exact retDi g3 hx hb hr hlk hP hD hS dX11_which_37 (trivial) (Nat.le_of_ble_eq_true rfl) (Nat.le_of_ble_eq_true rfl)
  · have zc2 := eqK rfl (show (0 : Int32).toInt = 0 by decide) c2
    refine lv_bipush (v := (-2)) hx hb dX11_which_8 (by decide) ?_
    exact retDi (A 27) hx hb hr hlk hP hD hS dX11_which_10 (trivial) (Nat.le_of_ble_eq_true rfl) (Nat.le_of_ble_eq_true rfl)

