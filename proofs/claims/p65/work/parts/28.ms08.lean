set_option maxRecDepth 100000 in
set_option maxHeartbeats 8000000 in
theorem sX11_desk (l : Launch) (G : va_G) (cs : Nat → ClassId) (h : Nat) (q : Nat → Nat) (F : Nat → Int32) (A : Nat → Nat → Int32) (D : Int64) (B : Nat → Nat → Int64) (hI : IM F A) (a1 : Int32) : ImpI l yX11_desk cX11_desk 6 (some .int) 6 0 0 G (TY cs) [.ref h, .int a1] (mS cs h q F A D B) (fun (r : Int32) (u : Int32 × Int32 × (Nat → Int32) × (Nat → Int32)) => True) (fun u : Int32 × Int32 × (Nat → Int32) × (Nat → Int32) => (mS cs h q (upd (upd F 17 u.1) 18 u.2.1) (vA (vA A 15 u.2.2.1) 16 u.2.2.2) D B)) := by
  refine mkD (Qc := (QDi G (fun (r : Int32) (u : Int32 × Int32 × (Nat → Int32) × (Nat → Int32)) => True) (fun u : Int32 × Int32 × (Nat → Int32) × (Nat → Int32) => (mS cs h q (upd (upd F 17 u.1) 18 u.2.1) (vA (vA A 15 u.2.2.1) 16 u.2.2.2) D B)))) (by decide) (by simp [lg_sl, Value.category]) ?_
  intro p e s m args below meth c ls A0 hx hb hml hr hlk hown hmn ht hK hP hD hS hA hl
  have hl : lv_has ls 6 [(0, .ref h), (1, .int a1)] := hl
  refine lv_aload_n hx hb dX11_desk_0 rfl (lv_at hl 0 rfl) ?_
  refine getF (v := .ref (q 1)) hx hb ht hown hK hP iTX11 0 1 rfl rfl (by decide) fl_RX11_9 rfl dX11_desk_1 ?_
  refine lv_iconst (v := 4) hx hb dX11_desk_4 (by decide) ?_
  refine va_iald hx hb hK.1 hP 1 0 rfl rfl (show ¬ (_ ∨ _) by decide) dX11_desk_5 ?_
  refine W.eq (g2 := F0 m 6 ls [.int (A 1 4)]) rfl ?_
  have zf1 : (0 : Int) ≤ (A 1 4).toInt ∧ (A 1 4).toInt ≤ 7 := (hI.2 1 4)
  refine lv_if_eq (tgt := 21) hx hb dX11_desk_6 (by decide) (fun c2 => ?_) (fun c2 => ?_)
  · have zc2 := eqK rfl (show (0 : Int32).toInt = 0 by decide) c2
    refine lv_bipush (v := (-2)) hx hb dX11_desk_21 (by decide) ?_
    exact retDi ((F 17), (F 18), (A 15), (A 16)) hx hb hr hlk hP hD hS dX11_desk_23 (trivial) (Nat.le_of_ble_eq_true rfl) (Nat.le_of_ble_eq_true rfl)
  · have zc2 := neK rfl (show (0 : Int32).toInt = 0 by decide) c2
    refine lv_iload_n hx hb dX11_desk_9 rfl (lv_at hl 1 rfl) ?_
    refine lv_i2l hx hb dX11_desk_10 rfl ?_
    have bb3 := i32b a1
    refine lv_topl (fun v4 ev4 => ?_)
    have tv4 : v4.toInt = a1.toInt := by rw [ev4]; exact Int32.toInt_toInt64 _
    refine lv_lconst (v := 0) hx hb dX11_desk_11 (by decide) ?_
    refine lv_ldc2 hx hb hown (ht _ kl_RX11_284) dX11_desk_12 ?_
    refine behR (runSP (As := [.long v4, .long 0, .long 200]) (rest := []) ⟨hx, hb, hml, hown, ht⟩ (sX11_in l G cs v4 0 200 ) okS_RX11_79 ⟨by decide, by decide⟩ hK hP [] rfl hl.1 rfl (Nat.le_of_ble_eq_true rfl) dX11_desk_15 ⟨by decide, by decide⟩) hP hS hA (fun r5 H locs hr5 hP hS => ?_)
    have kk6 : (0 : Int64).toInt = 0 := by decide
    have kk7 : (200 : Int64).toInt = 200 := by decide
    have hr5 : (r5.toInt = 1 ∧ (0 : Int64).toInt ≤ v4.toInt ∧ v4.toInt ≤ (200 : Int64).toInt) ∨ (r5.toInt = 0 ∧ (v4.toInt < (0 : Int64).toInt ∨ (200 : Int64).toInt < v4.toInt)) := hr5
    refine lv_if_ne (tgt := 24) hx hb dX11_desk_18 (by decide) (fun c8 => ?_) (fun c8 => ?_)
    · have zc8 := neK rfl (show (0 : Int32).toInt = 0 by decide) c8
      refine lv_iconst (v := (-1)) hx hb dX11_desk_24 (by decide) ?_
      refine lv_istore_n (lv' := [(2, .int (-1)), (0, .ref h), (1, .int a1)]) hx hb dX11_desk_25 rfl hl (by decide) rfl (fun ls hl => ?_)
      refine lv_iconst (v := (-1)) hx hb dX11_desk_26 (by decide) ?_
      refine lv_istore_n (lv' := [(3, .int (-1)), (2, .int (-1)), (0, .ref h), (1, .int a1)]) hx hb dX11_desk_27 rfl hl (by decide) rfl (fun ls hl => ?_)
      refine lv_iconst (v := 0) hx hb dX11_desk_28 (by decide) ?_
      refine lv_istore (lv' := [(4, .int 0), (3, .int (-1)), (2, .int (-1)), (0, .ref h), (1, .int a1)]) hx hb dX11_desk_29 hl (by decide) rfl (fun ls hl => ?_)
      have B31 : ∀ (n : Nat) (x31_2 : Int32) (x31_3 : Int32) (x31_4 : Int32) (f17_31 : Int32) (f18_31 : Int32) (a15_31 : (Nat → Int32)) (a16_31 : (Nat → Int32)) (H : Heap) (locs : List Loc) (ls : Array Slot), (7 - x31_4.toInt).toNat < n → (-1 : Int) ≤ x31_2.toInt ∧ x31_2.toInt ≤ 6 → (-1 : Int) ≤ x31_3.toInt → (0 : Int) ≤ x31_4.toInt ∧ x31_4.toInt ≤ 7 → va_P G vwCl (mS cs h q (upd (upd F 17 f17_31) 18 f18_31) (vA (vA A 15 a15_31) 16 a16_31) D B) H → va_D A0 (mS cs h q (upd (upd F 17 f17_31) 18 f18_31) (vA (vA A 15 a15_31) 16 a16_31) D B) → va_S A0 s.heap H locs → lv_has ls 6 [(0, .ref h), (1, .int a1), (2, .int x31_2), (3, .int x31_3), (4, .int x31_4)] → W p l e (rmk 6 0 0) s m args below meth c H locs 0 0 (MQ below ((QDi G (fun (r : Int32) (u : Int32 × Int32 × (Nat → Int32) × (Nat → Int32)) => True) (fun u : Int32 × Int32 × (Nat → Int32) × (Nat → Int32) => (mS cs h q (upd (upd F 17 u.1) 18 u.2.1) (vA (vA A 15 u.2.2.1) 16 u.2.2.2) D B))) A0) args s 0 0 A0) (F0 m 31 ls []) := by
        intro n
        induction n with
        | zero => intro x31_2 x31_3 x31_4 f17_31 f18_31 a15_31 a16_31 H locs ls hmeas hx31_2 hx31_3 hx31_4 hP hD hS hl; exact absurd hmeas (Nat.not_lt_zero _)
        | succ n ih31 =>
          intro x31_2 x31_3 x31_4 f17_31 f18_31 a15_31 a16_31 H locs ls hmeas hx31_2 hx31_3 hx31_4 hP hD hS hl
          refine lv_iload hx hb dX11_desk_31 (lv_at hl 4 rfl) ?_
          refine lv_aload_n hx hb dX11_desk_33 rfl (lv_at hl 0 rfl) ?_
          refine getF (v := .ref (q 1)) hx hb ht hown hK hP iTX11 0 1 rfl rfl (by decide) fl_RX11_9 rfl dX11_desk_34 ?_
          refine lv_iconst (v := 4) hx hb dX11_desk_37 (by decide) ?_
          refine va_iald hx hb hK.1 hP 1 0 rfl rfl (show ¬ (_ ∨ _) by decide) dX11_desk_38 ?_
          refine W.eq (g2 := F0 m 39 ls [.int (A 1 4), .int x31_4]) rfl ?_
          have zf18001 : (0 : Int) ≤ (A 1 4).toInt ∧ (A 1 4).toInt ≤ 7 := (hI.2 1 4)
          refine lv_icmp_ge (tgt := 72) hx hb dX11_desk_39 (by decide) (fun c18002 => ?_) (fun c18002 => ?_)
          · have zc18002 := leK rfl rfl c18002
            refine lv_iload_n hx hb dX11_desk_72 rfl (lv_at hl 2 rfl) ?_
            exact retDi (f17_31, f18_31, a15_31, a16_31) hx hb hr hlk hP hD hS dX11_desk_73 (trivial) (Nat.le_of_ble_eq_true rfl) (Nat.le_of_ble_eq_true rfl)
          · have zc18002 := nleK rfl rfl c18002
            refine lv_aload_n hx hb dX11_desk_42 rfl (lv_at hl 0 rfl) ?_
            refine lv_iload hx hb dX11_desk_43 (lv_at hl 4 rfl) ?_
            refine lv_iload_n hx hb dX11_desk_45 rfl (lv_at hl 1 rfl) ?_
            refine behDi (wr := []) (runVD (As := [.int x31_4, .int a1]) (rest := []) ⟨hx, hb, hml, hown, ht⟩ (sX11_cardIn l G cs h q (upd (upd F 17 f17_31) 18 f18_31) (vA (vA A 15 a15_31) 16 a16_31) D B (IM_arr (k := 16) (IM_arr (k := 15) (IM_put (k := 18) (IM_put (k := 17) hI (i32b _)) (i32b _)) (fun _ => i32b _)) (fun _ => i32b _)) x31_4 a1 (by omega) (by omega)) okV_RX11_343 ⟨by decide, by decide⟩ hK hP hD [0, 1, 2, 3, 4, 5, 6, 7, 8, 9, 10, 11, 12, 13, 14, 15, 16, 17, 18, 19] rfl (by decide) rfl 0 rfl rfl hl.1 rfl (Nat.le_of_ble_eq_true rfl) dX11_desk_46 ⟨(Nat.le_of_ble_eq_true rfl), (Nat.le_of_ble_eq_true rfl)⟩) hP hD hS hA [0, 1, 2, 3, 4, 5, 6, 7, 8, 9, 10, 11, 12, 13, 14, 15, 16, 17, 18, 19] [] rfl rfl (by decide) (by decide) (fun r9 u H locs hu hP hD hS => ?_)
            obtain ⟨x18003, x18004, g18005, g18006⟩ := u
            obtain ⟨r18007, rfl⟩ : ∃ z, z = r9 := ⟨_, rfl⟩
            have hr18007 := hu
            have hP : va_P G vwCl (mS cs h q (upd (upd F 17 x18003) 18 x18004) (vA (vA A 15 g18005) 16 g18006) D B) H := hP
            have hD : va_D A0 (mS cs h q (upd (upd F 17 x18003) 18 x18004) (vA (vA A 15 g18005) 16 g18006) D B) := hD
            refine lv_istore (lv' := [(5, .int r18007), (0, .ref h), (1, .int a1), (2, .int x31_2), (3, .int x31_3), (4, .int x31_4)]) hx hb dX11_desk_49 hl (by decide) rfl (fun ls hl => ?_)
            refine lv_iload hx hb dX11_desk_51 (lv_at hl 0 rfl) ?_
            refine lv_iload_n hx hb dX11_desk_53 rfl (lv_at hl 4 rfl) ?_
            have B66 : ∀ (x66_2 : Int32) (x66_3 : Int32) (H : Heap) (locs : List Loc) (ls : Array Slot), (-1 : Int) ≤ x66_2.toInt ∧ x66_2.toInt ≤ 6 → (-1 : Int) ≤ x66_3.toInt → va_P G vwCl (mS cs h q (upd (upd F 17 x18003) 18 x18004) (vA (vA A 15 g18005) 16 g18006) D B) H → va_D A0 (mS cs h q (upd (upd F 17 x18003) 18 x18004) (vA (vA A 15 g18005) 16 g18006) D B) → va_S A0 s.heap H locs → lv_has ls 6 [(0, .ref h), (1, .int a1), (2, .int x66_2), (3, .int x66_3), (4, .int x31_4)] → W p l e (rmk 6 0 0) s m args below meth c H locs 0 0 (MQ below ((QDi G (fun (r : Int32) (u : Int32 × Int32 × (Nat → Int32) × (Nat → Int32)) => True) (fun u : Int32 × Int32 × (Nat → Int32) × (Nat → Int32) => (mS cs h q (upd (upd F 17 u.1) 18 u.2.1) (vA (vA A 15 u.2.2.1) 16 u.2.2.2) D B))) A0) args s 0 0 A0) (F0 m 66 ls []) := by
              intro x66_2 x66_3 H locs ls hx66_2 hx66_3 hP hD hS hl
              obtain ⟨v37001, ev37001⟩ : ∃ z : Int32, z = x31_4 + 1 := ⟨_, rfl⟩
              have tv37001 : v37001.toInt = x31_4.toInt + 1 := by rw [ev37001]; exact addT rfl (by decide) (by omega)
              refine lv_iinc (v := v37001) (lv' := [(4, .int v37001), (0, .ref h), (1, .int a1), (2, .int x66_2), (3, .int x66_3)]) hx hb dX11_desk_66 hl (k := 4) rfl (by rw [ev37001]; rfl) (by decide) rfl (fun ls hl => ?_)
              refine lv_goto (tgt := 31) hx hb dX11_desk_69 (by decide) ?_
              exact ih31 x66_2 x66_3 v37001 x18003 x18004 g18005 g18006 H locs ls (by omega) (by omega) (by omega) (by omega) hP hD hS (lv_sub hl [1, 2, 3, 4, 0] rfl)
            refine lv_icmp_gt (tgt := 60) hx hb dX11_desk_54 (by decide) (fun c18008 => ?_) (fun c18008 => ?_)
            · have zc18008 := ltK rfl rfl c18008
              refine lv_iload hx hb dX11_desk_60 (lv_at hl 0 rfl) ?_
              refine lv_istore_n (lv' := [(3, .int r18007), (5, .int r18007), (0, .ref h), (1, .int a1), (2, .int x31_2), (4, .int x31_4)]) hx hb dX11_desk_62 rfl hl (by decide) rfl (fun ls hl => ?_)
              refine lv_iload hx hb dX11_desk_63 (lv_at hl 5 rfl) ?_
              refine lv_istore_n (lv' := [(2, .int x31_4), (3, .int r18007), (5, .int r18007), (0, .ref h), (1, .int a1), (4, .int x31_4)]) hx hb dX11_desk_65 rfl hl (by decide) rfl (fun ls hl => ?_)
              exact B66 x31_4 r18007 H locs ls (by omega) (by omega) hP hD hS (lv_sub hl [3, 4, 0, 1, 5] rfl)
            · have zc18008 := nltK rfl rfl c18008
              refine lv_goto (tgt := 66) hx hb dX11_desk_57 (by decide) ?_
              exact B66 x31_2 x31_3 H locs ls (by omega) (by omega) hP hD hS (lv_sub hl [1, 2, 3, 4, 5] rfl)
      exact B31 _ (-1) (-1) 0 (F 17) (F 18) (A 15) (A 16) H locs ls (Nat.lt_succ_self _) (by decide) (by decide) (by decide) hP hD hS (lv_sub hl [3, 4, 2, 1, 0] rfl)
    · have zc8 := eqK rfl (show (0 : Int32).toInt = 0 by decide) c8
      refine lv_bipush (v := (-2)) hx hb dX11_desk_21 (by decide) ?_
      exact retDi ((F 17), (F 18), (A 15), (A 16)) hx hb hr hlk hP hD hS dX11_desk_23 (trivial) (Nat.le_of_ble_eq_true rfl) (Nat.le_of_ble_eq_true rfl)

set_option maxRecDepth 100000 in
set_option maxHeartbeats 8000000 in
theorem sX11_state (l : Launch) (G : va_G) (cs : Nat → ClassId) (a1 : Int32) (a2 : Int32) (a3 : Int32) (ha1 : (0 : Int) ≤ a1.toInt ∧ a1.toInt ≤ 6) (ha2 : (0 : Int) ≤ a2.toInt ∧ a2.toInt ≤ 6) (ha3 : (0 : Int) ≤ a3.toInt ∧ a3.toInt ≤ 127) : SafeR l yX11_state cX11_state 3 (some .int) 0 G (TY cs) [.int a1, .int a2, .int a3] [] (fun r : Int32 => (0 : Int) ≤ r.toInt ∧ r.toInt ≤ 6271) := by
  refine mkP (Qc := QRi (fun r : Int32 => (0 : Int) ≤ r.toInt ∧ r.toInt ≤ 6271)) (by decide) (by simp [lg_sl, Value.category]) ?_
  intro p e s m args below meth c ls hx hb hml hr hlk hown ht hK hP hS hl
  have hl : lv_has ls 3 [(0, .int a1), (1, .int a2), (2, .int a3)] := hl
  refine lv_bipush (v := 7) hx hb dX11_state_0 (by decide) ?_
  refine lv_iload_n hx hb dX11_state_2 rfl (lv_at hl 0 rfl) ?_
  refine lv_imul hx hb dX11_state_3 ?_
  refine lv_topi (fun v1 ev1 => ?_)
  have tv1 : v1.toInt = 7 * a1.toInt := by rw [ev1]; exact mulT (show (7 : Int32).toInt = 7 by decide) rfl (by omega)
  refine lv_iload_n hx hb dX11_state_4 rfl (lv_at hl 1 rfl) ?_
  refine lv_iadd hx hb dX11_state_5 ?_
  refine lv_topi (fun v2 ev2 => ?_)
  have tv2 : v2.toInt = v1.toInt + a2.toInt := by rw [ev2]; exact addT rfl rfl (by omega)
  refine lv_sipush (v := 128) hx hb dX11_state_6 (by decide) ?_
  refine lv_imul hx hb dX11_state_9 ?_
  refine lv_topi (fun v3 ev3 => ?_)
  have tv3 : v3.toInt = v2.toInt * 128 := by rw [ev3]; exact mulT rfl (show (128 : Int32).toInt = 128 by decide) (by omega)
  refine lv_iload_n hx hb dX11_state_10 rfl (lv_at hl 2 rfl) ?_
  refine lv_iadd hx hb dX11_state_11 ?_
  refine lv_topi (fun v4 ev4 => ?_)
  have tv4 : v4.toInt = v3.toInt + a3.toInt := by rw [ev4]; exact addT rfl rfl (by omega)
  exact retRi hx hb hr hlk hS dX11_state_12 (show (0 : Int) ≤ v4.toInt ∧ v4.toInt ≤ 6271 by omega)

set_option maxRecDepth 100000 in
set_option maxHeartbeats 8000000 in
theorem sX11_meet (l : Launch) (G : va_G) (cs : Nat → ClassId) (h : Nat) (q : Nat → Nat) (F : Nat → Int32) (A : Nat → Nat → Int32) (D : Int64) (B : Nat → Nat → Int64) (hI : IM F A) (a1 : Int32) (a2 : Int32) (a3 : Int32) (ha1 : (0 : Int) ≤ a1.toInt ∧ a1.toInt ≤ 6271) (ha2 : (0 : Int) ≤ a2.toInt ∧ a2.toInt ≤ 6272) (hCI : CI (A 23) (A 24) (A 25) (F 26)) (hfar : a2.toInt ≤ (F 26).toInt) (hwas : 1 ≤ a2.toInt → 0 ≤ a3.toInt ∧ a3.toInt ≤ 6271 ∧ ((A 24) a3.toNatClampNeg).toInt = a2.toInt - 1) : ImpW l yX11_meet cX11_meet 4 0 0 0 G (TY cs) [.ref h, .int a1, .int a2, .int a3] (mS cs h q F A D B) (fun u : Int32 × (Nat → Int32) × (Nat → Int32) × (Nat → Int32) => ((0 : Int) ≤ u.1.toInt ∧ u.1.toInt ≤ 6272) ∧ (CI u.2.1 u.2.2.1 u.2.2.2 u.1 ∧ ∀ x : Nat, 0 ≤ ((A 24) x).toInt → u.2.2.1 x = (A 24) x)) (fun u : Int32 × (Nat → Int32) × (Nat → Int32) × (Nat → Int32) => (mS cs h q (upd F 26 u.1) (vA (vA (vA A 23 u.2.1) 24 u.2.2.1) 25 u.2.2.2) D B)) := by
  refine mkD (Qc := (QDw G (fun u : Int32 × (Nat → Int32) × (Nat → Int32) × (Nat → Int32) => ((0 : Int) ≤ u.1.toInt ∧ u.1.toInt ≤ 6272) ∧ (CI u.2.1 u.2.2.1 u.2.2.2 u.1 ∧ ∀ x : Nat, 0 ≤ ((A 24) x).toInt → u.2.2.1 x = (A 24) x)) (fun u : Int32 × (Nat → Int32) × (Nat → Int32) × (Nat → Int32) => (mS cs h q (upd F 26 u.1) (vA (vA (vA A 23 u.2.1) 24 u.2.2.1) 25 u.2.2.2) D B)))) (by decide) (by simp [lg_sl, Value.category]) ?_
  intro p e s m args below meth c ls A0 hx hb hml hr hlk hown hmn ht hK hP hD hS hA hl
  have hl : lv_has ls 4 [(0, .ref h), (1, .int a1), (2, .int a2), (3, .int a3)] := hl
  refine lv_aload_n hx hb dX11_meet_0 rfl (lv_at hl 0 rfl) ?_
  refine getF (v := .ref (q 24)) hx hb ht hown hK hP iTX11 0 24 rfl rfl (by decide) fl_RX11_52 rfl dX11_meet_1 ?_
  refine lv_iload_n hx hb dX11_meet_4 rfl (lv_at hl 1 rfl) ?_
  refine va_iald hx hb hK.1 hP 13 0 rfl rfl (inK rfl (by omega) (by decide)) dX11_meet_5 ?_
  refine lv_topi (fun v1 ev1 => ?_)
  have ev1 : v1 = (A 24) a1.toNatClampNeg := ev1
  refine lv_iconst (v := (-1)) hx hb dX11_meet_6 (by decide) ?_
  refine lv_icmp_eq (tgt := 11) hx hb dX11_meet_7 (by decide) (fun c2 => ?_) (fun c2 => ?_)
  · have zc2 := eqK rfl (show (-1 : Int32).toInt = (-1) by decide) c2
    have hq9 := CIq hCI (s := a1.toNatClampNeg) (by have y9 := clK (i := a1) rfl (by omega); omega) (by rw [← ev1]; omega)
    refine lv_aload_n hx hb dX11_meet_11 rfl (lv_at hl 0 rfl) ?_
    refine getF (v := .ref (q 24)) hx hb ht hown hK hP iTX11 0 24 rfl rfl (by decide) fl_RX11_52 rfl dX11_meet_12 ?_
    refine lv_iload_n hx hb dX11_meet_15 rfl (lv_at hl 1 rfl) ?_
    refine lv_iload_n hx hb dX11_meet_16 rfl (lv_at hl 2 rfl) ?_
    refine va_iast hx hb hK.1 hP hD hS 13 0 rfl rfl (inK rfl (by omega) (by decide)) dX11_meet_17 (fun H locs hP hD hS => ?_)
    have hP : va_P G vwCl (mS cs h q F (vA A 24 (upd (A 24) a1.toNatClampNeg a2)) D B) H := hP
    have hD : va_D A0 (mS cs h q F (vA A 24 (upd (A 24) a1.toNatClampNeg a2)) D B) := hD
    obtain ⟨g3, eg3⟩ : ∃ z : Nat → Int32, z = upd (A 24) a1.toNatClampNeg a2 := ⟨_, rfl⟩
    rw [← eg3] at hP hD
    refine lv_aload_n hx hb dX11_meet_18 rfl (lv_at hl 0 rfl) ?_
    refine getF (v := .ref (q 25)) hx hb ht hown hK hP iTX11 0 25 rfl rfl (by decide) fl_RX11_55 rfl dX11_meet_19 ?_
    refine lv_iload_n hx hb dX11_meet_22 rfl (lv_at hl 1 rfl) ?_
    refine lv_iload_n hx hb dX11_meet_23 rfl (lv_at hl 3 rfl) ?_
    refine va_iast hx hb hK.1 hP hD hS 14 0 rfl rfl (inK rfl (by omega) (by decide)) dX11_meet_24 (fun H locs hP hD hS => ?_)
    have hP : va_P G vwCl (mS cs h q F (vA (vA A 24 g3) 25 (upd (A 25) a1.toNatClampNeg a3)) D B) H := hP
    have hD : va_D A0 (mS cs h q F (vA (vA A 24 g3) 25 (upd (A 25) a1.toNatClampNeg a3)) D B) := hD
    obtain ⟨g4, eg4⟩ : ∃ z : Nat → Int32, z = upd (A 25) a1.toNatClampNeg a3 := ⟨_, rfl⟩
    rw [← eg4] at hP hD
    refine lv_aload_n hx hb dX11_meet_25 rfl (lv_at hl 0 rfl) ?_
    refine getF (v := .ref (q 23)) hx hb ht hown hK hP iTX11 0 23 rfl rfl (by decide) fl_RX11_49 rfl dX11_meet_26 ?_
    refine lv_aload_n hx hb dX11_meet_29 rfl (lv_at hl 0 rfl) ?_
    refine getF (v := .int (F 26)) hx hb ht hown hK hP iTX11 0 26 rfl rfl (by decide) fl_RX11_346 rfl dX11_meet_30 ?_
    have zf5 : (0 : Int) ≤ (F 26).toInt ∧ (F 26).toInt ≤ 6272 := hI.1 26
    refine lv_iload_n hx hb dX11_meet_33 rfl (lv_at hl 1 rfl) ?_
    refine va_iast hx hb hK.1 hP hD hS 12 0 rfl rfl (inK rfl (by omega) (by decide)) dX11_meet_34 (fun H locs hP hD hS => ?_)
    have hP : va_P G vwCl (mS cs h q F (vA (vA (vA A 23 (upd (A 23) (F 26).toNatClampNeg a1)) 24 g3) 25 g4) D B) H := hP
    have hD : va_D A0 (mS cs h q F (vA (vA (vA A 23 (upd (A 23) (F 26).toNatClampNeg a1)) 24 g3) 25 g4) D B) := hD
    obtain ⟨g6, eg6⟩ : ∃ z : Nat → Int32, z = upd (A 23) (F 26).toNatClampNeg a1 := ⟨_, rfl⟩
    rw [← eg6] at hP hD
    refine lv_aload_n hx hb dX11_meet_35 rfl (lv_at hl 0 rfl) ?_
    refine lv_dup hx hb dX11_meet_36 rfl ?_
    refine getF (v := .int (F 26)) hx hb ht hown hK hP iTX11 0 26 rfl rfl (by decide) fl_RX11_346 rfl dX11_meet_37 ?_
    have zf7 : (0 : Int) ≤ (F 26).toInt ∧ (F 26).toInt ≤ 6272 := hI.1 26
    refine lv_iconst (v := 1) hx hb dX11_meet_40 (by decide) ?_
    refine lv_iadd hx hb dX11_meet_41 ?_
    refine lv_topi (fun v8 ev8 => ?_)
    have tv8 : v8.toInt = (F 26).toInt + 1 := by rw [ev8]; exact addT rfl (show (1 : Int32).toInt = 1 by decide) (by omega)
    refine putD hx hb ht hown hK hP hD hS iTX11 tyX11 tyX11_ok nmX11 0 26 rfl rfl (by decide) fl_RX11_346 rfl rfl rfl (Nat.le_of_ble_eq_true rfl) dX11_meet_42 (fun H locs hP hD hS => ?_)
    have hP : va_P G vwCl (mS cs h q (upd F 26 v8) (vA (vA (vA A 23 g6) 24 g3) 25 g4) D B) H := hP
    have hD : va_D A0 (mS cs h q (upd F 26 v8) (vA (vA (vA A 23 g6) 24 g3) 25 g4) D B) := hD
    exact retDw (v8, g6, g3, g4) hx hb hr hlk hP hD hS dX11_meet_45 (⟨show (0 : Int) ≤ v8.toInt ∧ v8.toInt ≤ 6272 by omega, CIm hCI eg6 eg3 eg4 (clK rfl (by omega)) (by have y9 := clK (i := a1) rfl (by omega); omega) (by rw [← ev1]; omega) (by omega) hwas (by omega) tv8⟩) (Nat.le_of_ble_eq_true rfl) (Nat.le_of_ble_eq_true rfl)
  · have zc2 := neK rfl (show (-1 : Int32).toInt = (-1) by decide) c2
    exact retDw ((F 26), (A 23), (A 24), (A 25)) hx hb hr hlk hP hD hS dX11_meet_10 (⟨hI.1 26, ⟨hCI, fun _ _ => rfl⟩⟩) (Nat.le_of_ble_eq_true rfl) (Nat.le_of_ble_eq_true rfl)

set_option maxRecDepth 100000 in
set_option maxHeartbeats 8000000 in
theorem sX11_chase (l : Launch) (G : va_G) (cs : Nat → ClassId) (h : Nat) (q : Nat → Nat) (F : Nat → Int32) (A : Nat → Nat → Int32) (D : Int64) (B : Nat → Nat → Int64) (hI : IM F A) (a1 : Int32) (a2 : Int32) (a3 : Int32) (ha1 : (0 : Int) ≤ a1.toInt ∧ a1.toInt ≤ 6) (ha2 : (0 : Int) ≤ a2.toInt ∧ a2.toInt ≤ 6) (ha3 : (0 : Int) ≤ a3.toInt ∧ a3.toInt ≤ 1) : ImpI l yX11_chase cX11_chase 10 (some .int) 2 0 0 G (TY cs) [.ref h, .int a1, .int a2, .int a3] (mS cs h q F A D B) (fun (r : Int32) (u : Int32 × (Nat → Int32) × (Nat → Int32) × (Nat → Int32)) => ((0 : Int) ≤ u.1.toInt ∧ u.1.toInt ≤ 6272) ∧ (CI u.2.1 u.2.2.1 u.2.2.2 u.1 ∧ (r.toInt = -1 ∨ (0 ≤ r.toInt ∧ r.toInt ≤ 6271 ∧ 0 ≤ (u.2.2.1 r.toNatClampNeg).toInt)))) (fun u : Int32 × (Nat → Int32) × (Nat → Int32) × (Nat → Int32) => (mS cs h q (upd F 26 u.1) (vA (vA (vA A 23 u.2.1) 24 u.2.2.1) 25 u.2.2.2) D B)) := by
  refine mkD (Qc := (QDi G (fun (r : Int32) (u : Int32 × (Nat → Int32) × (Nat → Int32) × (Nat → Int32)) => ((0 : Int) ≤ u.1.toInt ∧ u.1.toInt ≤ 6272) ∧ (CI u.2.1 u.2.2.1 u.2.2.2 u.1 ∧ (r.toInt = -1 ∨ (0 ≤ r.toInt ∧ r.toInt ≤ 6271 ∧ 0 ≤ (u.2.2.1 r.toNatClampNeg).toInt)))) (fun u : Int32 × (Nat → Int32) × (Nat → Int32) × (Nat → Int32) => (mS cs h q (upd F 26 u.1) (vA (vA (vA A 23 u.2.1) 24 u.2.2.1) 25 u.2.2.2) D B)))) (by decide) (by simp [lg_sl, Value.category]) ?_
  intro p e s m args below meth c ls A0 hx hb hml hr hlk hown hmn ht hK hP hD hS hA hl
  have hl : lv_has ls 10 [(0, .ref h), (1, .int a1), (2, .int a2), (3, .int a3)] := hl
  refine lv_iconst (v := 0) hx hb dX11_chase_0 (by decide) ?_
  refine lv_istore (lv' := [(4, .int 0), (0, .ref h), (1, .int a1), (2, .int a2), (3, .int a3)]) hx hb dX11_chase_1 hl (by decide) rfl (fun ls hl => ?_)
  have B3 : ∀ (n : Nat) (x3_4 : Int32) (a24_3 : (Nat → Int32)) (H : Heap) (locs : List Loc) (ls : Array Slot), (6272 - x3_4.toInt).toNat < n → (0 : Int) ≤ x3_4.toInt ∧ x3_4.toInt ≤ 6272 → (FM a24_3 x3_4.toInt) → va_P G vwCl (mS cs h q F (vA A 24 a24_3) D B) H → va_D A0 (mS cs h q F (vA A 24 a24_3) D B) → va_S A0 s.heap H locs → lv_has ls 10 [(0, .ref h), (1, .int a1), (2, .int a2), (3, .int a3), (4, .int x3_4)] → W p l e (rmk 2 0 0) s m args below meth c H locs 0 0 (MQ below ((QDi G (fun (r : Int32) (u : Int32 × (Nat → Int32) × (Nat → Int32) × (Nat → Int32)) => ((0 : Int) ≤ u.1.toInt ∧ u.1.toInt ≤ 6272) ∧ (CI u.2.1 u.2.2.1 u.2.2.2 u.1 ∧ (r.toInt = -1 ∨ (0 ≤ r.toInt ∧ r.toInt ≤ 6271 ∧ 0 ≤ (u.2.2.1 r.toNatClampNeg).toInt)))) (fun u : Int32 × (Nat → Int32) × (Nat → Int32) × (Nat → Int32) => (mS cs h q (upd F 26 u.1) (vA (vA (vA A 23 u.2.1) 24 u.2.2.1) 25 u.2.2.2) D B))) A0) args s 0 0 A0) (F0 m 3 ls []) := by
    intro n
    induction n with
    | zero => intro x3_4 a24_3 H locs ls hmeas hx3_4 hfm hP hD hS hl; exact absurd hmeas (Nat.not_lt_zero _)
    | succ n ih3 =>
      intro x3_4 a24_3 H locs ls hmeas hx3_4 hfm hP hD hS hl
      refine lv_iload hx hb dX11_chase_3 (lv_at hl 4 rfl) ?_
      refine lv_sipush (v := 6272) hx hb dX11_chase_5 (by decide) ?_
      refine lv_icmp_ge (tgt := 25) hx hb dX11_chase_8 (by decide) (fun c3001 => ?_) (fun c3001 => ?_)
      · have zc3001 := leK (show (6272 : Int32).toInt = 6272 by decide) rfl c3001
        refine lv_aload_n hx hb dX11_chase_25 rfl (lv_at hl 0 rfl) ?_
        refine lv_iconst (v := 0) hx hb dX11_chase_26 (by decide) ?_
        refine putD hx hb ht hown hK hP hD hS iTX11 tyX11 tyX11_ok nmX11 0 26 rfl rfl (by decide) fl_RX11_346 rfl rfl rfl (Nat.le_of_ble_eq_true rfl) dX11_chase_27 (fun H locs hP hD hS => ?_)
        have hP : va_P G vwCl (mS cs h q (upd F 26 0) (vA A 24 a24_3) D B) H := hP
        have hD : va_D A0 (mS cs h q (upd F 26 0) (vA A 24 a24_3) D B) := hD
        refine lv_aload_n hx hb dX11_chase_30 rfl (lv_at hl 0 rfl) ?_
        refine lv_iload_n hx hb dX11_chase_31 rfl (lv_at hl 1 rfl) ?_
        refine lv_iload_n hx hb dX11_chase_32 rfl (lv_at hl 2 rfl) ?_
        refine lv_aload_n hx hb dX11_chase_33 rfl (lv_at hl 0 rfl) ?_
        refine behR (runVP (As := []) (rest := [.int a2, .int a1, .ref h]) ⟨hx, hb, hml, hown, ht⟩ (sX11_allRooms l G cs h q (upd F 26 0) (vA A 24 a24_3) D B (IM_arr (k := 24) (IM_put (k := 26) hI (by decide)) (fun _ => i32b _))  ) okV_RX11_337 ⟨by decide, by decide⟩ hK hP [0, 1, 2, 3, 4, 5, 6, 7, 8, 9, 10, 11, 12, 13, 14, 15, 16, 17, 18, 19] rfl 0 rfl rfl hl.1 rfl (Nat.le_of_ble_eq_true rfl) dX11_chase_34 ⟨by decide, by decide⟩) hP hS hA (fun r3002 H locs hr3002 hP hS => ?_)
        have hr3002 : (0 : Int) ≤ r3002.toInt ∧ r3002.toInt ≤ 127 := hr3002
        refine lv_iconst (v := 1) hx hb dX11_chase_37 (by decide) ?_
        refine lv_iload_n hx hb dX11_chase_38 rfl (lv_at hl 1 rfl) ?_
        refine lv_ishl hx hb dX11_chase_39 ?_
        refine lv_topi (fun v3003 ev3003 => ?_)
        have tv3003 : (1 : Int) ≤ v3003.toInt ∧ v3003.toInt ≤ 64 := by rw [ev3003]; exact shlT 6 (by decide) rfl (by omega) (by decide)
        have pv3003 : v3003.toInt = P2 a1.toInt := by rw [ev3003]; exact shlP rfl (by omega)
        refine lv_iconst (v := (-1)) hx hb dX11_chase_40 (by decide) ?_
        refine lv_ixor hx hb dX11_chase_41 ?_
        refine lv_topi (fun v3004 ev3004 => ?_)
        refine lv_iand hx hb dX11_chase_42 ?_
        refine lv_topi (fun v3005 ev3005 => ?_)
        have tv3005 : 0 ≤ v3005.toInt ∧ v3005.toInt ≤ 127 := by rw [ev3005]; exact andA 7 rfl (by omega) (by decide)
        refine lv_iconst (v := 1) hx hb dX11_chase_43 (by decide) ?_
        refine lv_iload_n hx hb dX11_chase_44 rfl (lv_at hl 2 rfl) ?_
        refine lv_ishl hx hb dX11_chase_45 ?_
        refine lv_topi (fun v3006 ev3006 => ?_)
        have tv3006 : (1 : Int) ≤ v3006.toInt ∧ v3006.toInt ≤ 64 := by rw [ev3006]; exact shlT 6 (by decide) rfl (by omega) (by decide)
        have pv3006 : v3006.toInt = P2 a2.toInt := by rw [ev3006]; exact shlP rfl (by omega)
        refine lv_iconst (v := (-1)) hx hb dX11_chase_46 (by decide) ?_
        refine lv_ixor hx hb dX11_chase_47 ?_
        refine lv_topi (fun v3007 ev3007 => ?_)
        refine lv_iand hx hb dX11_chase_48 ?_
        refine lv_topi (fun v3008 ev3008 => ?_)
        have tv3008 : 0 ≤ v3008.toInt ∧ v3008.toInt ≤ 127 := by rw [ev3008]; exact andA 7 rfl (by omega) (by decide)
        refine behR (runSP (As := [.int a1, .int a2, .int v3008]) (rest := [.ref h]) ⟨hx, hb, hml, hown, ht⟩ (sX11_state l G cs a1 a2 v3008 (by omega) (by omega) (by omega)) okS_RX11_349 ⟨by decide, by decide⟩ hK hP [] rfl hl.1 rfl (Nat.le_of_ble_eq_true rfl) dX11_chase_49 ⟨by decide, by decide⟩) hP hS hA (fun r3009 H locs hr3009 hP hS => ?_)
        have hr3009 : (0 : Int) ≤ r3009.toInt ∧ r3009.toInt ≤ 6271 := hr3009
        refine lv_iconst (v := 0) hx hb dX11_chase_52 (by decide) ?_
        refine lv_iconst (v := (-1)) hx hb dX11_chase_53 (by decide) ?_
        refine behDw (wr := []) (runVD (As := [.int r3009, .int 0, .int (-1)]) (rest := []) ⟨hx, hb, hml, hown, ht⟩ (sX11_meet l G cs h q (upd F 26 0) (vA A 24 a24_3) D B (IM_arr (k := 24) (IM_put (k := 26) hI (by decide)) (fun _ => i32b _)) r3009 0 (-1) (by omega) (by decide) (show CI (A 23) a24_3 (A 25) (0 : Int32) from (CI0 hfm (by omega) (show (0 : Int32).toInt = 0 by decide))) (show (0 : Int32).toInt ≤ (0 : Int32).toInt from (by decide)) (show 1 ≤ (0 : Int32).toInt → 0 ≤ (-1 : Int32).toInt ∧ (-1 : Int32).toInt ≤ 6271 ∧ (a24_3 (-1 : Int32).toNatClampNeg).toInt = (0 : Int32).toInt - 1 from (fun q9 => absurd q9 (by decide)))) okV_RX11_352 ⟨by decide, by decide⟩ hK hP hD [0, 1, 2, 3, 4, 5, 6, 7, 8, 9, 10, 11, 12, 13, 14, 15, 16, 17, 18, 19] rfl (by decide) rfl 0 rfl rfl hl.1 rfl (Nat.le_of_ble_eq_true rfl) dX11_chase_54 ⟨(Nat.le_of_ble_eq_true rfl), (Nat.le_of_ble_eq_true rfl)⟩) hP hD hS hA [0, 1, 2, 3, 4, 5, 6, 7, 8, 9, 10, 11, 12, 13, 14, 15, 16, 17, 18, 19] [] rfl rfl (by decide) (by decide) (fun u H locs hu hP hD hS => ?_)
        obtain ⟨x3010, g3011, g3012, g3013⟩ := u
        have kk3015 : (0 : Int32).toInt = 0 := by decide
        have kk3016 : (-1 : Int32).toInt = (-1) := by decide
        obtain ⟨hbx3010, hr3014⟩ := hu
        have hbx3010 : (0 : Int) ≤ x3010.toInt ∧ x3010.toInt ≤ 6272 := hbx3010
        have hr3014 : CI g3011 g3012 g3013 x3010 ∧ ∀ x : Nat, 0 ≤ (a24_3 x).toInt → g3012 x = a24_3 x := hr3014
        have hP : va_P G vwCl (mS cs h q (upd F 26 x3010) (vA (vA (vA A 23 g3011) 24 g3012) 25 g3013) D B) H := hP
        have hD : va_D A0 (mS cs h q (upd F 26 x3010) (vA (vA (vA A 23 g3011) 24 g3012) 25 g3013) D B) := hD
        refine lv_iconst (v := 0) hx hb dX11_chase_57 (by decide) ?_
        refine lv_istore (lv' := [(4, .int 0), (0, .ref h), (1, .int a1), (2, .int a2), (3, .int a3)]) hx hb dX11_chase_58 hl (by decide) rfl (fun ls hl => ?_)
        have B60 : ∀ (n : Nat) (x60_4 : Int32) (f26_60 : Int32) (a23_60 : (Nat → Int32)) (a24_60 : (Nat → Int32)) (a25_60 : (Nat → Int32)) (H : Heap) (locs : List Loc) (ls : Array Slot), (6272 - x60_4.toInt).toNat < n → (0 : Int) ≤ x60_4.toInt ∧ x60_4.toInt ≤ 6272 → (0 : Int) ≤ f26_60.toInt ∧ f26_60.toInt ≤ 6272 → (CI a23_60 a24_60 a25_60 f26_60) → va_P G vwCl (mS cs h q (upd F 26 f26_60) (vA (vA (vA A 23 a23_60) 24 a24_60) 25 a25_60) D B) H → va_D A0 (mS cs h q (upd F 26 f26_60) (vA (vA (vA A 23 a23_60) 24 a24_60) 25 a25_60) D B) → va_S A0 s.heap H locs → lv_has ls 10 [(0, .ref h), (3, .int a3), (4, .int x60_4)] → W p l e (rmk 2 0 0) s m args below meth c H locs 0 0 (MQ below ((QDi G (fun (r : Int32) (u : Int32 × (Nat → Int32) × (Nat → Int32) × (Nat → Int32)) => ((0 : Int) ≤ u.1.toInt ∧ u.1.toInt ≤ 6272) ∧ (CI u.2.1 u.2.2.1 u.2.2.2 u.1 ∧ (r.toInt = -1 ∨ (0 ≤ r.toInt ∧ r.toInt ≤ 6271 ∧ 0 ≤ (u.2.2.1 r.toNatClampNeg).toInt)))) (fun u : Int32 × (Nat → Int32) × (Nat → Int32) × (Nat → Int32) => (mS cs h q (upd F 26 u.1) (vA (vA (vA A 23 u.2.1) 24 u.2.2.1) 25 u.2.2.2) D B))) A0) args s 0 0 A0) (F0 m 60 ls []) := by
          intro n
          induction n with
          | zero => intro x60_4 f26_60 a23_60 a24_60 a25_60 H locs ls hmeas hx60_4 hf26_60 hci hP hD hS hl; exact absurd hmeas (Nat.not_lt_zero _)
          | succ n ih60 =>
            intro x60_4 f26_60 a23_60 a24_60 a25_60 H locs ls hmeas hx60_4 hf26_60 hci hP hD hS hl
            refine lv_iload hx hb dX11_chase_60 (lv_at hl 2 rfl) ?_
            refine lv_aload_n hx hb dX11_chase_62 rfl (lv_at hl 0 rfl) ?_
            refine getF (v := .int f26_60) hx hb ht hown hK hP iTX11 0 26 rfl rfl (by decide) fl_RX11_346 rfl dX11_chase_63 ?_
            refine lv_icmp_ge (tgt := 243) hx hb dX11_chase_66 (by decide) (fun c39001 => ?_) (fun c39001 => ?_)
            · have zc39001 := leK rfl rfl c39001
              refine lv_iconst (v := (-1)) hx hb dX11_chase_243 (by decide) ?_
              exact retDi (f26_60, a23_60, a24_60, a25_60) hx hb hr hlk hP hD hS dX11_chase_244 (⟨show (0 : Int) ≤ f26_60.toInt ∧ f26_60.toInt ≤ 6272 by omega, ⟨hci, Or.inl (by decide)⟩⟩) (Nat.le_of_ble_eq_true rfl) (Nat.le_of_ble_eq_true rfl)
            · have zc39001 := nleK rfl rfl c39001
              refine lv_aload_n hx hb dX11_chase_69 rfl (lv_at hl 0 rfl) ?_
              refine getF (v := .ref (q 23)) hx hb ht hown hK hP iTX11 0 23 rfl rfl (by decide) fl_RX11_49 rfl dX11_chase_70 ?_
              refine lv_iload hx hb dX11_chase_73 (lv_at hl 2 rfl) ?_
              refine va_iald hx hb hK.1 hP 12 0 rfl rfl (inK rfl (by omega) (by decide)) dX11_chase_75 ?_
              refine lv_topi (fun v39002 ev39002 => ?_)
              have ev39002 : v39002 = a23_60 x60_4.toNatClampNeg := ev39002
              have zqv39002 := hci.2.2.1 x60_4.toNatClampNeg (by have y9 := clK (i := x60_4) rfl (by omega); omega)
              rw [← ev39002] at zqv39002
              refine lv_istore (lv' := [(5, .int v39002), (0, .ref h), (3, .int a3), (4, .int x60_4)]) hx hb dX11_chase_76 hl (by decide) rfl (fun ls hl => ?_)
              refine lv_iload hx hb dX11_chase_78 (lv_at hl 0 rfl) ?_
              refine lv_sipush (v := 128) hx hb dX11_chase_80 (by decide) ?_
              refine lv_irem hx hb dX11_chase_83 (by decide) ?_
              refine lv_topi (fun v39003 ev39003 => ?_)
              have tv39003 : v39003.toInt = v39002.toInt % 128 := by rw [ev39003]; exact remT rfl (by decide) (by omega) (by decide)
              refine lv_if_ne (tgt := 90) hx hb dX11_chase_84 (by decide) (fun c39004 => ?_) (fun c39004 => ?_)
              · have zc39004 := neK rfl (show (0 : Int32).toInt = 0 by decide) c39004
                refine lv_iload hx hb dX11_chase_90 (lv_at hl 0 rfl) ?_
                refine lv_sipush (v := 128) hx hb dX11_chase_92 (by decide) ?_
                refine lv_idiv hx hb dX11_chase_95 (by decide) ?_
                refine lv_topi (fun v39005 ev39005 => ?_)
                have tv39005 : v39005.toInt = v39002.toInt / 128 := by rw [ev39005]; exact divT rfl (by decide) (by omega) (by decide)
                refine lv_bipush (v := 7) hx hb dX11_chase_96 (by decide) ?_
                refine lv_idiv hx hb dX11_chase_98 (by decide) ?_
                refine lv_topi (fun v39006 ev39006 => ?_)
                have tv39006 : v39006.toInt = v39005.toInt / 7 := by rw [ev39006]; exact divT rfl (by decide) (by omega) (by decide)
                refine lv_istore (lv' := [(6, .int v39006), (5, .int v39002), (0, .ref h), (3, .int a3), (4, .int x60_4)]) hx hb dX11_chase_99 hl (by decide) rfl (fun ls hl => ?_)
                refine lv_iload hx hb dX11_chase_101 (lv_at hl 1 rfl) ?_
                refine lv_sipush (v := 128) hx hb dX11_chase_103 (by decide) ?_
                refine lv_idiv hx hb dX11_chase_106 (by decide) ?_
                refine lv_topi (fun v39007 ev39007 => ?_)
                have tv39007 : v39007.toInt = v39002.toInt / 128 := by rw [ev39007]; exact divT rfl (by decide) (by omega) (by decide)
                refine lv_bipush (v := 7) hx hb dX11_chase_107 (by decide) ?_
                refine lv_irem hx hb dX11_chase_109 (by decide) ?_
                refine lv_topi (fun v39008 ev39008 => ?_)
                have tv39008 : v39008.toInt = v39007.toInt % 7 := by rw [ev39008]; exact remT rfl (by decide) (by omega) (by decide)
                refine lv_istore (lv' := [(7, .int v39008), (6, .int v39006), (5, .int v39002), (0, .ref h), (3, .int a3), (4, .int x60_4)]) hx hb dX11_chase_110 hl (by decide) rfl (fun ls hl => ?_)
                refine lv_iconst (v := 0) hx hb dX11_chase_112 (by decide) ?_
                refine lv_istore (lv' := [(8, .int 0), (7, .int v39008), (6, .int v39006), (5, .int v39002), (0, .ref h), (3, .int a3), (4, .int x60_4)]) hx hb dX11_chase_113 hl (by decide) rfl (fun ls hl => ?_)
                have B115 : ∀ (n : Nat) (x115_8 : Int32) (f26_115 : Int32) (a23_115 : (Nat → Int32)) (a24_115 : (Nat → Int32)) (a25_115 : (Nat → Int32)) (H : Heap) (locs : List Loc) (ls : Array Slot), (7 - x115_8.toInt).toNat < n → (0 : Int) ≤ x115_8.toInt ∧ x115_8.toInt ≤ 7 → (0 : Int) ≤ f26_115.toInt ∧ f26_115.toInt ≤ 6272 → (CI a23_115 a24_115 a25_115 f26_115) → (0 ≤ (a24_115 v39002.toNatClampNeg).toInt) → va_P G vwCl (mS cs h q (upd F 26 f26_115) (vA (vA (vA A 23 a23_115) 24 a24_115) 25 a25_115) D B) H → va_D A0 (mS cs h q (upd F 26 f26_115) (vA (vA (vA A 23 a23_115) 24 a24_115) 25 a25_115) D B) → va_S A0 s.heap H locs → lv_has ls 10 [(0, .ref h), (3, .int a3), (4, .int x60_4), (5, .int v39002), (6, .int v39006), (7, .int v39008), (8, .int x115_8)] → W p l e (rmk 2 0 0) s m args below meth c H locs 0 0 (MQ below ((QDi G (fun (r : Int32) (u : Int32 × (Nat → Int32) × (Nat → Int32) × (Nat → Int32)) => ((0 : Int) ≤ u.1.toInt ∧ u.1.toInt ≤ 6272) ∧ (CI u.2.1 u.2.2.1 u.2.2.2 u.1 ∧ (r.toInt = -1 ∨ (0 ≤ r.toInt ∧ r.toInt ≤ 6271 ∧ 0 ≤ (u.2.2.1 r.toNatClampNeg).toInt)))) (fun u : Int32 × (Nat → Int32) × (Nat → Int32) × (Nat → Int32) => (mS cs h q (upd F 26 u.1) (vA (vA (vA A 23 u.2.1) 24 u.2.2.1) 25 u.2.2.2) D B))) A0) args s 0 0 A0) (F0 m 115 ls []) := by
                  intro n
                  induction n with
                  | zero => intro x115_8 f26_115 a23_115 a24_115 a25_115 H locs ls hmeas hx115_8 hf26_115 hci hnw hP hD hS hl; exact absurd hmeas (Nat.not_lt_zero _)
                  | succ n ih115 =>
                    intro x115_8 f26_115 a23_115 a24_115 a25_115 H locs ls hmeas hx115_8 hf26_115 hci hnw hP hD hS hl
                    refine lv_iload hx hb dX11_chase_115 (lv_at hl 6 rfl) ?_
                    refine lv_aload_n hx hb dX11_chase_117 rfl (lv_at hl 0 rfl) ?_
                    refine getF (v := .ref (q 1)) hx hb ht hown hK hP iTX11 0 1 rfl rfl (by decide) fl_RX11_9 rfl dX11_chase_118 ?_
                    refine lv_iconst (v := 4) hx hb dX11_chase_121 (by decide) ?_
                    refine va_iald hx hb hK.1 hP 1 0 rfl rfl (show ¬ (_ ∨ _) by decide) dX11_chase_122 ?_
                    refine W.eq (g2 := F0 m 123 ls [.int (A 1 4), .int x115_8]) rfl ?_
                    have zf68001 : (0 : Int) ≤ (A 1 4).toInt ∧ (A 1 4).toInt ≤ 7 := (hI.2 1 4)
                    refine lv_icmp_ge (tgt := 237) hx hb dX11_chase_123 (by decide) (fun c68002 => ?_) (fun c68002 => ?_)
                    · have zc68002 := leK rfl rfl c68002
                      obtain ⟨v68003, ev68003⟩ : ∃ z : Int32, z = x60_4 + 1 := ⟨_, rfl⟩
                      have tv68003 : v68003.toInt = x60_4.toInt + 1 := by rw [ev68003]; exact addT rfl (by decide) (by omega)
                      refine lv_iinc (v := v68003) (lv' := [(4, .int v68003), (0, .ref h), (3, .int a3), (5, .int v39002), (6, .int v39006), (7, .int v39008), (8, .int x115_8)]) hx hb dX11_chase_237 hl (k := 2) rfl (by rw [ev68003]; rfl) (by decide) rfl (fun ls hl => ?_)
                      refine lv_goto (tgt := 60) hx hb dX11_chase_240 (by decide) ?_
                      exact ih60 v68003 f26_115 a23_115 a24_115 a25_115 H locs ls (by omega) (by omega) (by omega) hci hP hD hS (lv_sub hl [1, 2, 0] rfl)
                    · have zc68002 := nleK rfl rfl c68002
                      refine lv_aload_n hx hb dX11_chase_126 rfl (lv_at hl 0 rfl) ?_
                      refine lv_iload hx hb dX11_chase_127 (lv_at hl 4 rfl) ?_
                      refine lv_iload hx hb dX11_chase_129 (lv_at hl 6 rfl) ?_
                      refine behR (runVP (As := [.int v39006, .int x115_8]) (rest := []) ⟨hx, hb, hml, hown, ht⟩ (sX11_goesTo l G cs h q (upd F 26 f26_115) (vA (vA (vA A 23 a23_115) 24 a24_115) 25 a25_115) D B (IM_arr (k := 25) (IM_arr (k := 24) (IM_arr (k := 23) (IM_put (k := 26) hI (show (0 : Int) ≤ f26_115.toInt ∧ f26_115.toInt ≤ 6272 by omega)) (fun _ => i32b _)) (fun _ => i32b _)) (fun _ => i32b _)) v39006 x115_8 (by omega)) okV_RX11_312 ⟨by decide, by decide⟩ hK hP [0, 1, 2, 3, 4, 5, 6, 7, 8, 9, 10, 11, 12, 13, 14, 15, 16, 17, 18, 19] rfl 0 rfl rfl hl.1 rfl (Nat.le_of_ble_eq_true rfl) dX11_chase_131 ⟨by decide, by decide⟩) hP hS hA (fun r68004 H locs hr68004 hP hS => ?_)
                      have hr68004 : (0 : Int) ≤ r68004.toInt ∧ r68004.toInt ≤ 1 := hr68004
                      have B231 : ∀ (f26_231 : Int32) (a23_231 : (Nat → Int32)) (a24_231 : (Nat → Int32)) (a25_231 : (Nat → Int32)) (H : Heap) (locs : List Loc) (ls : Array Slot), (0 : Int) ≤ f26_231.toInt ∧ f26_231.toInt ≤ 6272 → (CI a23_231 a24_231 a25_231 f26_231) → (0 ≤ (a24_231 v39002.toNatClampNeg).toInt) → va_P G vwCl (mS cs h q (upd F 26 f26_231) (vA (vA (vA A 23 a23_231) 24 a24_231) 25 a25_231) D B) H → va_D A0 (mS cs h q (upd F 26 f26_231) (vA (vA (vA A 23 a23_231) 24 a24_231) 25 a25_231) D B) → va_S A0 s.heap H locs → lv_has ls 10 [(0, .ref h), (3, .int a3), (4, .int x60_4), (5, .int v39002), (6, .int v39006), (7, .int v39008), (8, .int x115_8)] → W p l e (rmk 2 0 0) s m args below meth c H locs 0 0 (MQ below ((QDi G (fun (r : Int32) (u : Int32 × (Nat → Int32) × (Nat → Int32) × (Nat → Int32)) => ((0 : Int) ≤ u.1.toInt ∧ u.1.toInt ≤ 6272) ∧ (CI u.2.1 u.2.2.1 u.2.2.2 u.1 ∧ (r.toInt = -1 ∨ (0 ≤ r.toInt ∧ r.toInt ≤ 6271 ∧ 0 ≤ (u.2.2.1 r.toNatClampNeg).toInt)))) (fun u : Int32 × (Nat → Int32) × (Nat → Int32) × (Nat → Int32) => (mS cs h q (upd F 26 u.1) (vA (vA (vA A 23 u.2.1) 24 u.2.2.1) 25 u.2.2.2) D B))) A0) args s 0 0 A0) (F0 m 231 ls []) := by
                        intro f26_231 a23_231 a24_231 a25_231 H locs ls hf26_231 hci hnw hP hD hS hl
                        obtain ⟨v130001, ev130001⟩ : ∃ z : Int32, z = x115_8 + 1 := ⟨_, rfl⟩
                        have tv130001 : v130001.toInt = x115_8.toInt + 1 := by rw [ev130001]; exact addT rfl (by decide) (by omega)
                        refine lv_iinc (v := v130001) (lv' := [(8, .int v130001), (0, .ref h), (3, .int a3), (4, .int x60_4), (5, .int v39002), (6, .int v39006), (7, .int v39008)]) hx hb dX11_chase_231 hl (k := 6) rfl (by rw [ev130001]; rfl) (by decide) rfl (fun ls hl => ?_)
                        refine lv_goto (tgt := 115) hx hb dX11_chase_234 (by decide) ?_
                        exact ih115 v130001 f26_231 a23_231 a24_231 a25_231 H locs ls (by omega) (by omega) (by omega) hci hnw hP hD hS (lv_sub hl [1, 2, 3, 4, 5, 6, 0] rfl)
                      refine lv_if_ne (tgt := 140) hx hb dX11_chase_134 (by decide) (fun c68005 => ?_) (fun c68005 => ?_)
                      · have zc68005 := neK rfl (show (0 : Int32).toInt = 0 by decide) c68005
                        refine lv_iconst (v := 0) hx hb dX11_chase_140 (by decide) ?_
                        refine lv_istore (lv' := [(9, .int 0), (0, .ref h), (3, .int a3), (4, .int x60_4), (5, .int v39002), (6, .int v39006), (7, .int v39008), (8, .int x115_8)]) hx hb dX11_chase_141 hl (by decide) rfl (fun ls hl => ?_)
                        have B143 : ∀ (n : Nat) (x143_9 : Int32) (f26_143 : Int32) (a23_143 : (Nat → Int32)) (a24_143 : (Nat → Int32)) (a25_143 : (Nat → Int32)) (H : Heap) (locs : List Loc) (ls : Array Slot), (7 - x143_9.toInt).toNat < n → (0 : Int) ≤ x143_9.toInt ∧ x143_9.toInt ≤ 7 → (0 : Int) ≤ f26_143.toInt ∧ f26_143.toInt ≤ 6272 → (CI a23_143 a24_143 a25_143 f26_143) → (0 ≤ (a24_143 v39002.toNatClampNeg).toInt) → va_P G vwCl (mS cs h q (upd F 26 f26_143) (vA (vA (vA A 23 a23_143) 24 a24_143) 25 a25_143) D B) H → va_D A0 (mS cs h q (upd F 26 f26_143) (vA (vA (vA A 23 a23_143) 24 a24_143) 25 a25_143) D B) → va_S A0 s.heap H locs → lv_has ls 10 [(0, .ref h), (3, .int a3), (4, .int x60_4), (5, .int v39002), (6, .int v39006), (7, .int v39008), (8, .int x115_8), (9, .int x143_9)] → W p l e (rmk 2 0 0) s m args below meth c H locs 0 0 (MQ below ((QDi G (fun (r : Int32) (u : Int32 × (Nat → Int32) × (Nat → Int32) × (Nat → Int32)) => ((0 : Int) ≤ u.1.toInt ∧ u.1.toInt ≤ 6272) ∧ (CI u.2.1 u.2.2.1 u.2.2.2 u.1 ∧ (r.toInt = -1 ∨ (0 ≤ r.toInt ∧ r.toInt ≤ 6271 ∧ 0 ≤ (u.2.2.1 r.toNatClampNeg).toInt)))) (fun u : Int32 × (Nat → Int32) × (Nat → Int32) × (Nat → Int32) => (mS cs h q (upd F 26 u.1) (vA (vA (vA A 23 u.2.1) 24 u.2.2.1) 25 u.2.2.2) D B))) A0) args s 0 0 A0) (F0 m 143 ls []) := by
                          intro n
                          induction n with
                          | zero => intro x143_9 f26_143 a23_143 a24_143 a25_143 H locs ls hmeas hx143_9 hf26_143 hci hnw hP hD hS hl; exact absurd hmeas (Nat.not_lt_zero _)
                          | succ n ih143 =>
                            intro x143_9 f26_143 a23_143 a24_143 a25_143 H locs ls hmeas hx143_9 hf26_143 hci hnw hP hD hS hl
                            refine lv_iload hx hb dX11_chase_143 (lv_at hl 7 rfl) ?_
                            refine lv_aload_n hx hb dX11_chase_145 rfl (lv_at hl 0 rfl) ?_
                            refine getF (v := .ref (q 1)) hx hb ht hown hK hP iTX11 0 1 rfl rfl (by decide) fl_RX11_9 rfl dX11_chase_146 ?_
                            refine lv_iconst (v := 4) hx hb dX11_chase_149 (by decide) ?_
                            refine va_iald hx hb hK.1 hP 1 0 rfl rfl (show ¬ (_ ∨ _) by decide) dX11_chase_150 ?_
                            refine W.eq (g2 := F0 m 151 ls [.int (A 1 4), .int x143_9]) rfl ?_
                            have zf82001 : (0 : Int) ≤ (A 1 4).toInt ∧ (A 1 4).toInt ≤ 7 := (hI.2 1 4)
                            refine lv_icmp_ge (tgt := 231) hx hb dX11_chase_151 (by decide) (fun c82002 => ?_) (fun c82002 => ?_)
                            · have zc82002 := leK rfl rfl c82002
                              exact B231 f26_143 a23_143 a24_143 a25_143 H locs ls (by omega) hci hnw hP hD hS (lv_sub hl [0, 1, 2, 3, 4, 5, 6] rfl)
                            · have zc82002 := nleK rfl rfl c82002
                              refine lv_iload_n hx hb dX11_chase_154 rfl (lv_at hl 1 rfl) ?_
                              have B225 : ∀ (f26_225 : Int32) (a23_225 : (Nat → Int32)) (a24_225 : (Nat → Int32)) (a25_225 : (Nat → Int32)) (H : Heap) (locs : List Loc) (ls : Array Slot), (0 : Int) ≤ f26_225.toInt ∧ f26_225.toInt ≤ 6272 → (CI a23_225 a24_225 a25_225 f26_225) → (0 ≤ (a24_225 v39002.toNatClampNeg).toInt) → va_P G vwCl (mS cs h q (upd F 26 f26_225) (vA (vA (vA A 23 a23_225) 24 a24_225) 25 a25_225) D B) H → va_D A0 (mS cs h q (upd F 26 f26_225) (vA (vA (vA A 23 a23_225) 24 a24_225) 25 a25_225) D B) → va_S A0 s.heap H locs → lv_has ls 10 [(0, .ref h), (3, .int a3), (4, .int x60_4), (5, .int v39002), (6, .int v39006), (7, .int v39008), (8, .int x115_8), (9, .int x143_9)] → W p l e (rmk 2 0 0) s m args below meth c H locs 0 0 (MQ below ((QDi G (fun (r : Int32) (u : Int32 × (Nat → Int32) × (Nat → Int32) × (Nat → Int32)) => ((0 : Int) ≤ u.1.toInt ∧ u.1.toInt ≤ 6272) ∧ (CI u.2.1 u.2.2.1 u.2.2.2 u.1 ∧ (r.toInt = -1 ∨ (0 ≤ r.toInt ∧ r.toInt ≤ 6271 ∧ 0 ≤ (u.2.2.1 r.toNatClampNeg).toInt)))) (fun u : Int32 × (Nat → Int32) × (Nat → Int32) × (Nat → Int32) => (mS cs h q (upd F 26 u.1) (vA (vA (vA A 23 u.2.1) 24 u.2.2.1) 25 u.2.2.2) D B))) A0) args s 0 0 A0) (F0 m 225 ls []) := by
                                intro f26_225 a23_225 a24_225 a25_225 H locs ls hf26_225 hci hnw hP hD hS hl
                                obtain ⟨v128001, ev128001⟩ : ∃ z : Int32, z = x143_9 + 1 := ⟨_, rfl⟩
                                have tv128001 : v128001.toInt = x143_9.toInt + 1 := by rw [ev128001]; exact addT rfl (by decide) (by omega)
                                refine lv_iinc (v := v128001) (lv' := [(9, .int v128001), (0, .ref h), (3, .int a3), (4, .int x60_4), (5, .int v39002), (6, .int v39006), (7, .int v39008), (8, .int x115_8)]) hx hb dX11_chase_225 hl (k := 7) rfl (by rw [ev128001]; rfl) (by decide) rfl (fun ls hl => ?_)
                                refine lv_goto (tgt := 143) hx hb dX11_chase_228 (by decide) ?_
                                exact ih143 v128001 f26_225 a23_225 a24_225 a25_225 H locs ls (by omega) (by omega) (by omega) hci hnw hP hD hS (lv_sub hl [1, 2, 3, 4, 5, 6, 7, 0] rfl)
                              have B179 : ∀ (H : Heap) (locs : List Loc) (ls : Array Slot), va_P G vwCl (mS cs h q (upd F 26 f26_143) (vA (vA (vA A 23 a23_143) 24 a24_143) 25 a25_143) D B) H → va_D A0 (mS cs h q (upd F 26 f26_143) (vA (vA (vA A 23 a23_143) 24 a24_143) 25 a25_143) D B) → va_S A0 s.heap H locs → lv_has ls 10 [(0, .ref h), (3, .int a3), (4, .int x60_4), (5, .int v39002), (6, .int v39006), (7, .int v39008), (8, .int x115_8), (9, .int x143_9)] → W p l e (rmk 2 0 0) s m args below meth c H locs 0 0 (MQ below ((QDi G (fun (r : Int32) (u : Int32 × (Nat → Int32) × (Nat → Int32) × (Nat → Int32)) => ((0 : Int) ≤ u.1.toInt ∧ u.1.toInt ≤ 6272) ∧ (CI u.2.1 u.2.2.1 u.2.2.2 u.1 ∧ (r.toInt = -1 ∨ (0 ≤ r.toInt ∧ r.toInt ≤ 6271 ∧ 0 ≤ (u.2.2.1 r.toNatClampNeg).toInt)))) (fun u : Int32 × (Nat → Int32) × (Nat → Int32) × (Nat → Int32) => (mS cs h q (upd F 26 u.1) (vA (vA (vA A 23 u.2.1) 24 u.2.2.1) 25 u.2.2.2) D B))) A0) args s 0 0 A0) (F0 m 179 ls []) := by
                                intro H locs ls hP hD hS hl
                                refine lv_aload_n hx hb dX11_chase_179 rfl (lv_at hl 0 rfl) ?_
                                refine lv_iload hx hb dX11_chase_180 (lv_at hl 6 rfl) ?_
                                refine lv_iload hx hb dX11_chase_182 (lv_at hl 7 rfl) ?_
                                refine lv_aload_n hx hb dX11_chase_184 rfl (lv_at hl 0 rfl) ?_
                                refine lv_iload hx hb dX11_chase_185 (lv_at hl 3 rfl) ?_
                                refine lv_sipush (v := 128) hx hb dX11_chase_187 (by decide) ?_
                                refine lv_irem hx hb dX11_chase_190 (by decide) ?_
                                refine lv_topi (fun v99001 ev99001 => ?_)
                                have tv99001 : v99001.toInt = v39002.toInt % 128 := by rw [ev99001]; exact remT rfl (by decide) (by omega) (by decide)
                                refine behR (runVP (As := [.int v99001]) (rest := [.int x143_9, .int x115_8, .ref h]) ⟨hx, hb, hml, hown, ht⟩ (sX11_wider l G cs h q (upd F 26 f26_143) (vA (vA (vA A 23 a23_143) 24 a24_143) 25 a25_143) D B (IM_arr (k := 25) (IM_arr (k := 24) (IM_arr (k := 23) (IM_put (k := 26) hI (show (0 : Int) ≤ f26_143.toInt ∧ f26_143.toInt ≤ 6272 by omega)) (fun _ => i32b _)) (fun _ => i32b _)) (fun _ => i32b _)) v99001 (by omega)) okV_RX11_330 ⟨by decide, by decide⟩ hK hP [0, 1, 2, 3, 4, 5, 6, 7, 8, 9, 10, 11, 12, 13, 14, 15, 16, 17, 18, 19] rfl 0 rfl rfl hl.1 rfl (Nat.le_of_ble_eq_true rfl) dX11_chase_191 ⟨by decide, by decide⟩) hP hS hA (fun r99002 H locs hr99002 hP hS => ?_)
                                have hr99002 : (0 : Int) ≤ r99002.toInt ∧ r99002.toInt ≤ 127 := hr99002
                                refine lv_iconst (v := 1) hx hb dX11_chase_194 (by decide) ?_
                                refine lv_iload hx hb dX11_chase_195 (lv_at hl 6 rfl) ?_
                                refine lv_ishl hx hb dX11_chase_197 ?_
                                refine lv_topi (fun v99003 ev99003 => ?_)
                                have tv99003 : (1 : Int) ≤ v99003.toInt ∧ v99003.toInt ≤ 64 := by rw [ev99003]; exact shlT 6 (by decide) rfl (by omega) (by decide)
                                have pv99003 : v99003.toInt = P2 x115_8.toInt := by rw [ev99003]; exact shlP rfl (by omega)
                                refine lv_iconst (v := (-1)) hx hb dX11_chase_198 (by decide) ?_
                                refine lv_ixor hx hb dX11_chase_199 ?_
                                refine lv_topi (fun v99004 ev99004 => ?_)
                                refine lv_iand hx hb dX11_chase_200 ?_
                                refine lv_topi (fun v99005 ev99005 => ?_)
                                have tv99005 : 0 ≤ v99005.toInt ∧ v99005.toInt ≤ 127 := by rw [ev99005]; exact andA 7 rfl (by omega) (by decide)
                                refine lv_iconst (v := 1) hx hb dX11_chase_201 (by decide) ?_
                                refine lv_iload hx hb dX11_chase_202 (lv_at hl 7 rfl) ?_
                                refine lv_ishl hx hb dX11_chase_204 ?_
                                refine lv_topi (fun v99006 ev99006 => ?_)
                                have tv99006 : (1 : Int) ≤ v99006.toInt ∧ v99006.toInt ≤ 64 := by rw [ev99006]; exact shlT 6 (by decide) rfl (by omega) (by decide)
                                have pv99006 : v99006.toInt = P2 x143_9.toInt := by rw [ev99006]; exact shlP rfl (by omega)
                                refine lv_iconst (v := (-1)) hx hb dX11_chase_205 (by decide) ?_
                                refine lv_ixor hx hb dX11_chase_206 ?_
                                refine lv_topi (fun v99007 ev99007 => ?_)
                                refine lv_iand hx hb dX11_chase_207 ?_
                                refine lv_topi (fun v99008 ev99008 => ?_)
                                have tv99008 : 0 ≤ v99008.toInt ∧ v99008.toInt ≤ 127 := by rw [ev99008]; exact andA 7 rfl (by omega) (by decide)
                                refine behR (runSP (As := [.int x115_8, .int x143_9, .int v99008]) (rest := [.ref h]) ⟨hx, hb, hml, hown, ht⟩ (sX11_state l G cs x115_8 x143_9 v99008 (by omega) (by omega) (by omega)) okS_RX11_349 ⟨by decide, by decide⟩ hK hP [] rfl hl.1 rfl (Nat.le_of_ble_eq_true rfl) dX11_chase_208 ⟨by decide, by decide⟩) hP hS hA (fun r99009 H locs hr99009 hP hS => ?_)
                                have hr99009 : (0 : Int) ≤ r99009.toInt ∧ r99009.toInt ≤ 6271 := hr99009
                                refine lv_aload_n hx hb dX11_chase_211 rfl (lv_at hl 0 rfl) ?_
                                refine getF (v := .ref (q 24)) hx hb ht hown hK hP iTX11 0 24 rfl rfl (by decide) fl_RX11_52 rfl dX11_chase_212 ?_
                                refine lv_iload hx hb dX11_chase_215 (lv_at hl 3 rfl) ?_
                                refine va_iald hx hb hK.1 hP 13 0 rfl rfl (inK rfl (by omega) (by decide)) dX11_chase_217 ?_
                                refine lv_topi (fun v99010 ev99010 => ?_)
                                have ev99010 : v99010 = a24_143 v39002.toNatClampNeg := ev99010
                                have zfv99010 := hci.2.1 v39002.toNatClampNeg (by have y9 := clK (i := v39002) rfl (by omega); omega)
                                have zgv99010 := hnw
                                rw [← ev99010] at zfv99010 zgv99010
                                have znv99010 : v99010.toInt = (a24_143 v39002.toNatClampNeg).toInt := congrArg Int32.toInt ev99010
                                refine lv_iconst (v := 1) hx hb dX11_chase_218 (by decide) ?_
                                refine lv_iadd hx hb dX11_chase_219 ?_
                                refine lv_topi (fun v99011 ev99011 => ?_)
                                have tv99011 : v99011.toInt = v99010.toInt + 1 := by rw [ev99011]; exact addT rfl (show (1 : Int32).toInt = 1 by decide) (by omega)
                                refine lv_iload hx hb dX11_chase_220 (lv_at hl 3 rfl) ?_
                                refine behDw (wr := []) (runVD (As := [.int r99009, .int v99011, .int v39002]) (rest := []) ⟨hx, hb, hml, hown, ht⟩ (sX11_meet l G cs h q (upd F 26 f26_143) (vA (vA (vA A 23 a23_143) 24 a24_143) 25 a25_143) D B (IM_arr (k := 25) (IM_arr (k := 24) (IM_arr (k := 23) (IM_put (k := 26) hI (show (0 : Int) ≤ f26_143.toInt ∧ f26_143.toInt ≤ 6272 by omega)) (fun _ => i32b _)) (fun _ => i32b _)) (fun _ => i32b _)) r99009 v99011 v39002 (by omega) (by omega) (show CI a23_143 a24_143 a25_143 f26_143 from hci) (show v99011.toInt ≤ f26_143.toInt from (by omega)) (show 1 ≤ v99011.toInt → 0 ≤ v39002.toInt ∧ v39002.toInt ≤ 6271 ∧ (a24_143 v39002.toNatClampNeg).toInt = v99011.toInt - 1 from (fun _ => ⟨by omega, by omega, by rw [← ev99010]; omega⟩))) okV_RX11_352 ⟨by decide, by decide⟩ hK hP hD [0, 1, 2, 3, 4, 5, 6, 7, 8, 9, 10, 11, 12, 13, 14, 15, 16, 17, 18, 19] rfl (by decide) rfl 0 rfl rfl hl.1 rfl (Nat.le_of_ble_eq_true rfl) dX11_chase_222 ⟨(Nat.le_of_ble_eq_true rfl), (Nat.le_of_ble_eq_true rfl)⟩) hP hD hS hA [0, 1, 2, 3, 4, 5, 6, 7, 8, 9, 10, 11, 12, 13, 14, 15, 16, 17, 18, 19] [] rfl rfl (by decide) (by decide) (fun u H locs hu hP hD hS => ?_)
                                obtain ⟨x99012, g99013, g99014, g99015⟩ := u
                                obtain ⟨hbx99012, hr99016⟩ := hu
                                have hbx99012 : (0 : Int) ≤ x99012.toInt ∧ x99012.toInt ≤ 6272 := hbx99012
                                have hr99016 : CI g99013 g99014 g99015 x99012 ∧ ∀ x : Nat, 0 ≤ (a24_143 x).toInt → g99014 x = a24_143 x := hr99016
                                have hP : va_P G vwCl (mS cs h q (upd F 26 x99012) (vA (vA (vA A 23 g99013) 24 g99014) 25 g99015) D B) H := hP
                                have hD : va_D A0 (mS cs h q (upd F 26 x99012) (vA (vA (vA A 23 g99013) 24 g99014) 25 g99015) D B) := hD
                                exact B225 x99012 g99013 g99014 g99015 H locs ls (by omega) hr99016.1 (by rw [hr99016.2 _ hnw]; exact hnw) hP hD hS (lv_sub hl [0, 1, 2, 3, 4, 5, 6, 7] rfl)
                              refine lv_if_eq (tgt := 168) hx hb dX11_chase_155 (by decide) (fun c82003 => ?_) (fun c82003 => ?_)
                              · have zc82003 := eqK rfl (show (0 : Int32).toInt = 0 by decide) c82003
                                refine lv_aload_n hx hb dX11_chase_168 rfl (lv_at hl 0 rfl) ?_
                                refine lv_iload hx hb dX11_chase_169 (lv_at hl 5 rfl) ?_
                                refine lv_iload hx hb dX11_chase_171 (lv_at hl 7 rfl) ?_
                                refine behR (runVP (As := [.int v39008, .int x143_9]) (rest := []) ⟨hx, hb, hml, hown, ht⟩ (sX11_goesTo l G cs h q (upd F 26 f26_143) (vA (vA (vA A 23 a23_143) 24 a24_143) 25 a25_143) D B (IM_arr (k := 25) (IM_arr (k := 24) (IM_arr (k := 23) (IM_put (k := 26) hI (show (0 : Int) ≤ f26_143.toInt ∧ f26_143.toInt ≤ 6272 by omega)) (fun _ => i32b _)) (fun _ => i32b _)) (fun _ => i32b _)) v39008 x143_9 (by omega)) okV_RX11_312 ⟨by decide, by decide⟩ hK hP [0, 1, 2, 3, 4, 5, 6, 7, 8, 9, 10, 11, 12, 13, 14, 15, 16, 17, 18, 19] rfl 0 rfl rfl hl.1 rfl (Nat.le_of_ble_eq_true rfl) dX11_chase_173 ⟨by decide, by decide⟩) hP hS hA (fun r82004 H locs hr82004 hP hS => ?_)
                                have hr82004 : (0 : Int) ≤ r82004.toInt ∧ r82004.toInt ≤ 1 := hr82004
                                refine lv_if_eq (tgt := 225) hx hb dX11_chase_176 (by decide) (fun c82005 => ?_) (fun c82005 => ?_)
                                · have zc82005 := eqK rfl (show (0 : Int32).toInt = 0 by decide) c82005
                                  exact B225 f26_143 a23_143 a24_143 a25_143 H locs ls (by omega) hci hnw hP hD hS (lv_sub hl [0, 1, 2, 3, 4, 5, 6, 7] rfl)
                                · have zc82005 := neK rfl (show (0 : Int32).toInt = 0 by decide) c82005
                                  exact B179 H locs ls hP hD hS (lv_sub hl [0, 1, 2, 3, 4, 5, 6, 7] rfl)
                              · have zc82003 := neK rfl (show (0 : Int32).toInt = 0 by decide) c82003
                                refine lv_iload hx hb dX11_chase_158 (lv_at hl 7 rfl) ?_
                                refine lv_iload hx hb dX11_chase_160 (lv_at hl 6 rfl) ?_
                                refine lv_icmp_ne (tgt := 225) hx hb dX11_chase_162 (by decide) (fun c82006 => ?_) (fun c82006 => ?_)
                                · have zc82006 := neK rfl rfl c82006
                                  exact B225 f26_143 a23_143 a24_143 a25_143 H locs ls (by omega) hci hnw hP hD hS (lv_sub hl [0, 1, 2, 3, 4, 5, 6, 7] rfl)
                                · have zc82006 := eqK rfl rfl c82006
                                  refine lv_goto (tgt := 179) hx hb dX11_chase_165 (by decide) ?_
                                  exact B179 H locs ls hP hD hS (lv_sub hl [0, 1, 2, 3, 4, 5, 6, 7] rfl)
                        exact B143 _ 0 f26_115 a23_115 a24_115 a25_115 H locs ls (Nat.lt_succ_self _) (by decide) (by omega) hci hnw hP hD hS (lv_sub hl [1, 2, 3, 4, 5, 6, 7, 0] rfl)
                      · have zc68005 := eqK rfl (show (0 : Int32).toInt = 0 by decide) c68005
                        refine lv_goto (tgt := 231) hx hb dX11_chase_137 (by decide) ?_
                        exact B231 f26_115 a23_115 a24_115 a25_115 H locs ls (by omega) hci hnw hP hD hS (lv_sub hl [0, 1, 2, 3, 4, 5, 6] rfl)
                exact B115 _ 0 f26_60 a23_60 a24_60 a25_60 H locs ls (Nat.lt_succ_self _) (by decide) (by omega) hci zqv39002.2.2 hP hD hS (lv_sub hl [4, 5, 6, 3, 2, 1, 0] rfl)
              · have zc39004 := eqK rfl (show (0 : Int32).toInt = 0 by decide) c39004
                refine lv_iload hx hb dX11_chase_87 (lv_at hl 0 rfl) ?_
                exact retDi (f26_60, a23_60, a24_60, a25_60) hx hb hr hlk hP hD hS dX11_chase_89 (⟨show (0 : Int) ≤ f26_60.toInt ∧ f26_60.toInt ≤ 6272 by omega, ⟨hci, by first | (left; decide) | (right; exact ⟨by omega, by omega, zqv39002.2.2⟩)⟩⟩) (Nat.le_of_ble_eq_true rfl) (Nat.le_of_ble_eq_true rfl)
        exact B60 _ 0 x3010 g3011 g3012 g3013 H locs ls (Nat.lt_succ_self _) (by decide) (by omega) hr3014.1 hP hD hS (lv_sub hl [1, 4, 0] rfl)
      · have zc3001 := nleK (show (6272 : Int32).toInt = 6272 by decide) rfl c3001
        refine lv_aload_n hx hb dX11_chase_11 rfl (lv_at hl 0 rfl) ?_
        refine getF (v := .ref (q 24)) hx hb ht hown hK hP iTX11 0 24 rfl rfl (by decide) fl_RX11_52 rfl dX11_chase_12 ?_
        refine lv_iload hx hb dX11_chase_15 (lv_at hl 4 rfl) ?_
        refine lv_iconst (v := (-1)) hx hb dX11_chase_17 (by decide) ?_
        refine va_iast hx hb hK.1 hP hD hS 13 0 rfl rfl (inK rfl (by omega) (by decide)) dX11_chase_18 (fun H locs hP hD hS => ?_)
        have hP : va_P G vwCl (mS cs h q F (vA A 24 (upd a24_3 x3_4.toNatClampNeg (-1 : Int32))) D B) H := hP
        have hD : va_D A0 (mS cs h q F (vA A 24 (upd a24_3 x3_4.toNatClampNeg (-1 : Int32))) D B) := hD
        obtain ⟨g3017, eg3017⟩ : ∃ z : Nat → Int32, z = upd a24_3 x3_4.toNatClampNeg (-1 : Int32) := ⟨_, rfl⟩
        rw [← eg3017] at hP hD
        obtain ⟨v3018, ev3018⟩ : ∃ z : Int32, z = x3_4 + 1 := ⟨_, rfl⟩
        have tv3018 : v3018.toInt = x3_4.toInt + 1 := by rw [ev3018]; exact addT rfl (by decide) (by omega)
        refine lv_iinc (v := v3018) (lv' := [(4, .int v3018), (0, .ref h), (1, .int a1), (2, .int a2), (3, .int a3)]) hx hb dX11_chase_19 hl (k := 4) rfl (by rw [ev3018]; rfl) (by decide) rfl (fun ls hl => ?_)
        refine lv_goto (tgt := 3) hx hb dX11_chase_22 (by decide) ?_
        exact ih3 v3018 g3017 H locs ls (by omega) (by omega) (FMs hfm eg3017 (clK rfl (by omega)) (by decide) tv3018) hP hD hS (lv_sub hl [1, 2, 3, 4, 0] rfl)
  exact B3 _ 0 (A 24) s.heap [] ls (Nat.lt_succ_self _) (by decide) (FM0 (by decide)) hP hD hS (lv_sub hl [1, 2, 3, 4, 0] rfl)

set_option maxRecDepth 100000 in
set_option maxHeartbeats 8000000 in
theorem sX11_farTo (l : Launch) (G : va_G) (cs : Nat → ClassId) (h : Nat) (q : Nat → Nat) (F : Nat → Int32) (A : Nat → Nat → Int32) (D : Int64) (B : Nat → Nat → Int64) (hI : IM F A) (a1 : Int32) (ha1 : (-1 : Int) ≤ a1.toInt ∧ a1.toInt ≤ 6271) : SafeR l yX11_farTo cX11_farTo 2 (some .int) 0 G (TY cs) [.ref h, .int a1] (mS cs h q F A D B) (fun r : Int32 => True) := by
  refine mkP (Qc := QRi (fun r : Int32 => True)) (by decide) (by simp [lg_sl, Value.category]) ?_
  intro p e s m args below meth c ls hx hb hml hr hlk hown ht hK hP hS hl
  have hl : lv_has ls 2 [(0, .ref h), (1, .int a1)] := hl
  refine lv_iload_n hx hb dX11_farTo_0 rfl (lv_at hl 1 rfl) ?_
  refine lv_iconst (v := (-1)) hx hb dX11_farTo_1 (by decide) ?_
  refine lv_icmp_ne (tgt := 9) hx hb dX11_farTo_2 (by decide) (fun c1 => ?_) (fun c1 => ?_)
  · have zc1 := neK rfl (show (-1 : Int32).toInt = (-1) by decide) c1
    refine lv_aload_n hx hb dX11_farTo_9 rfl (lv_at hl 0 rfl) ?_
    refine getF (v := .ref (q 24)) hx hb ht hown hK hP iTX11 0 24 rfl rfl (by decide) fl_RX11_52 rfl dX11_farTo_10 ?_
    refine lv_iload_n hx hb dX11_farTo_13 rfl (lv_at hl 1 rfl) ?_
    refine va_iald hx hb hK.1 hP 13 0 rfl rfl (inK rfl (by omega) (by decide)) dX11_farTo_14 ?_
    refine lv_topi (fun v2 ev2 => ?_)
    exact retRi hx hb hr hlk hS dX11_farTo_15 (trivial)
  · have zc1 := eqK rfl (show (-1 : Int32).toInt = (-1) by decide) c1
    refine lv_iconst (v := (-1)) hx hb dX11_farTo_5 (by decide) ?_
    refine lv_goto (tgt := 15) hx hb dX11_farTo_6 (by decide) ?_
    exact retRi hx hb hr hlk hS dX11_farTo_15 (trivial)

set_option maxRecDepth 100000 in
set_option maxHeartbeats 8000000 in
theorem sX11_one (l : Launch) (G : va_G) (cs : Nat → ClassId) (h : Nat) (q : Nat → Nat) (F : Nat → Int32) (A : Nat → Nat → Int32) (D : Int64) (B : Nat → Nat → Int64) (hI : IM F A) (a1 : Int32) : ImpI l yX11_one cX11_one 2 (some .int) 3 0 0 G (TY cs) [.ref h, .int a1] (mS cs h q F A D B) (fun (r : Int32) (u : Int32 × (Nat → Int32) × (Nat → Int32) × (Nat → Int32)) => ((0 : Int) ≤ u.1.toInt ∧ u.1.toInt ≤ 6272) ∧ (True)) (fun u : Int32 × (Nat → Int32) × (Nat → Int32) × (Nat → Int32) => (mS cs h q (upd F 26 u.1) (vA (vA (vA A 23 u.2.1) 24 u.2.2.1) 25 u.2.2.2) D B)) := by
  refine mkD (Qc := (QDi G (fun (r : Int32) (u : Int32 × (Nat → Int32) × (Nat → Int32) × (Nat → Int32)) => ((0 : Int) ≤ u.1.toInt ∧ u.1.toInt ≤ 6272) ∧ (True)) (fun u : Int32 × (Nat → Int32) × (Nat → Int32) × (Nat → Int32) => (mS cs h q (upd F 26 u.1) (vA (vA (vA A 23 u.2.1) 24 u.2.2.1) 25 u.2.2.2) D B)))) (by decide) (by simp [lg_sl, Value.category]) ?_
  intro p e s m args below meth c ls A0 hx hb hml hr hlk hown hmn ht hK hP hD hS hA hl
  have hl : lv_has ls 2 [(0, .ref h), (1, .int a1)] := hl
  refine lv_aload_n hx hb dX11_one_0 rfl (lv_at hl 0 rfl) ?_
  refine lv_iload_n hx hb dX11_one_1 rfl (lv_at hl 1 rfl) ?_
  refine lv_i2l hx hb dX11_one_2 rfl ?_
  have bb1 := i32b a1
  refine lv_topl (fun v2 ev2 => ?_)
  have tv2 : v2.toInt = a1.toInt := by rw [ev2]; exact Int32.toInt_toInt64 _
  refine behR (runVP (As := [.long v2]) (rest := []) ⟨hx, hb, hml, hown, ht⟩ (sX11_isRoom l G cs h q F A D B hI v2 ) okV_RX11_89 ⟨by decide, by decide⟩ hK hP [0, 1, 2, 3, 4, 5, 6, 7, 8, 9, 10, 11, 12, 13, 14, 15, 16, 17, 18, 19] rfl 0 rfl rfl hl.1 rfl (Nat.le_of_ble_eq_true rfl) dX11_one_3 ⟨by decide, by decide⟩) hP hS hA (fun r3 H locs hr3 hP hS => ?_)
  have hr3 : (r3.toInt = 1 ∧ 0 ≤ v2.toInt ∧ v2.toInt < (A 1 4).toInt ∧ v2.toInt ≤ 6 ∧ (A 1 4).toInt ≤ 7) ∨ r3.toInt = 0 := hr3
  refine lv_if_eq (tgt := 23) hx hb dX11_one_6 (by decide) (fun c4 => ?_) (fun c4 => ?_)
  · have zc4 := eqK rfl (show (0 : Int32).toInt = 0 by decide) c4
    refine lv_bipush (v := (-2)) hx hb dX11_one_23 (by decide) ?_
    exact retDi ((F 26), (A 23), (A 24), (A 25)) hx hb hr hlk hP hD hS dX11_one_25 (⟨hI.1 26, trivial⟩) (Nat.le_of_ble_eq_true rfl) (Nat.le_of_ble_eq_true rfl)
  · have zc4 := neK rfl (show (0 : Int32).toInt = 0 by decide) c4
    refine lv_aload_n hx hb dX11_one_9 rfl (lv_at hl 0 rfl) ?_
    refine lv_aload_n hx hb dX11_one_10 rfl (lv_at hl 0 rfl) ?_
    refine lv_iload_n hx hb dX11_one_11 rfl (lv_at hl 1 rfl) ?_
    refine lv_iload_n hx hb dX11_one_12 rfl (lv_at hl 1 rfl) ?_
    refine lv_iconst (v := 1) hx hb dX11_one_13 (by decide) ?_
    refine behDi (wr := []) (runVD (As := [.int a1, .int a1, .int 1]) (rest := [.ref h]) ⟨hx, hb, hml, hown, ht⟩ (sX11_chase l G cs h q F A D B hI a1 a1 1 (by omega) (by omega) (by decide)) okV_RX11_356 ⟨by decide, by decide⟩ hK hP hD [0, 1, 2, 3, 4, 5, 6, 7, 8, 9, 10, 11, 12, 13, 14, 15, 16, 17, 18, 19] rfl (by decide) rfl 0 rfl rfl hl.1 rfl (Nat.le_of_ble_eq_true rfl) dX11_one_14 ⟨(Nat.le_of_ble_eq_true rfl), (Nat.le_of_ble_eq_true rfl)⟩) hP hD hS hA [0, 1, 2, 3, 4, 5, 6, 7, 8, 9, 10, 11, 12, 13, 14, 15, 16, 17, 18, 19] [] rfl rfl (by decide) (by decide) (fun r9 u H locs hu hP hD hS => ?_)
    obtain ⟨x5, g6, g7, g8⟩ := u
    have kk10 : (1 : Int32).toInt = 1 := by decide
    obtain ⟨r9, rfl⟩ : ∃ z, z = r9 := ⟨_, rfl⟩
    obtain ⟨hbx5, hr9⟩ := hu
    have hbx5 : (0 : Int) ≤ x5.toInt ∧ x5.toInt ≤ 6272 := hbx5
    have hr9 : CI g6 g7 g8 x5 ∧ (r9.toInt = -1 ∨ (0 ≤ r9.toInt ∧ r9.toInt ≤ 6271 ∧ 0 ≤ (g7 r9.toNatClampNeg).toInt)) := hr9
    have hP : va_P G vwCl (mS cs h q (upd F 26 x5) (vA (vA (vA A 23 g6) 24 g7) 25 g8) D B) H := hP
    have hD : va_D A0 (mS cs h q (upd F 26 x5) (vA (vA (vA A 23 g6) 24 g7) 25 g8) D B) := hD
    refine behR (runVP (As := [.int r9]) (rest := []) ⟨hx, hb, hml, hown, ht⟩ (sX11_farTo l G cs h q (upd F 26 x5) (vA (vA (vA A 23 g6) 24 g7) 25 g8) D B (IM_arr (k := 25) (IM_arr (k := 24) (IM_arr (k := 23) (IM_put (k := 26) hI (show (0 : Int) ≤ x5.toInt ∧ x5.toInt ≤ 6272 by omega)) (fun _ => i32b _)) (fun _ => i32b _)) (fun _ => i32b _)) r9 (by omega)) okV_RX11_360 ⟨by decide, by decide⟩ hK hP [0, 1, 2, 3, 4, 5, 6, 7, 8, 9, 10, 11, 12, 13, 14, 15, 16, 17, 18, 19] rfl 0 rfl rfl hl.1 rfl (Nat.le_of_ble_eq_true rfl) dX11_one_17 ⟨by decide, by decide⟩) hP hS hA (fun r11 H locs hr11 hP hS => ?_)
    refine lv_goto (tgt := 25) hx hb dX11_one_20 (by decide) ?_
    exact retDi (x5, g6, g7, g8) hx hb hr hlk hP hD hS dX11_one_25 (⟨show (0 : Int) ≤ x5.toInt ∧ x5.toInt ≤ 6272 by omega, trivial⟩) (Nat.le_of_ble_eq_true rfl) (Nat.le_of_ble_eq_true rfl)

set_option maxRecDepth 100000 in
set_option maxHeartbeats 8000000 in
theorem sX11_two (l : Launch) (G : va_G) (cs : Nat → ClassId) (h : Nat) (q : Nat → Nat) (F : Nat → Int32) (A : Nat → Nat → Int32) (D : Int64) (B : Nat → Nat → Int64) (hI : IM F A) (a1 : Int32) (a2 : Int32) : ImpI l yX11_two cX11_two 3 (some .int) 3 0 0 G (TY cs) [.ref h, .int a1, .int a2] (mS cs h q F A D B) (fun (r : Int32) (u : Int32 × (Nat → Int32) × (Nat → Int32) × (Nat → Int32)) => ((0 : Int) ≤ u.1.toInt ∧ u.1.toInt ≤ 6272) ∧ (True)) (fun u : Int32 × (Nat → Int32) × (Nat → Int32) × (Nat → Int32) => (mS cs h q (upd F 26 u.1) (vA (vA (vA A 23 u.2.1) 24 u.2.2.1) 25 u.2.2.2) D B)) := by
  refine mkD (Qc := (QDi G (fun (r : Int32) (u : Int32 × (Nat → Int32) × (Nat → Int32) × (Nat → Int32)) => ((0 : Int) ≤ u.1.toInt ∧ u.1.toInt ≤ 6272) ∧ (True)) (fun u : Int32 × (Nat → Int32) × (Nat → Int32) × (Nat → Int32) => (mS cs h q (upd F 26 u.1) (vA (vA (vA A 23 u.2.1) 24 u.2.2.1) 25 u.2.2.2) D B)))) (by decide) (by simp [lg_sl, Value.category]) ?_
  intro p e s m args below meth c ls A0 hx hb hml hr hlk hown hmn ht hK hP hD hS hA hl
  have hl : lv_has ls 3 [(0, .ref h), (1, .int a1), (2, .int a2)] := hl
  refine lv_aload_n hx hb dX11_two_0 rfl (lv_at hl 0 rfl) ?_
  refine lv_iload_n hx hb dX11_two_1 rfl (lv_at hl 1 rfl) ?_
  refine lv_i2l hx hb dX11_two_2 rfl ?_
  have bb1 := i32b a1
  refine lv_topl (fun v2 ev2 => ?_)
  have tv2 : v2.toInt = a1.toInt := by rw [ev2]; exact Int32.toInt_toInt64 _
  refine behR (runVP (As := [.long v2]) (rest := []) ⟨hx, hb, hml, hown, ht⟩ (sX11_isRoom l G cs h q F A D B hI v2 ) okV_RX11_89 ⟨by decide, by decide⟩ hK hP [0, 1, 2, 3, 4, 5, 6, 7, 8, 9, 10, 11, 12, 13, 14, 15, 16, 17, 18, 19] rfl 0 rfl rfl hl.1 rfl (Nat.le_of_ble_eq_true rfl) dX11_two_3 ⟨by decide, by decide⟩) hP hS hA (fun r3 H locs hr3 hP hS => ?_)
  have hr3 : (r3.toInt = 1 ∧ 0 ≤ v2.toInt ∧ v2.toInt < (A 1 4).toInt ∧ v2.toInt ≤ 6 ∧ (A 1 4).toInt ≤ 7) ∨ r3.toInt = 0 := hr3
  refine lv_if_eq (tgt := 32) hx hb dX11_two_6 (by decide) (fun c4 => ?_) (fun c4 => ?_)
  · have zc4 := eqK rfl (show (0 : Int32).toInt = 0 by decide) c4
    refine lv_bipush (v := (-2)) hx hb dX11_two_32 (by decide) ?_
    exact retDi ((F 26), (A 23), (A 24), (A 25)) hx hb hr hlk hP hD hS dX11_two_34 (⟨hI.1 26, trivial⟩) (Nat.le_of_ble_eq_true rfl) (Nat.le_of_ble_eq_true rfl)
  · have zc4 := neK rfl (show (0 : Int32).toInt = 0 by decide) c4
    refine lv_aload_n hx hb dX11_two_9 rfl (lv_at hl 0 rfl) ?_
    refine lv_iload_n hx hb dX11_two_10 rfl (lv_at hl 2 rfl) ?_
    refine lv_i2l hx hb dX11_two_11 rfl ?_
    have bb5 := i32b a2
    refine lv_topl (fun v6 ev6 => ?_)
    have tv6 : v6.toInt = a2.toInt := by rw [ev6]; exact Int32.toInt_toInt64 _
    refine behR (runVP (As := [.long v6]) (rest := []) ⟨hx, hb, hml, hown, ht⟩ (sX11_isRoom l G cs h q F A D B hI v6 ) okV_RX11_89 ⟨by decide, by decide⟩ hK hP [0, 1, 2, 3, 4, 5, 6, 7, 8, 9, 10, 11, 12, 13, 14, 15, 16, 17, 18, 19] rfl 0 rfl rfl hl.1 rfl (Nat.le_of_ble_eq_true rfl) dX11_two_12 ⟨by decide, by decide⟩) hP hS hA (fun r7 H locs hr7 hP hS => ?_)
    have hr7 : (r7.toInt = 1 ∧ 0 ≤ v6.toInt ∧ v6.toInt < (A 1 4).toInt ∧ v6.toInt ≤ 6 ∧ (A 1 4).toInt ≤ 7) ∨ r7.toInt = 0 := hr7
    refine lv_if_eq (tgt := 32) hx hb dX11_two_15 (by decide) (fun c8 => ?_) (fun c8 => ?_)
    · have zc8 := eqK rfl (show (0 : Int32).toInt = 0 by decide) c8
      refine lv_bipush (v := (-2)) hx hb dX11_two_32 (by decide) ?_
      exact retDi ((F 26), (A 23), (A 24), (A 25)) hx hb hr hlk hP hD hS dX11_two_34 (⟨hI.1 26, trivial⟩) (Nat.le_of_ble_eq_true rfl) (Nat.le_of_ble_eq_true rfl)
    · have zc8 := neK rfl (show (0 : Int32).toInt = 0 by decide) c8
      refine lv_aload_n hx hb dX11_two_18 rfl (lv_at hl 0 rfl) ?_
      refine lv_aload_n hx hb dX11_two_19 rfl (lv_at hl 0 rfl) ?_
      refine lv_iload_n hx hb dX11_two_20 rfl (lv_at hl 1 rfl) ?_
      refine lv_iload_n hx hb dX11_two_21 rfl (lv_at hl 2 rfl) ?_
      refine lv_iconst (v := 0) hx hb dX11_two_22 (by decide) ?_
      refine behDi (wr := []) (runVD (As := [.int a1, .int a2, .int 0]) (rest := [.ref h]) ⟨hx, hb, hml, hown, ht⟩ (sX11_chase l G cs h q F A D B hI a1 a2 0 (by omega) (by omega) (by decide)) okV_RX11_356 ⟨by decide, by decide⟩ hK hP hD [0, 1, 2, 3, 4, 5, 6, 7, 8, 9, 10, 11, 12, 13, 14, 15, 16, 17, 18, 19] rfl (by decide) rfl 0 rfl rfl hl.1 rfl (Nat.le_of_ble_eq_true rfl) dX11_two_23 ⟨(Nat.le_of_ble_eq_true rfl), (Nat.le_of_ble_eq_true rfl)⟩) hP hD hS hA [0, 1, 2, 3, 4, 5, 6, 7, 8, 9, 10, 11, 12, 13, 14, 15, 16, 17, 18, 19] [] rfl rfl (by decide) (by decide) (fun r9 u H locs hu hP hD hS => ?_)
      obtain ⟨x9, g10, g11, g12⟩ := u
      have kk14 : (0 : Int32).toInt = 0 := by decide
      obtain ⟨r13, rfl⟩ : ∃ z, z = r9 := ⟨_, rfl⟩
      obtain ⟨hbx9, hr13⟩ := hu
      have hbx9 : (0 : Int) ≤ x9.toInt ∧ x9.toInt ≤ 6272 := hbx9
      have hr13 : CI g10 g11 g12 x9 ∧ (r13.toInt = -1 ∨ (0 ≤ r13.toInt ∧ r13.toInt ≤ 6271 ∧ 0 ≤ (g11 r13.toNatClampNeg).toInt)) := hr13
      have hP : va_P G vwCl (mS cs h q (upd F 26 x9) (vA (vA (vA A 23 g10) 24 g11) 25 g12) D B) H := hP
      have hD : va_D A0 (mS cs h q (upd F 26 x9) (vA (vA (vA A 23 g10) 24 g11) 25 g12) D B) := hD
      refine behR (runVP (As := [.int r13]) (rest := []) ⟨hx, hb, hml, hown, ht⟩ (sX11_farTo l G cs h q (upd F 26 x9) (vA (vA (vA A 23 g10) 24 g11) 25 g12) D B (IM_arr (k := 25) (IM_arr (k := 24) (IM_arr (k := 23) (IM_put (k := 26) hI (show (0 : Int) ≤ x9.toInt ∧ x9.toInt ≤ 6272 by omega)) (fun _ => i32b _)) (fun _ => i32b _)) (fun _ => i32b _)) r13 (by omega)) okV_RX11_360 ⟨by decide, by decide⟩ hK hP [0, 1, 2, 3, 4, 5, 6, 7, 8, 9, 10, 11, 12, 13, 14, 15, 16, 17, 18, 19] rfl 0 rfl rfl hl.1 rfl (Nat.le_of_ble_eq_true rfl) dX11_two_26 ⟨by decide, by decide⟩) hP hS hA (fun r15 H locs hr15 hP hS => ?_)
      refine lv_goto (tgt := 34) hx hb dX11_two_29 (by decide) ?_
      exact retDi (x9, g10, g11, g12) hx hb hr hlk hP hD hS dX11_two_34 (⟨show (0 : Int) ≤ x9.toInt ∧ x9.toInt ≤ 6272 by omega, trivial⟩) (Nat.le_of_ble_eq_true rfl) (Nat.le_of_ble_eq_true rfl)

set_option maxRecDepth 100000 in
set_option maxHeartbeats 8000000 in
theorem sX11_way (l : Launch) (G : va_G) (cs : Nat → ClassId) (h : Nat) (q : Nat → Nat) (F : Nat → Int32) (A : Nat → Nat → Int32) (D : Int64) (B : Nat → Nat → Int64) (hI : IM F A) (a1 : Int32) (a2 : Int32) (a3 : Int32) (a4 : Int32) : ImpI l yX11_way cX11_way 6 (some .int) 3 0 0 G (TY cs) [.ref h, .int a1, .int a2, .int a3, .int a4] (mS cs h q F A D B) (fun (r : Int32) (u : Int32 × (Nat → Int32) × (Nat → Int32) × (Nat → Int32)) => ((0 : Int) ≤ u.1.toInt ∧ u.1.toInt ≤ 6272) ∧ (True)) (fun u : Int32 × (Nat → Int32) × (Nat → Int32) × (Nat → Int32) => (mS cs h q (upd F 26 u.1) (vA (vA (vA A 23 u.2.1) 24 u.2.2.1) 25 u.2.2.2) D B)) := by
  refine mkD (Qc := (QDi G (fun (r : Int32) (u : Int32 × (Nat → Int32) × (Nat → Int32) × (Nat → Int32)) => ((0 : Int) ≤ u.1.toInt ∧ u.1.toInt ≤ 6272) ∧ (True)) (fun u : Int32 × (Nat → Int32) × (Nat → Int32) × (Nat → Int32) => (mS cs h q (upd F 26 u.1) (vA (vA (vA A 23 u.2.1) 24 u.2.2.1) 25 u.2.2.2) D B)))) (by decide) (by simp [lg_sl, Value.category]) ?_
  intro p e s m args below meth c ls A0 hx hb hml hr hlk hown hmn ht hK hP hD hS hA hl
  have hl : lv_has ls 6 [(0, .ref h), (1, .int a1), (2, .int a2), (3, .int a3), (4, .int a4)] := hl
  refine lv_aload_n hx hb dX11_way_0 rfl (lv_at hl 0 rfl) ?_
  refine lv_iload_n hx hb dX11_way_1 rfl (lv_at hl 1 rfl) ?_
  refine lv_i2l hx hb dX11_way_2 rfl ?_
  have bb1 := i32b a1
  refine lv_topl (fun v2 ev2 => ?_)
  have tv2 : v2.toInt = a1.toInt := by rw [ev2]; exact Int32.toInt_toInt64 _
  refine behR (runVP (As := [.long v2]) (rest := []) ⟨hx, hb, hml, hown, ht⟩ (sX11_isRoom l G cs h q F A D B hI v2 ) okV_RX11_89 ⟨by decide, by decide⟩ hK hP [0, 1, 2, 3, 4, 5, 6, 7, 8, 9, 10, 11, 12, 13, 14, 15, 16, 17, 18, 19] rfl 0 rfl rfl hl.1 rfl (Nat.le_of_ble_eq_true rfl) dX11_way_3 ⟨by decide, by decide⟩) hP hS hA (fun r3 H locs hr3 hP hS => ?_)
  have hr3 : (r3.toInt = 1 ∧ 0 ≤ v2.toInt ∧ v2.toInt < (A 1 4).toInt ∧ v2.toInt ≤ 6 ∧ (A 1 4).toInt ≤ 7) ∨ r3.toInt = 0 := hr3
  refine lv_if_eq (tgt := 28) hx hb dX11_way_6 (by decide) (fun c4 => ?_) (fun c4 => ?_)
  · have zc4 := eqK rfl (show (0 : Int32).toInt = 0 by decide) c4
    refine lv_bipush (v := (-2)) hx hb dX11_way_28 (by decide) ?_
    exact retDi ((F 26), (A 23), (A 24), (A 25)) hx hb hr hlk hP hD hS dX11_way_30 (⟨hI.1 26, trivial⟩) (Nat.le_of_ble_eq_true rfl) (Nat.le_of_ble_eq_true rfl)
  · have zc4 := neK rfl (show (0 : Int32).toInt = 0 by decide) c4
    refine lv_aload_n hx hb dX11_way_9 rfl (lv_at hl 0 rfl) ?_
    refine lv_iload_n hx hb dX11_way_10 rfl (lv_at hl 2 rfl) ?_
    refine lv_i2l hx hb dX11_way_11 rfl ?_
    have bb5 := i32b a2
    refine lv_topl (fun v6 ev6 => ?_)
    have tv6 : v6.toInt = a2.toInt := by rw [ev6]; exact Int32.toInt_toInt64 _
    refine behR (runVP (As := [.long v6]) (rest := []) ⟨hx, hb, hml, hown, ht⟩ (sX11_isRoom l G cs h q F A D B hI v6 ) okV_RX11_89 ⟨by decide, by decide⟩ hK hP [0, 1, 2, 3, 4, 5, 6, 7, 8, 9, 10, 11, 12, 13, 14, 15, 16, 17, 18, 19] rfl 0 rfl rfl hl.1 rfl (Nat.le_of_ble_eq_true rfl) dX11_way_12 ⟨by decide, by decide⟩) hP hS hA (fun r7 H locs hr7 hP hS => ?_)
    have hr7 : (r7.toInt = 1 ∧ 0 ≤ v6.toInt ∧ v6.toInt < (A 1 4).toInt ∧ v6.toInt ≤ 6 ∧ (A 1 4).toInt ≤ 7) ∨ r7.toInt = 0 := hr7
    refine lv_if_eq (tgt := 28) hx hb dX11_way_15 (by decide) (fun c8 => ?_) (fun c8 => ?_)
    · have zc8 := eqK rfl (show (0 : Int32).toInt = 0 by decide) c8
      refine lv_bipush (v := (-2)) hx hb dX11_way_28 (by decide) ?_
      exact retDi ((F 26), (A 23), (A 24), (A 25)) hx hb hr hlk hP hD hS dX11_way_30 (⟨hI.1 26, trivial⟩) (Nat.le_of_ble_eq_true rfl) (Nat.le_of_ble_eq_true rfl)
    · have zc8 := neK rfl (show (0 : Int32).toInt = 0 by decide) c8
      refine lv_iload_n hx hb dX11_way_18 rfl (lv_at hl 3 rfl) ?_
      refine lv_i2l hx hb dX11_way_19 rfl ?_
      have bb9 := i32b a3
      refine lv_topl (fun v10 ev10 => ?_)
      have tv10 : v10.toInt = a3.toInt := by rw [ev10]; exact Int32.toInt_toInt64 _
      refine lv_lconst (v := 0) hx hb dX11_way_20 (by decide) ?_
      refine lv_lconst (v := 1) hx hb dX11_way_21 (by decide) ?_
      refine behR (runSP (As := [.long v10, .long 0, .long 1]) (rest := []) ⟨hx, hb, hml, hown, ht⟩ (sX11_in l G cs v10 0 1 ) okS_RX11_79 ⟨by decide, by decide⟩ hK hP [] rfl hl.1 rfl (Nat.le_of_ble_eq_true rfl) dX11_way_22 ⟨by decide, by decide⟩) hP hS hA (fun r11 H locs hr11 hP hS => ?_)
      have kk12 : (0 : Int64).toInt = 0 := by decide
      have kk13 : (1 : Int64).toInt = 1 := by decide
      have hr11 : (r11.toInt = 1 ∧ (0 : Int64).toInt ≤ v10.toInt ∧ v10.toInt ≤ (1 : Int64).toInt) ∨ (r11.toInt = 0 ∧ (v10.toInt < (0 : Int64).toInt ∨ (1 : Int64).toInt < v10.toInt)) := hr11
      refine lv_if_ne (tgt := 31) hx hb dX11_way_25 (by decide) (fun c14 => ?_) (fun c14 => ?_)
      · have zc14 := neK rfl (show (0 : Int32).toInt = 0 by decide) c14
        refine lv_aload_n hx hb dX11_way_31 rfl (lv_at hl 0 rfl) ?_
        refine lv_iload_n hx hb dX11_way_32 rfl (lv_at hl 1 rfl) ?_
        refine lv_iload_n hx hb dX11_way_33 rfl (lv_at hl 2 rfl) ?_
        refine lv_iconst (v := 0) hx hb dX11_way_34 (by decide) ?_
        refine behDi (wr := []) (runVD (As := [.int a1, .int a2, .int 0]) (rest := []) ⟨hx, hb, hml, hown, ht⟩ (sX11_chase l G cs h q F A D B hI a1 a2 0 (by omega) (by omega) (by decide)) okV_RX11_356 ⟨by decide, by decide⟩ hK hP hD [0, 1, 2, 3, 4, 5, 6, 7, 8, 9, 10, 11, 12, 13, 14, 15, 16, 17, 18, 19] rfl (by decide) rfl 0 rfl rfl hl.1 rfl (Nat.le_of_ble_eq_true rfl) dX11_way_35 ⟨(Nat.le_of_ble_eq_true rfl), (Nat.le_of_ble_eq_true rfl)⟩) hP hD hS hA [0, 1, 2, 3, 4, 5, 6, 7, 8, 9, 10, 11, 12, 13, 14, 15, 16, 17, 18, 19] [] rfl rfl (by decide) (by decide) (fun r9 u H locs hu hP hD hS => ?_)
        obtain ⟨x15, g16, g17, g18⟩ := u
        have kk20 : (0 : Int32).toInt = 0 := by decide
        obtain ⟨r19, rfl⟩ : ∃ z, z = r9 := ⟨_, rfl⟩
        obtain ⟨hbx15, hr19⟩ := hu
        have hbx15 : (0 : Int) ≤ x15.toInt ∧ x15.toInt ≤ 6272 := hbx15
        have hr19 : CI g16 g17 g18 x15 ∧ (r19.toInt = -1 ∨ (0 ≤ r19.toInt ∧ r19.toInt ≤ 6271 ∧ 0 ≤ (g17 r19.toNatClampNeg).toInt)) := hr19
        have hP : va_P G vwCl (mS cs h q (upd F 26 x15) (vA (vA (vA A 23 g16) 24 g17) 25 g18) D B) H := hP
        have hD : va_D A0 (mS cs h q (upd F 26 x15) (vA (vA (vA A 23 g16) 24 g17) 25 g18) D B) := hD
        refine lv_istore (lv' := [(5, .int r19), (0, .ref h), (1, .int a1), (2, .int a2), (3, .int a3), (4, .int a4)]) hx hb dX11_way_38 hl (by decide) rfl (fun ls hl => ?_)
        refine lv_iload hx hb dX11_way_40 (lv_at hl 0 rfl) ?_
        refine lv_iconst (v := (-1)) hx hb dX11_way_42 (by decide) ?_
        refine lv_icmp_eq (tgt := 66) hx hb dX11_way_43 (by decide) (fun c21 => ?_) (fun c21 => ?_)
        · have zc21 := eqK rfl (show (-1 : Int32).toInt = (-1) by decide) c21
          refine lv_iconst (v := (-1)) hx hb dX11_way_66 (by decide) ?_
          exact retDi (x15, g16, g17, g18) hx hb hr hlk hP hD hS dX11_way_67 (⟨show (0 : Int) ≤ x15.toInt ∧ x15.toInt ≤ 6272 by omega, trivial⟩) (Nat.le_of_ble_eq_true rfl) (Nat.le_of_ble_eq_true rfl)
        · have zc21 := neK rfl (show (-1 : Int32).toInt = (-1) by decide) c21
          have hnw : 0 ≤ (g17 r19.toNatClampNeg).toInt := by omega
          refine lv_iload hx hb dX11_way_46 (lv_at hl 5 rfl) ?_
          refine lv_i2l hx hb dX11_way_48 rfl ?_
          have bb22 := i32b a4
          refine lv_topl (fun v23 ev23 => ?_)
          have tv23 : v23.toInt = a4.toInt := by rw [ev23]; exact Int32.toInt_toInt64 _
          refine lv_lconst (v := 0) hx hb dX11_way_49 (by decide) ?_
          refine lv_aload_n hx hb dX11_way_50 rfl (lv_at hl 1 rfl) ?_
          refine getF (v := .ref (q 24)) hx hb ht hown hK hP iTX11 0 24 rfl rfl (by decide) fl_RX11_52 rfl dX11_way_51 ?_
          refine lv_iload hx hb dX11_way_54 (lv_at hl 0 rfl) ?_
          refine va_iald hx hb hK.1 hP 13 0 rfl rfl (inK rfl (by omega) (by decide)) dX11_way_56 ?_
          refine lv_topi (fun v24 ev24 => ?_)
          have ev24 : v24 = g17 r19.toNatClampNeg := ev24
          have zfv24 := hr19.1.2.1 r19.toNatClampNeg (by have y9 := clK (i := r19) rfl (by omega); omega)
          have zgv24 := hnw
          rw [← ev24] at zfv24 zgv24
          have znv24 : v24.toInt = (g17 r19.toNatClampNeg).toInt := congrArg Int32.toInt ev24
          refine lv_iconst (v := 1) hx hb dX11_way_57 (by decide) ?_
          refine lv_isub hx hb dX11_way_58 ?_
          refine lv_topi (fun v25 ev25 => ?_)
          have tv25 : v25.toInt = v24.toInt - 1 := by rw [ev25]; exact subT rfl (show (1 : Int32).toInt = 1 by decide) (by omega)
          refine lv_i2l hx hb dX11_way_59 rfl ?_
          refine lv_topl (fun v26 ev26 => ?_)
          have tv26 : v26.toInt = v25.toInt := by rw [ev26]; exact Int32.toInt_toInt64 _
          refine behR (runSP (As := [.long v23, .long 0, .long v26]) (rest := []) ⟨hx, hb, hml, hown, ht⟩ (sX11_in l G cs v23 0 v26 ) okS_RX11_79 ⟨by decide, by decide⟩ hK hP [] rfl hl.1 rfl (Nat.le_of_ble_eq_true rfl) dX11_way_60 ⟨by decide, by decide⟩) hP hS hA (fun r27 H locs hr27 hP hS => ?_)
          have kk28 : (0 : Int64).toInt = 0 := by decide
          have hr27 : (r27.toInt = 1 ∧ (0 : Int64).toInt ≤ v23.toInt ∧ v23.toInt ≤ v26.toInt) ∨ (r27.toInt = 0 ∧ (v23.toInt < (0 : Int64).toInt ∨ v26.toInt < v23.toInt)) := hr27
          refine lv_if_ne (tgt := 68) hx hb dX11_way_63 (by decide) (fun c29 => ?_) (fun c29 => ?_)
          · have zc29 := neK rfl (show (0 : Int32).toInt = 0 by decide) c29
            have B68 : ∀ (n : Nat) (x68_5 : Int32) (H : Heap) (locs : List Loc) (ls : Array Slot), (g17 x68_5.toNatClampNeg).toInt.toNat < n → (0 : Int) ≤ x68_5.toInt ∧ x68_5.toInt ≤ 6271 → (0 ≤ (g17 x68_5.toNatClampNeg).toInt) → va_P G vwCl (mS cs h q (upd F 26 x15) (vA (vA (vA A 23 g16) 24 g17) 25 g18) D B) H → va_D A0 (mS cs h q (upd F 26 x15) (vA (vA (vA A 23 g16) 24 g17) 25 g18) D B) → va_S A0 s.heap H locs → lv_has ls 6 [(0, .ref h), (3, .int a3), (4, .int a4), (5, .int x68_5)] → W p l e (rmk 3 0 0) s m args below meth c H locs 0 0 (MQ below ((QDi G (fun (r : Int32) (u : Int32 × (Nat → Int32) × (Nat → Int32) × (Nat → Int32)) => ((0 : Int) ≤ u.1.toInt ∧ u.1.toInt ≤ 6272) ∧ (True)) (fun u : Int32 × (Nat → Int32) × (Nat → Int32) × (Nat → Int32) => (mS cs h q (upd F 26 u.1) (vA (vA (vA A 23 u.2.1) 24 u.2.2.1) 25 u.2.2.2) D B))) A0) args s 0 0 A0) (F0 m 68 ls []) := by
              intro n
              induction n with
              | zero => intro x68_5 H locs ls hmeas hx68_5 hnw hP hD hS hl; exact absurd hmeas (Nat.not_lt_zero _)
              | succ n ih68 =>
                intro x68_5 H locs ls hmeas hx68_5 hnw hP hD hS hl
                refine lv_aload_n hx hb dX11_way_68 rfl (lv_at hl 0 rfl) ?_
                refine getF (v := .ref (q 24)) hx hb ht hown hK hP iTX11 0 24 rfl rfl (by decide) fl_RX11_52 rfl dX11_way_69 ?_
                refine lv_iload hx hb dX11_way_72 (lv_at hl 3 rfl) ?_
                refine va_iald hx hb hK.1 hP 13 0 rfl rfl (inK rfl (by omega) (by decide)) dX11_way_74 ?_
                refine lv_topi (fun v38001 ev38001 => ?_)
                have ev38001 : v38001 = g17 x68_5.toNatClampNeg := ev38001
                have zfv38001 := hr19.1.2.1 x68_5.toNatClampNeg (by have y9 := clK (i := x68_5) rfl (by omega); omega)
                have zgv38001 := hnw
                rw [← ev38001] at zfv38001 zgv38001
                have znv38001 : v38001.toInt = (g17 x68_5.toNatClampNeg).toInt := congrArg Int32.toInt ev38001
                refine lv_iload hx hb dX11_way_75 (lv_at hl 2 rfl) ?_
                refine lv_iconst (v := 1) hx hb dX11_way_77 (by decide) ?_
                refine lv_iadd hx hb dX11_way_78 ?_
                refine lv_topi (fun v38002 ev38002 => ?_)
                have tv38002 : v38002.toInt = a4.toInt + 1 := by rw [ev38002]; exact addT rfl (show (1 : Int32).toInt = 1 by decide) (by omega)
                refine lv_icmp_le (tgt := 94) hx hb dX11_way_79 (by decide) (fun c38003 => ?_) (fun c38003 => ?_)
                · have zc38003 := leK rfl rfl c38003
                  refine lv_iload_n hx hb dX11_way_94 rfl (lv_at hl 1 rfl) ?_
                  refine lv_if_ne (tgt := 110) hx hb dX11_way_95 (by decide) (fun c38004 => ?_) (fun c38004 => ?_)
                  · have zc38004 := neK rfl (show (0 : Int32).toInt = 0 by decide) c38004
                    refine lv_iload hx hb dX11_way_110 (lv_at hl 3 rfl) ?_
                    refine lv_sipush (v := 128) hx hb dX11_way_112 (by decide) ?_
                    refine lv_idiv hx hb dX11_way_115 (by decide) ?_
                    refine lv_topi (fun v38005 ev38005 => ?_)
                    have tv38005 : v38005.toInt = x68_5.toInt / 128 := by rw [ev38005]; exact divT rfl (by decide) (by omega) (by decide)
                    refine lv_bipush (v := 7) hx hb dX11_way_116 (by decide) ?_
                    refine lv_irem hx hb dX11_way_118 (by decide) ?_
                    refine lv_topi (fun v38006 ev38006 => ?_)
                    have tv38006 : v38006.toInt = v38005.toInt % 7 := by rw [ev38006]; exact remT rfl (by decide) (by omega) (by decide)
                    exact retDi (x15, g16, g17, g18) hx hb hr hlk hP hD hS dX11_way_119 (⟨show (0 : Int) ≤ x15.toInt ∧ x15.toInt ≤ 6272 by omega, trivial⟩) (Nat.le_of_ble_eq_true rfl) (Nat.le_of_ble_eq_true rfl)
                  · have zc38004 := eqK rfl (show (0 : Int32).toInt = 0 by decide) c38004
                    refine lv_iload hx hb dX11_way_98 (lv_at hl 3 rfl) ?_
                    refine lv_sipush (v := 128) hx hb dX11_way_100 (by decide) ?_
                    refine lv_idiv hx hb dX11_way_103 (by decide) ?_
                    refine lv_topi (fun v38007 ev38007 => ?_)
                    have tv38007 : v38007.toInt = x68_5.toInt / 128 := by rw [ev38007]; exact divT rfl (by decide) (by omega) (by decide)
                    refine lv_bipush (v := 7) hx hb dX11_way_104 (by decide) ?_
                    refine lv_idiv hx hb dX11_way_106 (by decide) ?_
                    refine lv_topi (fun v38008 ev38008 => ?_)
                    have tv38008 : v38008.toInt = v38007.toInt / 7 := by rw [ev38008]; exact divT rfl (by decide) (by omega) (by decide)
                    refine lv_goto (tgt := 119) hx hb dX11_way_107 (by decide) ?_
                    exact retDi (x15, g16, g17, g18) hx hb hr hlk hP hD hS dX11_way_119 (⟨show (0 : Int) ≤ x15.toInt ∧ x15.toInt ≤ 6272 by omega, trivial⟩) (Nat.le_of_ble_eq_true rfl) (Nat.le_of_ble_eq_true rfl)
                · have zc38003 := nleK rfl rfl c38003
                  refine lv_aload_n hx hb dX11_way_82 rfl (lv_at hl 0 rfl) ?_
                  refine getF (v := .ref (q 25)) hx hb ht hown hK hP iTX11 0 25 rfl rfl (by decide) fl_RX11_55 rfl dX11_way_83 ?_
                  refine lv_iload hx hb dX11_way_86 (lv_at hl 3 rfl) ?_
                  refine va_iald hx hb hK.1 hP 14 0 rfl rfl (inK rfl (by omega) (by decide)) dX11_way_88 ?_
                  refine lv_topi (fun v38009 ev38009 => ?_)
                  have ev38009 : v38009 = g18 x68_5.toNatClampNeg := ev38009
                  have zcv38009 := hr19.1.2.2.2 x68_5.toNatClampNeg (by have y9 := clK (i := x68_5) rfl (by omega); omega) (by rw [← ev38001]; omega)
                  rw [← ev38009] at zcv38009
                  refine lv_istore (lv' := [(5, .int v38009), (0, .ref h), (3, .int a3), (4, .int a4)]) hx hb dX11_way_89 hl (by decide) rfl (fun ls hl => ?_)
                  refine lv_goto (tgt := 68) hx hb dX11_way_91 (by decide) ?_
                  exact ih68 v38009 H locs ls (by omega) (by omega) (by omega) hP hD hS (lv_sub hl [1, 2, 3, 0] rfl)
            exact B68 _ r19 H locs ls (Nat.lt_succ_self _) (by omega) hnw hP hD hS (lv_sub hl [1, 4, 5, 0] rfl)
          · have zc29 := eqK rfl (show (0 : Int32).toInt = 0 by decide) c29
            refine lv_iconst (v := (-1)) hx hb dX11_way_66 (by decide) ?_
            exact retDi (x15, g16, g17, g18) hx hb hr hlk hP hD hS dX11_way_67 (⟨show (0 : Int) ≤ x15.toInt ∧ x15.toInt ≤ 6272 by omega, trivial⟩) (Nat.le_of_ble_eq_true rfl) (Nat.le_of_ble_eq_true rfl)
      · have zc14 := eqK rfl (show (0 : Int32).toInt = 0 by decide) c14
        refine lv_bipush (v := (-2)) hx hb dX11_way_28 (by decide) ?_
        exact retDi ((F 26), (A 23), (A 24), (A 25)) hx hb hr hlk hP hD hS dX11_way_30 (⟨hI.1 26, trivial⟩) (Nat.le_of_ble_eq_true rfl) (Nat.le_of_ble_eq_true rfl)

