set_option maxRecDepth 100000 in
set_option maxHeartbeats 8000000 in
theorem sX11_advance (l : Launch) (G : va_G) (cs : Nat → ClassId) (h : Nat) (q : Nat → Nat) (F : Nat → Int32) (A : Nat → Nat → Int32) (D : Int64) (B : Nat → Nat → Int64) (hI : IM F A) : ImpW l yX11_advance cX11_advance 2 1 0 0 G (TY cs) [.ref h] (mS cs h q F A D B) (fun u : Int32 × Int32 × Int32 × Int32 => ((0 : Int) ≤ u.1.toInt ∧ u.1.toInt ≤ 900) ∧ ((0 : Int) ≤ u.2.1.toInt ∧ u.2.1.toInt ≤ 900) ∧ ((0 : Int) ≤ u.2.2.1.toInt ∧ u.2.2.1.toInt ≤ 4) ∧ ((0 : Int) ≤ u.2.2.2.toInt ∧ u.2.2.2.toInt ≤ 99999) ∧ ((F 8).toInt ≤ u.2.1.toInt ∧ PIk u.1 u.2.1 u.2.2.1)) (fun u : Int32 × Int32 × Int32 × Int32 => (mS cs h q (upd (upd (upd (upd F 8 u.1) 9 u.2.1) 10 u.2.2.1) 11 u.2.2.2) A D B)) := by
  refine mkD (Qc := (QDw G (fun u : Int32 × Int32 × Int32 × Int32 => ((0 : Int) ≤ u.1.toInt ∧ u.1.toInt ≤ 900) ∧ ((0 : Int) ≤ u.2.1.toInt ∧ u.2.1.toInt ≤ 900) ∧ ((0 : Int) ≤ u.2.2.1.toInt ∧ u.2.2.1.toInt ≤ 4) ∧ ((0 : Int) ≤ u.2.2.2.toInt ∧ u.2.2.2.toInt ≤ 99999) ∧ ((F 8).toInt ≤ u.2.1.toInt ∧ PIk u.1 u.2.1 u.2.2.1)) (fun u : Int32 × Int32 × Int32 × Int32 => (mS cs h q (upd (upd (upd (upd F 8 u.1) 9 u.2.1) 10 u.2.2.1) 11 u.2.2.2) A D B)))) (by decide) (by simp [lg_sl, Value.category]) ?_
  intro p e s m args below meth c ls A0 hx hb hml hr hlk hown hmn ht hK hP hD hS hA hl
  have hl : lv_has ls 2 [(0, .ref h)] := hl
  have B0 : ∀ (n : Nat) (f8_0 : Int32) (H : Heap) (locs : List Loc) (ls : Array Slot), (900 - f8_0.toInt).toNat < n → (0 : Int) ≤ f8_0.toInt ∧ f8_0.toInt ≤ 900 → ((F 8).toInt ≤ f8_0.toInt) → va_P G vwCl (mS cs h q (upd F 8 f8_0) A D B) H → va_D A0 (mS cs h q (upd F 8 f8_0) A D B) → va_S A0 s.heap H locs → lv_has ls 2 [(0, .ref h)] → W p l e (rmk 1 0 0) s m args below meth c H locs 0 0 (MQ below ((QDw G (fun u : Int32 × Int32 × Int32 × Int32 => ((0 : Int) ≤ u.1.toInt ∧ u.1.toInt ≤ 900) ∧ ((0 : Int) ≤ u.2.1.toInt ∧ u.2.1.toInt ≤ 900) ∧ ((0 : Int) ≤ u.2.2.1.toInt ∧ u.2.2.1.toInt ≤ 4) ∧ ((0 : Int) ≤ u.2.2.2.toInt ∧ u.2.2.2.toInt ≤ 99999) ∧ ((F 8).toInt ≤ u.2.1.toInt ∧ PIk u.1 u.2.1 u.2.2.1)) (fun u : Int32 × Int32 × Int32 × Int32 => (mS cs h q (upd (upd (upd (upd F 8 u.1) 9 u.2.1) 10 u.2.2.1) 11 u.2.2.2) A D B))) A0) args s 0 0 A0) (F0 m 0 ls []) := by
    intro n
    induction n with
    | zero => intro f8_0 H locs ls hmeas hf8_0 hat hP hD hS hl; exact absurd hmeas (Nat.not_lt_zero _)
    | succ n ih0 =>
      intro f8_0 H locs ls hmeas hf8_0 hat hP hD hS hl
      have hF7 : (0 : Int) ≤ (F 7).toInt ∧ (F 7).toInt ≤ 900 := hI.1 7
      refine lv_aload_n hx hb dX11_advance_0 rfl (lv_at hl 0 rfl) ?_
      refine lv_aload_n hx hb dX11_advance_1 rfl (lv_at hl 0 rfl) ?_
      refine getF (v := .int f8_0) hx hb ht hown hK hP iTX11 0 8 rfl rfl (by decide) fl_RX11_99 rfl dX11_advance_2 ?_
      refine behR (runVP (As := [.int f8_0]) (rest := []) ⟨hx, hb, hml, hown, ht⟩ (sX11_see l G cs h q (upd F 8 f8_0) A D B (IM_put (k := 8) hI (show (0 : Int) ≤ f8_0.toInt ∧ f8_0.toInt ≤ 900 by omega)) f8_0 (by omega)) okV_RX11_102 ⟨by decide, by decide⟩ hK hP [0, 1, 2, 3, 4, 5, 6, 7, 8, 9, 10, 11, 12, 13, 14, 15, 16, 17, 18, 19] rfl 0 rfl rfl hl.1 rfl (Nat.le_of_ble_eq_true rfl) dX11_advance_5 ⟨by decide, by decide⟩) hP hS hA (fun r1001 H locs hr1001 hP hS => ?_)
      have hr1001 : r1001 = SEE (A 4) (F 7) f8_0 ∧ ((r1001.toInt = -1 ∧ (F 7).toInt ≤ f8_0.toInt) ∨ (0 ≤ r1001.toInt ∧ r1001.toInt ≤ 255 ∧ f8_0.toInt < (F 7).toInt)) := hr1001
      have zsr1001 : r1001.toInt = (SEE (A 4) (F 7) f8_0).toInt := congrArg Int32.toInt hr1001.1
      refine lv_bipush (v := 32) hx hb dX11_advance_8 (by decide) ?_
      have B26 : ∀ (H : Heap) (locs : List Loc) (ls : Array Slot), (f8_0.toInt < (F 7).toInt) → va_P G vwCl (mS cs h q (upd F 8 f8_0) A D B) H → va_D A0 (mS cs h q (upd F 8 f8_0) A D B) → va_S A0 s.heap H locs → lv_has ls 2 [(0, .ref h)] → W p l e (rmk 1 0 0) s m args below meth c H locs 0 0 (MQ below ((QDw G (fun u : Int32 × Int32 × Int32 × Int32 => ((0 : Int) ≤ u.1.toInt ∧ u.1.toInt ≤ 900) ∧ ((0 : Int) ≤ u.2.1.toInt ∧ u.2.1.toInt ≤ 900) ∧ ((0 : Int) ≤ u.2.2.1.toInt ∧ u.2.2.1.toInt ≤ 4) ∧ ((0 : Int) ≤ u.2.2.2.toInt ∧ u.2.2.2.toInt ≤ 99999) ∧ ((F 8).toInt ≤ u.2.1.toInt ∧ PIk u.1 u.2.1 u.2.2.1)) (fun u : Int32 × Int32 × Int32 × Int32 => (mS cs h q (upd (upd (upd (upd F 8 u.1) 9 u.2.1) 10 u.2.2.1) 11 u.2.2.2) A D B))) A0) args s 0 0 A0) (F0 m 26 ls []) := by
        intro H locs ls hlt hP hD hS hl
        refine lv_aload_n hx hb dX11_advance_26 rfl (lv_at hl 0 rfl) ?_
        refine lv_dup hx hb dX11_advance_27 rfl ?_
        refine getF (v := .int f8_0) hx hb ht hown hK hP iTX11 0 8 rfl rfl (by decide) fl_RX11_99 rfl dX11_advance_28 ?_
        refine lv_iconst (v := 1) hx hb dX11_advance_31 (by decide) ?_
        refine lv_iadd hx hb dX11_advance_32 ?_
        refine lv_topi (fun v114001 ev114001 => ?_)
        have tv114001 : v114001.toInt = f8_0.toInt + 1 := by rw [ev114001]; exact addT rfl (show (1 : Int32).toInt = 1 by decide) (by omega)
        refine putD hx hb ht hown hK hP hD hS iTX11 tyX11 tyX11_ok nmX11 0 8 rfl rfl (by decide) fl_RX11_99 rfl rfl rfl (Nat.le_of_ble_eq_true rfl) dX11_advance_33 (fun H locs hP hD hS => ?_)
        have hP : va_P G vwCl (mS cs h q (upd F 8 v114001) A D B) H := hP
        have hD : va_D A0 (mS cs h q (upd F 8 v114001) A D B) := hD
        refine lv_goto (tgt := 0) hx hb dX11_advance_36 (by decide) ?_
        exact ih0 v114001 H locs ls (by omega) (by omega) (by have k0 : (0 : Int32).toInt = 0 := (by decide); have k1 : (1 : Int32).toInt = 1 := (by decide); omega) hP hD hS (lv_sub hl [0] rfl)
      refine lv_icmp_eq (tgt := 26) hx hb dX11_advance_10 (by decide) (fun c1002 => ?_) (fun c1002 => ?_)
      · have zc1002 := eqK rfl (show (32 : Int32).toInt = 32 by decide) c1002
        exact B26 H locs ls (by have k0 : (0 : Int32).toInt = 0 := (by decide); have k1 : (1 : Int32).toInt = 1 := (by decide); omega) hP hD hS (lv_sub hl [0] rfl)
      · have zc1002 := neK rfl (show (32 : Int32).toInt = 32 by decide) c1002
        refine lv_aload_n hx hb dX11_advance_13 rfl (lv_at hl 0 rfl) ?_
        refine lv_aload_n hx hb dX11_advance_14 rfl (lv_at hl 0 rfl) ?_
        refine getF (v := .int f8_0) hx hb ht hown hK hP iTX11 0 8 rfl rfl (by decide) fl_RX11_99 rfl dX11_advance_15 ?_
        refine behR (runVP (As := [.int f8_0]) (rest := []) ⟨hx, hb, hml, hown, ht⟩ (sX11_see l G cs h q (upd F 8 f8_0) A D B (IM_put (k := 8) hI (show (0 : Int) ≤ f8_0.toInt ∧ f8_0.toInt ≤ 900 by omega)) f8_0 (by omega)) okV_RX11_102 ⟨by decide, by decide⟩ hK hP [0, 1, 2, 3, 4, 5, 6, 7, 8, 9, 10, 11, 12, 13, 14, 15, 16, 17, 18, 19] rfl 0 rfl rfl hl.1 rfl (Nat.le_of_ble_eq_true rfl) dX11_advance_18 ⟨by decide, by decide⟩) hP hS hA (fun r1003 H locs hr1003 hP hS => ?_)
        have hr1003 : r1003 = SEE (A 4) (F 7) f8_0 ∧ ((r1003.toInt = -1 ∧ (F 7).toInt ≤ f8_0.toInt) ∨ (0 ≤ r1003.toInt ∧ r1003.toInt ≤ 255 ∧ f8_0.toInt < (F 7).toInt)) := hr1003
        have zsr1003 : r1003.toInt = (SEE (A 4) (F 7) f8_0).toInt := congrArg Int32.toInt hr1003.1
        refine lv_bipush (v := 10) hx hb dX11_advance_21 (by decide) ?_
        refine lv_icmp_ne (tgt := 39) hx hb dX11_advance_23 (by decide) (fun c1004 => ?_) (fun c1004 => ?_)
        · have zc1004 := neK rfl (show (10 : Int32).toInt = 10 by decide) c1004
          refine lv_aload_n hx hb dX11_advance_39 rfl (lv_at hl 0 rfl) ?_
          refine lv_aload_n hx hb dX11_advance_40 rfl (lv_at hl 0 rfl) ?_
          refine getF (v := .int f8_0) hx hb ht hown hK hP iTX11 0 8 rfl rfl (by decide) fl_RX11_99 rfl dX11_advance_41 ?_
          refine putD hx hb ht hown hK hP hD hS iTX11 tyX11 tyX11_ok nmX11 0 9 rfl rfl (by decide) fl_RX11_106 rfl rfl rfl (Nat.le_of_ble_eq_true rfl) dX11_advance_44 (fun H locs hP hD hS => ?_)
          have hP : va_P G vwCl (mS cs h q (upd (upd F 8 f8_0) 9 f8_0) A D B) H := hP
          have hD : va_D A0 (mS cs h q (upd (upd F 8 f8_0) 9 f8_0) A D B) := hD
          refine lv_aload_n hx hb dX11_advance_47 rfl (lv_at hl 0 rfl) ?_
          refine lv_aload_n hx hb dX11_advance_48 rfl (lv_at hl 0 rfl) ?_
          refine getF (v := .int f8_0) hx hb ht hown hK hP iTX11 0 8 rfl rfl (by decide) fl_RX11_99 rfl dX11_advance_49 ?_
          refine behR (runVP (As := [.int f8_0]) (rest := []) ⟨hx, hb, hml, hown, ht⟩ (sX11_see l G cs h q (upd (upd F 8 f8_0) 9 f8_0) A D B (IM_put (k := 9) (IM_put (k := 8) hI (show (0 : Int) ≤ f8_0.toInt ∧ f8_0.toInt ≤ 900 by omega)) (show (0 : Int) ≤ f8_0.toInt ∧ f8_0.toInt ≤ 900 by omega)) f8_0 (by omega)) okV_RX11_102 ⟨by decide, by decide⟩ hK hP [0, 1, 2, 3, 4, 5, 6, 7, 8, 9, 10, 11, 12, 13, 14, 15, 16, 17, 18, 19] rfl 0 rfl rfl hl.1 rfl (Nat.le_of_ble_eq_true rfl) dX11_advance_52 ⟨by decide, by decide⟩) hP hS hA (fun r1005 H locs hr1005 hP hS => ?_)
          have hr1005 : r1005 = SEE (A 4) (F 7) f8_0 ∧ ((r1005.toInt = -1 ∧ (F 7).toInt ≤ f8_0.toInt) ∨ (0 ≤ r1005.toInt ∧ r1005.toInt ≤ 255 ∧ f8_0.toInt < (F 7).toInt)) := hr1005
          have zsr1005 : r1005.toInt = (SEE (A 4) (F 7) f8_0).toInt := congrArg Int32.toInt hr1005.1
          refine lv_istore_n (lv' := [(1, .int r1005), (0, .ref h)]) hx hb dX11_advance_55 rfl hl (by decide) rfl (fun ls hl => ?_)
          refine lv_iload_n hx hb dX11_advance_56 rfl (lv_at hl 0 rfl) ?_
          refine lv_iconst (v := (-1)) hx hb dX11_advance_57 (by decide) ?_
          refine lv_icmp_ne (tgt := 69) hx hb dX11_advance_58 (by decide) (fun c1006 => ?_) (fun c1006 => ?_)
          · have zc1006 := neK rfl (show (-1 : Int32).toInt = (-1) by decide) c1006
            refine lv_iload_n hx hb dX11_advance_69 rfl (lv_at hl 0 rfl) ?_
            refine lv_i2l hx hb dX11_advance_70 rfl ?_
            refine lv_topl (fun v1007 ev1007 => ?_)
            have tv1007 : v1007.toInt = r1005.toInt := by rw [ev1007]; exact Int32.toInt_toInt64 _
            refine lv_ldc2 hx hb hown (ht _ kl_RX11_112) dX11_advance_71 ?_
            refine lv_ldc2 hx hb hown (ht _ kl_RX11_114) dX11_advance_74 ?_
            refine behR (runSP (As := [.long v1007, .long 97, .long 122]) (rest := []) ⟨hx, hb, hml, hown, ht⟩ (sX11_in l G cs v1007 97 122 ) okS_RX11_79 ⟨by decide, by decide⟩ hK hP [] rfl hl.1 rfl (Nat.le_of_ble_eq_true rfl) dX11_advance_77 ⟨by decide, by decide⟩) hP hS hA (fun r1008 H locs hr1008 hP hS => ?_)
            have kk1009 : (97 : Int64).toInt = 97 := by decide
            have kk1010 : (122 : Int64).toInt = 122 := by decide
            have hr1008 : (r1008.toInt = 1 ∧ (97 : Int64).toInt ≤ v1007.toInt ∧ v1007.toInt ≤ (122 : Int64).toInt) ∨ (r1008.toInt = 0 ∧ (v1007.toInt < (97 : Int64).toInt ∨ (122 : Int64).toInt < v1007.toInt)) := hr1008
            refine lv_if_eq (tgt := 125) hx hb dX11_advance_80 (by decide) (fun c1011 => ?_) (fun c1011 => ?_)
            · have zc1011 := eqK rfl (show (0 : Int32).toInt = 0 by decide) c1011
              refine lv_iload_n hx hb dX11_advance_125 rfl (lv_at hl 0 rfl) ?_
              refine lv_i2l hx hb dX11_advance_126 rfl ?_
              refine lv_topl (fun v1012 ev1012 => ?_)
              have tv1012 : v1012.toInt = r1005.toInt := by rw [ev1012]; exact Int32.toInt_toInt64 _
              refine lv_ldc2 hx hb hown (ht _ kl_RX11_116) dX11_advance_127 ?_
              refine lv_ldc2 hx hb hown (ht _ kl_RX11_118) dX11_advance_130 ?_
              refine behR (runSP (As := [.long v1012, .long 48, .long 57]) (rest := []) ⟨hx, hb, hml, hown, ht⟩ (sX11_in l G cs v1012 48 57 ) okS_RX11_79 ⟨by decide, by decide⟩ hK hP [] rfl hl.1 rfl (Nat.le_of_ble_eq_true rfl) dX11_advance_133 ⟨by decide, by decide⟩) hP hS hA (fun r1013 H locs hr1013 hP hS => ?_)
              have kk1014 : (48 : Int64).toInt = 48 := by decide
              have kk1015 : (57 : Int64).toInt = 57 := by decide
              have hr1013 : (r1013.toInt = 1 ∧ (48 : Int64).toInt ≤ v1012.toInt ∧ v1012.toInt ≤ (57 : Int64).toInt) ∨ (r1013.toInt = 0 ∧ (v1012.toInt < (48 : Int64).toInt ∨ (57 : Int64).toInt < v1012.toInt)) := hr1013
              refine lv_if_eq (tgt := 214) hx hb dX11_advance_136 (by decide) (fun c1016 => ?_) (fun c1016 => ?_)
              · have zc1016 := eqK rfl (show (0 : Int32).toInt = 0 by decide) c1016
                refine lv_aload_n hx hb dX11_advance_214 rfl (lv_at hl 1 rfl) ?_
                refine lv_iload_n hx hb dX11_advance_215 rfl (lv_at hl 0 rfl) ?_
                refine lv_bipush (v := 59) hx hb dX11_advance_216 (by decide) ?_
                have B226 : ∀ (s226_0 : Int32) (H : Heap) (locs : List Loc) (ls : Array Slot), (3 : Int) ≤ s226_0.toInt ∧ s226_0.toInt ≤ 4 → va_P G vwCl (mS cs h q (upd (upd F 8 f8_0) 9 f8_0) A D B) H → va_D A0 (mS cs h q (upd (upd F 8 f8_0) 9 f8_0) A D B) → va_S A0 s.heap H locs → lv_has ls 2 [(0, .ref h)] → W p l e (rmk 1 0 0) s m args below meth c H locs 0 0 (MQ below ((QDw G (fun u : Int32 × Int32 × Int32 × Int32 => ((0 : Int) ≤ u.1.toInt ∧ u.1.toInt ≤ 900) ∧ ((0 : Int) ≤ u.2.1.toInt ∧ u.2.1.toInt ≤ 900) ∧ ((0 : Int) ≤ u.2.2.1.toInt ∧ u.2.2.1.toInt ≤ 4) ∧ ((0 : Int) ≤ u.2.2.2.toInt ∧ u.2.2.2.toInt ≤ 99999) ∧ ((F 8).toInt ≤ u.2.1.toInt ∧ PIk u.1 u.2.1 u.2.2.1)) (fun u : Int32 × Int32 × Int32 × Int32 => (mS cs h q (upd (upd (upd (upd F 8 u.1) 9 u.2.1) 10 u.2.2.1) 11 u.2.2.2) A D B))) A0) args s 0 0 A0) (F0 m 226 ls [.int s226_0, .ref h]) := by
                  intro s226_0 H locs ls hs226_0 hP hD hS hl
                  refine putD hx hb ht hown hK hP hD hS iTX11 tyX11 tyX11_ok nmX11 0 10 rfl rfl (by decide) fl_RX11_109 rfl rfl rfl (Nat.le_of_ble_eq_true rfl) dX11_advance_226 (fun H locs hP hD hS => ?_)
                  have hP : va_P G vwCl (mS cs h q (upd (upd (upd F 8 f8_0) 9 f8_0) 10 s226_0) A D B) H := hP
                  have hD : va_D A0 (mS cs h q (upd (upd (upd F 8 f8_0) 9 f8_0) 10 s226_0) A D B) := hD
                  refine lv_aload_n hx hb dX11_advance_229 rfl (lv_at hl 0 rfl) ?_
                  refine lv_dup hx hb dX11_advance_230 rfl ?_
                  refine getF (v := .int f8_0) hx hb ht hown hK hP iTX11 0 8 rfl rfl (by decide) fl_RX11_99 rfl dX11_advance_231 ?_
                  refine lv_iconst (v := 1) hx hb dX11_advance_234 (by decide) ?_
                  refine lv_iadd hx hb dX11_advance_235 ?_
                  refine lv_topi (fun v106001 ev106001 => ?_)
                  have tv106001 : v106001.toInt = f8_0.toInt + 1 := by rw [ev106001]; exact addT rfl (show (1 : Int32).toInt = 1 by decide) (by omega)
                  refine putD hx hb ht hown hK hP hD hS iTX11 tyX11 tyX11_ok nmX11 0 8 rfl rfl (by decide) fl_RX11_99 rfl rfl rfl (Nat.le_of_ble_eq_true rfl) dX11_advance_236 (fun H locs hP hD hS => ?_)
                  have hP : va_P G vwCl (mS cs h q (upd (upd (upd F 8 v106001) 9 f8_0) 10 s226_0) A D B) H := hP
                  have hD : va_D A0 (mS cs h q (upd (upd (upd F 8 v106001) 9 f8_0) 10 s226_0) A D B) := hD
                  exact retDw (v106001, f8_0, s226_0, (F 11)) hx hb hr hlk hP hD hS dX11_advance_239 (⟨show (0 : Int) ≤ v106001.toInt ∧ v106001.toInt ≤ 900 by omega, show (0 : Int) ≤ f8_0.toInt ∧ f8_0.toInt ≤ 900 by omega, show (0 : Int) ≤ s226_0.toInt ∧ s226_0.toInt ≤ 4 by omega, hI.1 11, ⟨(show (F 8).toInt ≤ f8_0.toInt by omega), (show (s226_0.toInt = 0 ∨ f8_0.toInt < v106001.toInt) ∧ f8_0.toInt ≤ v106001.toInt by omega)⟩⟩) (Nat.le_of_ble_eq_true rfl) (Nat.le_of_ble_eq_true rfl)
                refine lv_icmp_ne (tgt := 225) hx hb dX11_advance_218 (by decide) (fun c1017 => ?_) (fun c1017 => ?_)
                · have zc1017 := neK rfl (show (59 : Int32).toInt = 59 by decide) c1017
                  refine lv_iconst (v := 4) hx hb dX11_advance_225 (by decide) ?_
                  exact B226 4 H locs ls (by decide) hP hD hS (lv_sub hl [1] rfl)
                · have zc1017 := eqK rfl (show (59 : Int32).toInt = 59 by decide) c1017
                  refine lv_iconst (v := 3) hx hb dX11_advance_221 (by decide) ?_
                  refine lv_goto (tgt := 226) hx hb dX11_advance_222 (by decide) ?_
                  exact B226 3 H locs ls (by decide) hP hD hS (lv_sub hl [1] rfl)
              · have zc1016 := neK rfl (show (0 : Int32).toInt = 0 by decide) c1016
                refine lv_aload_n hx hb dX11_advance_139 rfl (lv_at hl 1 rfl) ?_
                refine lv_iconst (v := 0) hx hb dX11_advance_140 (by decide) ?_
                refine putD hx hb ht hown hK hP hD hS iTX11 tyX11 tyX11_ok nmX11 0 11 rfl rfl (by decide) fl_RX11_120 rfl rfl rfl (Nat.le_of_ble_eq_true rfl) dX11_advance_141 (fun H locs hP hD hS => ?_)
                have hP : va_P G vwCl (mS cs h q (upd (upd (upd F 8 f8_0) 9 f8_0) 11 0) A D B) H := hP
                have hD : va_D A0 (mS cs h q (upd (upd (upd F 8 f8_0) 9 f8_0) 11 0) A D B) := hD
                have B144 : ∀ (n : Nat) (f8_144 : Int32) (f11_144 : Int32) (H : Heap) (locs : List Loc) (ls : Array Slot), (900 - f8_144.toInt).toNat < n → (0 : Int) ≤ f8_144.toInt ∧ f8_144.toInt ≤ 900 → (0 : Int) ≤ f11_144.toInt ∧ f11_144.toInt ≤ 99999 → (f8_0.toInt ≤ f8_144.toInt ∧ (f8_0.toInt < f8_144.toInt ∨ (48 ≤ (SEE (A 4) (F 7) f8_144).toInt ∧ (SEE (A 4) (F 7) f8_144).toInt ≤ 57))) → va_P G vwCl (mS cs h q (upd (upd (upd F 8 f8_144) 9 f8_0) 11 f11_144) A D B) H → va_D A0 (mS cs h q (upd (upd (upd F 8 f8_144) 9 f8_0) 11 f11_144) A D B) → va_S A0 s.heap H locs → lv_has ls 2 [(0, .ref h)] → W p l e (rmk 1 0 0) s m args below meth c H locs 0 0 (MQ below ((QDw G (fun u : Int32 × Int32 × Int32 × Int32 => ((0 : Int) ≤ u.1.toInt ∧ u.1.toInt ≤ 900) ∧ ((0 : Int) ≤ u.2.1.toInt ∧ u.2.1.toInt ≤ 900) ∧ ((0 : Int) ≤ u.2.2.1.toInt ∧ u.2.2.1.toInt ≤ 4) ∧ ((0 : Int) ≤ u.2.2.2.toInt ∧ u.2.2.2.toInt ≤ 99999) ∧ ((F 8).toInt ≤ u.2.1.toInt ∧ PIk u.1 u.2.1 u.2.2.1)) (fun u : Int32 × Int32 × Int32 × Int32 => (mS cs h q (upd (upd (upd (upd F 8 u.1) 9 u.2.1) 10 u.2.2.1) 11 u.2.2.2) A D B))) A0) args s 0 0 A0) (F0 m 144 ls []) := by
                  intro n
                  induction n with
                  | zero => intro f8_144 f11_144 H locs ls hmeas hf8_144 hf11_144 hwd hP hD hS hl; exact absurd hmeas (Nat.not_lt_zero _)
                  | succ n ih144 =>
                    intro f8_144 f11_144 H locs ls hmeas hf8_144 hf11_144 hwd hP hD hS hl
                    refine lv_aload_n hx hb dX11_advance_144 rfl (lv_at hl 0 rfl) ?_
                    refine lv_aload_n hx hb dX11_advance_145 rfl (lv_at hl 0 rfl) ?_
                    refine getF (v := .int f8_144) hx hb ht hown hK hP iTX11 0 8 rfl rfl (by decide) fl_RX11_99 rfl dX11_advance_146 ?_
                    refine behR (runVP (As := [.int f8_144]) (rest := []) ⟨hx, hb, hml, hown, ht⟩ (sX11_see l G cs h q (upd (upd (upd F 8 f8_144) 9 f8_0) 11 f11_144) A D B (IM_put (k := 11) (IM_put (k := 9) (IM_put (k := 8) hI (show (0 : Int) ≤ f8_144.toInt ∧ f8_144.toInt ≤ 900 by omega)) (show (0 : Int) ≤ f8_0.toInt ∧ f8_0.toInt ≤ 900 by omega)) (show (0 : Int) ≤ f11_144.toInt ∧ f11_144.toInt ≤ 99999 by omega)) f8_144 (by omega)) okV_RX11_102 ⟨by decide, by decide⟩ hK hP [0, 1, 2, 3, 4, 5, 6, 7, 8, 9, 10, 11, 12, 13, 14, 15, 16, 17, 18, 19] rfl 0 rfl rfl hl.1 rfl (Nat.le_of_ble_eq_true rfl) dX11_advance_149 ⟨by decide, by decide⟩) hP hS hA (fun r64001 H locs hr64001 hP hS => ?_)
                    have hr64001 : r64001 = SEE (A 4) (F 7) f8_144 ∧ ((r64001.toInt = -1 ∧ (F 7).toInt ≤ f8_144.toInt) ∨ (0 ≤ r64001.toInt ∧ r64001.toInt ≤ 255 ∧ f8_144.toInt < (F 7).toInt)) := hr64001
                    have zsr64001 : r64001.toInt = (SEE (A 4) (F 7) f8_144).toInt := congrArg Int32.toInt hr64001.1
                    refine lv_i2l hx hb dX11_advance_152 rfl ?_
                    refine lv_topl (fun v64002 ev64002 => ?_)
                    have tv64002 : v64002.toInt = r64001.toInt := by rw [ev64002]; exact Int32.toInt_toInt64 _
                    refine lv_ldc2 hx hb hown (ht _ kl_RX11_116) dX11_advance_153 ?_
                    refine lv_ldc2 hx hb hown (ht _ kl_RX11_118) dX11_advance_156 ?_
                    refine behR (runSP (As := [.long v64002, .long 48, .long 57]) (rest := []) ⟨hx, hb, hml, hown, ht⟩ (sX11_in l G cs v64002 48 57 ) okS_RX11_79 ⟨by decide, by decide⟩ hK hP [] rfl hl.1 rfl (Nat.le_of_ble_eq_true rfl) dX11_advance_159 ⟨by decide, by decide⟩) hP hS hA (fun r64003 H locs hr64003 hP hS => ?_)
                    have kk64004 : (48 : Int64).toInt = 48 := by decide
                    have kk64005 : (57 : Int64).toInt = 57 := by decide
                    have hr64003 : (r64003.toInt = 1 ∧ (48 : Int64).toInt ≤ v64002.toInt ∧ v64002.toInt ≤ (57 : Int64).toInt) ∨ (r64003.toInt = 0 ∧ (v64002.toInt < (48 : Int64).toInt ∨ (57 : Int64).toInt < v64002.toInt)) := hr64003
                    refine lv_if_eq (tgt := 206) hx hb dX11_advance_162 (by decide) (fun c64006 => ?_) (fun c64006 => ?_)
                    · have zc64006 := eqK rfl (show (0 : Int32).toInt = 0 by decide) c64006
                      refine lv_aload_n hx hb dX11_advance_206 rfl (lv_at hl 0 rfl) ?_
                      refine lv_iconst (v := 2) hx hb dX11_advance_207 (by decide) ?_
                      refine putD hx hb ht hown hK hP hD hS iTX11 tyX11 tyX11_ok nmX11 0 10 rfl rfl (by decide) fl_RX11_109 rfl rfl rfl (Nat.le_of_ble_eq_true rfl) dX11_advance_208 (fun H locs hP hD hS => ?_)
                      have hP : va_P G vwCl (mS cs h q (upd (upd (upd (upd F 8 f8_144) 9 f8_0) 10 2) 11 f11_144) A D B) H := hP
                      have hD : va_D A0 (mS cs h q (upd (upd (upd (upd F 8 f8_144) 9 f8_0) 10 2) 11 f11_144) A D B) := hD
                      refine lv_goto (tgt := 239) hx hb dX11_advance_211 (by decide) ?_
                      exact retDw (f8_144, f8_0, 2, f11_144) hx hb hr hlk hP hD hS dX11_advance_239 (⟨show (0 : Int) ≤ f8_144.toInt ∧ f8_144.toInt ≤ 900 by omega, show (0 : Int) ≤ f8_0.toInt ∧ f8_0.toInt ≤ 900 by omega, show (0 : Int) ≤ (2 : Int32).toInt ∧ (2 : Int32).toInt ≤ 4 by decide, show (0 : Int) ≤ f11_144.toInt ∧ f11_144.toInt ≤ 99999 by omega, ⟨(show (F 8).toInt ≤ f8_0.toInt by omega), (show ((2 : Int32).toInt = 0 ∨ f8_0.toInt < f8_144.toInt) ∧ f8_0.toInt ≤ f8_144.toInt by have kf10 : (2 : Int32).toInt = 2 := (by decide); omega)⟩⟩) (Nat.le_of_ble_eq_true rfl) (Nat.le_of_ble_eq_true rfl)
                    · have zc64006 := neK rfl (show (0 : Int32).toInt = 0 by decide) c64006
                      refine lv_aload_n hx hb dX11_advance_165 rfl (lv_at hl 0 rfl) ?_
                      refine lv_ldc hx hb hown (ht _ ki_RX11_123) dX11_advance_166 ?_
                      refine lv_bipush (v := 10) hx hb dX11_advance_168 (by decide) ?_
                      refine lv_aload_n hx hb dX11_advance_170 rfl (lv_at hl 0 rfl) ?_
                      refine getF (v := .int f11_144) hx hb ht hown hK hP iTX11 0 11 rfl rfl (by decide) fl_RX11_120 rfl dX11_advance_171 ?_
                      refine lv_imul hx hb dX11_advance_174 ?_
                      refine lv_topi (fun v64007 ev64007 => ?_)
                      have tv64007 : v64007.toInt = 10 * f11_144.toInt := by rw [ev64007]; exact mulT (show (10 : Int32).toInt = 10 by decide) rfl (by omega)
                      refine lv_aload_n hx hb dX11_advance_175 rfl (lv_at hl 0 rfl) ?_
                      refine lv_aload_n hx hb dX11_advance_176 rfl (lv_at hl 0 rfl) ?_
                      refine getF (v := .int f8_144) hx hb ht hown hK hP iTX11 0 8 rfl rfl (by decide) fl_RX11_99 rfl dX11_advance_177 ?_
                      refine behR (runVP (As := [.int f8_144]) (rest := [.int v64007, .int 99999, .ref h]) ⟨hx, hb, hml, hown, ht⟩ (sX11_see l G cs h q (upd (upd (upd F 8 f8_144) 9 f8_0) 11 f11_144) A D B (IM_put (k := 11) (IM_put (k := 9) (IM_put (k := 8) hI (show (0 : Int) ≤ f8_144.toInt ∧ f8_144.toInt ≤ 900 by omega)) (show (0 : Int) ≤ f8_0.toInt ∧ f8_0.toInt ≤ 900 by omega)) (show (0 : Int) ≤ f11_144.toInt ∧ f11_144.toInt ≤ 99999 by omega)) f8_144 (by omega)) okV_RX11_102 ⟨by decide, by decide⟩ hK hP [0, 1, 2, 3, 4, 5, 6, 7, 8, 9, 10, 11, 12, 13, 14, 15, 16, 17, 18, 19] rfl 0 rfl rfl hl.1 rfl (Nat.le_of_ble_eq_true rfl) dX11_advance_180 ⟨by decide, by decide⟩) hP hS hA (fun r64008 H locs hr64008 hP hS => ?_)
                      have hr64008 : r64008 = SEE (A 4) (F 7) f8_144 ∧ ((r64008.toInt = -1 ∧ (F 7).toInt ≤ f8_144.toInt) ∨ (0 ≤ r64008.toInt ∧ r64008.toInt ≤ 255 ∧ f8_144.toInt < (F 7).toInt)) := hr64008
                      have zsr64008 : r64008.toInt = (SEE (A 4) (F 7) f8_144).toInt := congrArg Int32.toInt hr64008.1
                      refine lv_iadd hx hb dX11_advance_183 ?_
                      refine lv_topi (fun v64009 ev64009 => ?_)
                      have tv64009 : v64009.toInt = v64007.toInt + r64008.toInt := by rw [ev64009]; exact addT rfl rfl (by omega)
                      refine lv_bipush (v := 48) hx hb dX11_advance_184 (by decide) ?_
                      refine lv_isub hx hb dX11_advance_186 ?_
                      refine lv_topi (fun v64010 ev64010 => ?_)
                      have tv64010 : v64010.toInt = v64009.toInt - 48 := by rw [ev64010]; exact subT rfl (show (48 : Int32).toInt = 48 by decide) (by omega)
                      refine va_mmin hx hb (by rw [hml]; exact hl.1.symm) hown (ht _ mth_RX11_124) (ht _ mth_min_st) (ht _ mth_in) (ht _ mth_min_co) (Nat.le_of_ble_eq_true rfl) (Nat.le_of_ble_eq_true rfl) (Nat.zero_le _) (Nat.zero_le _) dX11_advance_187 ?_
                      refine lv_topi (fun v64011 ev64011 => ?_)
                      have tv64011 := minK (a := (99999 : Int32)) (b := v64010)
                      rw [← ev64011] at tv64011
                      have kk64012 : (99999 : Int32).toInt = 99999 := by decide
                      refine putD hx hb ht hown hK hP hD hS iTX11 tyX11 tyX11_ok nmX11 0 11 rfl rfl (by decide) fl_RX11_120 rfl rfl rfl (Nat.le_of_ble_eq_true rfl) dX11_advance_190 (fun H locs hP hD hS => ?_)
                      have hP : va_P G vwCl (mS cs h q (upd (upd (upd F 8 f8_144) 9 f8_0) 11 v64011) A D B) H := hP
                      have hD : va_D A0 (mS cs h q (upd (upd (upd F 8 f8_144) 9 f8_0) 11 v64011) A D B) := hD
                      refine lv_aload_n hx hb dX11_advance_193 rfl (lv_at hl 0 rfl) ?_
                      refine lv_dup hx hb dX11_advance_194 rfl ?_
                      refine getF (v := .int f8_144) hx hb ht hown hK hP iTX11 0 8 rfl rfl (by decide) fl_RX11_99 rfl dX11_advance_195 ?_
                      refine lv_iconst (v := 1) hx hb dX11_advance_198 (by decide) ?_
                      refine lv_iadd hx hb dX11_advance_199 ?_
                      refine lv_topi (fun v64013 ev64013 => ?_)
                      have tv64013 : v64013.toInt = f8_144.toInt + 1 := by rw [ev64013]; exact addT rfl (show (1 : Int32).toInt = 1 by decide) (by omega)
                      refine putD hx hb ht hown hK hP hD hS iTX11 tyX11 tyX11_ok nmX11 0 8 rfl rfl (by decide) fl_RX11_99 rfl rfl rfl (Nat.le_of_ble_eq_true rfl) dX11_advance_200 (fun H locs hP hD hS => ?_)
                      have hP : va_P G vwCl (mS cs h q (upd (upd (upd F 8 v64013) 9 f8_0) 11 v64011) A D B) H := hP
                      have hD : va_D A0 (mS cs h q (upd (upd (upd F 8 v64013) 9 f8_0) 11 v64011) A D B) := hD
                      refine lv_goto (tgt := 144) hx hb dX11_advance_203 (by decide) ?_
                      exact ih144 v64013 v64011 H locs ls (by omega) (by omega) (by omega) (by have k0 : (0 : Int32).toInt = 0 := (by decide); have k1 : (1 : Int32).toInt = 1 := (by decide); omega) hP hD hS (lv_sub hl [0] rfl)
                exact B144 _ f8_0 0 H locs ls (Nat.lt_succ_self _) (by omega) (by decide) (by have k0 : (0 : Int32).toInt = 0 := (by decide); have k1 : (1 : Int32).toInt = 1 := (by decide); omega) hP hD hS (lv_sub hl [1] rfl)
            · have zc1011 := neK rfl (show (0 : Int32).toInt = 0 by decide) c1011
              have B83 : ∀ (n : Nat) (f8_83 : Int32) (H : Heap) (locs : List Loc) (ls : Array Slot), (900 - f8_83.toInt).toNat < n → (0 : Int) ≤ f8_83.toInt ∧ f8_83.toInt ≤ 900 → (f8_0.toInt ≤ f8_83.toInt ∧ (f8_0.toInt < f8_83.toInt ∨ (97 ≤ (SEE (A 4) (F 7) f8_83).toInt ∧ (SEE (A 4) (F 7) f8_83).toInt ≤ 122))) → va_P G vwCl (mS cs h q (upd (upd F 8 f8_83) 9 f8_0) A D B) H → va_D A0 (mS cs h q (upd (upd F 8 f8_83) 9 f8_0) A D B) → va_S A0 s.heap H locs → lv_has ls 2 [(0, .ref h)] → W p l e (rmk 1 0 0) s m args below meth c H locs 0 0 (MQ below ((QDw G (fun u : Int32 × Int32 × Int32 × Int32 => ((0 : Int) ≤ u.1.toInt ∧ u.1.toInt ≤ 900) ∧ ((0 : Int) ≤ u.2.1.toInt ∧ u.2.1.toInt ≤ 900) ∧ ((0 : Int) ≤ u.2.2.1.toInt ∧ u.2.2.1.toInt ≤ 4) ∧ ((0 : Int) ≤ u.2.2.2.toInt ∧ u.2.2.2.toInt ≤ 99999) ∧ ((F 8).toInt ≤ u.2.1.toInt ∧ PIk u.1 u.2.1 u.2.2.1)) (fun u : Int32 × Int32 × Int32 × Int32 => (mS cs h q (upd (upd (upd (upd F 8 u.1) 9 u.2.1) 10 u.2.2.1) 11 u.2.2.2) A D B))) A0) args s 0 0 A0) (F0 m 83 ls []) := by
                intro n
                induction n with
                | zero => intro f8_83 H locs ls hmeas hf8_83 hwd hP hD hS hl; exact absurd hmeas (Nat.not_lt_zero _)
                | succ n ih83 =>
                  intro f8_83 H locs ls hmeas hf8_83 hwd hP hD hS hl
                  refine lv_aload_n hx hb dX11_advance_83 rfl (lv_at hl 0 rfl) ?_
                  refine lv_aload_n hx hb dX11_advance_84 rfl (lv_at hl 0 rfl) ?_
                  refine getF (v := .int f8_83) hx hb ht hown hK hP iTX11 0 8 rfl rfl (by decide) fl_RX11_99 rfl dX11_advance_85 ?_
                  refine behR (runVP (As := [.int f8_83]) (rest := []) ⟨hx, hb, hml, hown, ht⟩ (sX11_see l G cs h q (upd (upd F 8 f8_83) 9 f8_0) A D B (IM_put (k := 9) (IM_put (k := 8) hI (show (0 : Int) ≤ f8_83.toInt ∧ f8_83.toInt ≤ 900 by omega)) (show (0 : Int) ≤ f8_0.toInt ∧ f8_0.toInt ≤ 900 by omega)) f8_83 (by omega)) okV_RX11_102 ⟨by decide, by decide⟩ hK hP [0, 1, 2, 3, 4, 5, 6, 7, 8, 9, 10, 11, 12, 13, 14, 15, 16, 17, 18, 19] rfl 0 rfl rfl hl.1 rfl (Nat.le_of_ble_eq_true rfl) dX11_advance_88 ⟨by decide, by decide⟩) hP hS hA (fun r35001 H locs hr35001 hP hS => ?_)
                  have hr35001 : r35001 = SEE (A 4) (F 7) f8_83 ∧ ((r35001.toInt = -1 ∧ (F 7).toInt ≤ f8_83.toInt) ∨ (0 ≤ r35001.toInt ∧ r35001.toInt ≤ 255 ∧ f8_83.toInt < (F 7).toInt)) := hr35001
                  have zsr35001 : r35001.toInt = (SEE (A 4) (F 7) f8_83).toInt := congrArg Int32.toInt hr35001.1
                  refine lv_i2l hx hb dX11_advance_91 rfl ?_
                  refine lv_topl (fun v35002 ev35002 => ?_)
                  have tv35002 : v35002.toInt = r35001.toInt := by rw [ev35002]; exact Int32.toInt_toInt64 _
                  refine lv_ldc2 hx hb hown (ht _ kl_RX11_112) dX11_advance_92 ?_
                  refine lv_ldc2 hx hb hown (ht _ kl_RX11_114) dX11_advance_95 ?_
                  refine behR (runSP (As := [.long v35002, .long 97, .long 122]) (rest := []) ⟨hx, hb, hml, hown, ht⟩ (sX11_in l G cs v35002 97 122 ) okS_RX11_79 ⟨by decide, by decide⟩ hK hP [] rfl hl.1 rfl (Nat.le_of_ble_eq_true rfl) dX11_advance_98 ⟨by decide, by decide⟩) hP hS hA (fun r35003 H locs hr35003 hP hS => ?_)
                  have kk35004 : (97 : Int64).toInt = 97 := by decide
                  have kk35005 : (122 : Int64).toInt = 122 := by decide
                  have hr35003 : (r35003.toInt = 1 ∧ (97 : Int64).toInt ≤ v35002.toInt ∧ v35002.toInt ≤ (122 : Int64).toInt) ∨ (r35003.toInt = 0 ∧ (v35002.toInt < (97 : Int64).toInt ∨ (122 : Int64).toInt < v35002.toInt)) := hr35003
                  refine lv_if_eq (tgt := 117) hx hb dX11_advance_101 (by decide) (fun c35006 => ?_) (fun c35006 => ?_)
                  · have zc35006 := eqK rfl (show (0 : Int32).toInt = 0 by decide) c35006
                    refine lv_aload_n hx hb dX11_advance_117 rfl (lv_at hl 0 rfl) ?_
                    refine lv_iconst (v := 1) hx hb dX11_advance_118 (by decide) ?_
                    refine putD hx hb ht hown hK hP hD hS iTX11 tyX11 tyX11_ok nmX11 0 10 rfl rfl (by decide) fl_RX11_109 rfl rfl rfl (Nat.le_of_ble_eq_true rfl) dX11_advance_119 (fun H locs hP hD hS => ?_)
                    have hP : va_P G vwCl (mS cs h q (upd (upd (upd F 8 f8_83) 9 f8_0) 10 1) A D B) H := hP
                    have hD : va_D A0 (mS cs h q (upd (upd (upd F 8 f8_83) 9 f8_0) 10 1) A D B) := hD
                    refine lv_goto (tgt := 239) hx hb dX11_advance_122 (by decide) ?_
                    exact retDw (f8_83, f8_0, 1, (F 11)) hx hb hr hlk hP hD hS dX11_advance_239 (⟨show (0 : Int) ≤ f8_83.toInt ∧ f8_83.toInt ≤ 900 by omega, show (0 : Int) ≤ f8_0.toInt ∧ f8_0.toInt ≤ 900 by omega, show (0 : Int) ≤ (1 : Int32).toInt ∧ (1 : Int32).toInt ≤ 4 by decide, hI.1 11, ⟨(show (F 8).toInt ≤ f8_0.toInt by omega), (show ((1 : Int32).toInt = 0 ∨ f8_0.toInt < f8_83.toInt) ∧ f8_0.toInt ≤ f8_83.toInt by have kf10 : (1 : Int32).toInt = 1 := (by decide); omega)⟩⟩) (Nat.le_of_ble_eq_true rfl) (Nat.le_of_ble_eq_true rfl)
                  · have zc35006 := neK rfl (show (0 : Int32).toInt = 0 by decide) c35006
                    refine lv_aload_n hx hb dX11_advance_104 rfl (lv_at hl 0 rfl) ?_
                    refine lv_dup hx hb dX11_advance_105 rfl ?_
                    refine getF (v := .int f8_83) hx hb ht hown hK hP iTX11 0 8 rfl rfl (by decide) fl_RX11_99 rfl dX11_advance_106 ?_
                    refine lv_iconst (v := 1) hx hb dX11_advance_109 (by decide) ?_
                    refine lv_iadd hx hb dX11_advance_110 ?_
                    refine lv_topi (fun v35007 ev35007 => ?_)
                    have tv35007 : v35007.toInt = f8_83.toInt + 1 := by rw [ev35007]; exact addT rfl (show (1 : Int32).toInt = 1 by decide) (by omega)
                    refine putD hx hb ht hown hK hP hD hS iTX11 tyX11 tyX11_ok nmX11 0 8 rfl rfl (by decide) fl_RX11_99 rfl rfl rfl (Nat.le_of_ble_eq_true rfl) dX11_advance_111 (fun H locs hP hD hS => ?_)
                    have hP : va_P G vwCl (mS cs h q (upd (upd F 8 v35007) 9 f8_0) A D B) H := hP
                    have hD : va_D A0 (mS cs h q (upd (upd F 8 v35007) 9 f8_0) A D B) := hD
                    refine lv_goto (tgt := 83) hx hb dX11_advance_114 (by decide) ?_
                    exact ih83 v35007 H locs ls (by omega) (by omega) (by have k0 : (0 : Int32).toInt = 0 := (by decide); have k1 : (1 : Int32).toInt = 1 := (by decide); omega) hP hD hS (lv_sub hl [0] rfl)
              exact B83 _ f8_0 H locs ls (Nat.lt_succ_self _) (by omega) (by have k0 : (0 : Int32).toInt = 0 := (by decide); have k1 : (1 : Int32).toInt = 1 := (by decide); omega) hP hD hS (lv_sub hl [1] rfl)
          · have zc1006 := eqK rfl (show (-1 : Int32).toInt = (-1) by decide) c1006
            refine lv_aload_n hx hb dX11_advance_61 rfl (lv_at hl 1 rfl) ?_
            refine lv_iconst (v := 0) hx hb dX11_advance_62 (by decide) ?_
            refine putD hx hb ht hown hK hP hD hS iTX11 tyX11 tyX11_ok nmX11 0 10 rfl rfl (by decide) fl_RX11_109 rfl rfl rfl (Nat.le_of_ble_eq_true rfl) dX11_advance_63 (fun H locs hP hD hS => ?_)
            have hP : va_P G vwCl (mS cs h q (upd (upd (upd F 8 f8_0) 9 f8_0) 10 0) A D B) H := hP
            have hD : va_D A0 (mS cs h q (upd (upd (upd F 8 f8_0) 9 f8_0) 10 0) A D B) := hD
            refine lv_goto (tgt := 239) hx hb dX11_advance_66 (by decide) ?_
            exact retDw (f8_0, f8_0, 0, (F 11)) hx hb hr hlk hP hD hS dX11_advance_239 (⟨show (0 : Int) ≤ f8_0.toInt ∧ f8_0.toInt ≤ 900 by omega, show (0 : Int) ≤ f8_0.toInt ∧ f8_0.toInt ≤ 900 by omega, show (0 : Int) ≤ (0 : Int32).toInt ∧ (0 : Int32).toInt ≤ 4 by decide, hI.1 11, ⟨(show (F 8).toInt ≤ f8_0.toInt by omega), (show ((0 : Int32).toInt = 0 ∨ f8_0.toInt < f8_0.toInt) ∧ f8_0.toInt ≤ f8_0.toInt by have kf10 : (0 : Int32).toInt = 0 := (by decide); omega)⟩⟩) (Nat.le_of_ble_eq_true rfl) (Nat.le_of_ble_eq_true rfl)
        · have zc1004 := eqK rfl (show (10 : Int32).toInt = 10 by decide) c1004
          exact B26 H locs ls (by have k0 : (0 : Int32).toInt = 0 := (by decide); have k1 : (1 : Int32).toInt = 1 := (by decide); omega) hP hD hS (lv_sub hl [0] rfl)
  exact B0 _ (F 8) s.heap [] ls (Nat.lt_succ_self _) (hI.1 8) (by have k0 : (0 : Int32).toInt = 0 := (by decide); have k1 : (1 : Int32).toInt = 1 := (by decide); omega) hP hD hS (lv_sub hl [0] rfl)

set_option maxRecDepth 100000 in
set_option maxHeartbeats 8000000 in
theorem sX11_is (l : Launch) (G : va_G) (cs : Nat → ClassId) (sd : Nat → Nat × Nat) (h : Nat) (q : Nat → Nat) (F : Nat → Int32) (A : Nat → Nat → Int32) (D : Int64) (B : Nat → Nat → Int64) (hI : IM F A) (i : Nat) (hi : i < 15) : ∀ sz : Nat, Met l yX11_is (wk yX11_is cX11_is 4 (some .boolean)) (rmk 4 0 0) (PrePS SRM sd G (TY cs) [.ref h, .ref ((sd i).1)] (mS cs h q F A D B) sz) (QRi (fun r : Int32 => ISP r (F 12) (F 8) (F 9) (F 10) (A 4) i ∧ (0 : Int) ≤ r.toInt ∧ r.toInt ≤ 1) sz) 0 0 (fun q => sz ≤ q) := by
  refine mkPS (Qc := QRi (fun r : Int32 => ISP r (F 12) (F 8) (F 9) (F 10) (A 4) i ∧ (0 : Int) ≤ r.toInt ∧ r.toInt ≤ 1)) (by decide) (by simp [lg_sl, Value.category]) ?_
  intro p e s m args below meth c ls hx hb hml hr hlk hown ht hK hP hS hQ hl
  have hl : lv_has ls 4 [(0, .ref h), (1, .ref ((sd i).1))] := hl
  refine lv_aload_n hx hb dX11_is_0 rfl (lv_at hl 0 rfl) ?_
  refine behR (runVP (As := []) (rest := []) ⟨hx, hb, hml, hown, ht⟩ (sX11_good l G cs h q F A D B hI  ) okV_RX11_133 ⟨by decide, by decide⟩ hK hP [0, 1, 2, 3, 4, 5, 6, 7, 8, 9, 10, 11, 12, 13, 14, 15, 16, 17, 18, 19] rfl 0 rfl rfl hl.1 rfl (Nat.le_of_ble_eq_true rfl) dX11_is_1 ⟨by decide, by decide⟩) hP hS (fun _ h => h) (fun r1 H locs hr1 hP hS => ?_)
  have hr1 : (r1.toInt = 1 ∧ (F 12).toInt = 0) ∨ (r1.toInt = 0 ∧ ¬ (F 12).toInt = 0) := hr1
  have B36 : ∀ (s36_0 : Int32) (H : Heap) (locs : List Loc) (ls : Array Slot), (0 : Int) ≤ s36_0.toInt ∧ s36_0.toInt ≤ 1 → ((s36_0.toInt = 1 ∧ CO (F 8) (F 9) (F 10) (F 12) i) ∨ (s36_0.toInt = 0 ∧ ¬ CO (F 8) (F 9) (F 10) (F 12) i)) → va_P G vwCl (mS cs h q F A D B) H → va_S (fun q => s.heap.size ≤ q) s.heap H locs → lv_has ls 4 [(0, .ref h), (1, .ref ((sd i).1))] → W p l e (rmk 4 0 0) s m args below meth c H locs 0 0 (MQ below (QRi (fun r : Int32 => ISP r (F 12) (F 8) (F 9) (F 10) (A 4) i ∧ (0 : Int) ≤ r.toInt ∧ r.toInt ≤ 1) s.heap.size) args s 0 0 (fun q => s.heap.size ≤ q)) (F0 m 36 ls [.int s36_0]) := by
    intro s36_0 H locs ls hs36_0 h36 hP hS hl
    refine lv_istore_n (lv' := [(2, .int s36_0), (0, .ref h), (1, .ref ((sd i).1))]) hx hb dX11_is_36 rfl hl (by decide) rfl (fun ls hl => ?_)
    refine lv_iconst (v := 0) hx hb dX11_is_37 (by decide) ?_
    refine lv_istore_n (lv' := [(3, .int 0), (2, .int s36_0), (0, .ref h), (1, .ref ((sd i).1))]) hx hb dX11_is_38 rfl hl (by decide) rfl (fun ls hl => ?_)
    have B39 : ∀ (n : Nat) (x39_2 : Int32) (x39_3 : Int32) (H : Heap) (locs : List Loc) (ls : Array Slot), (6 - x39_3.toInt).toNat < n → (0 : Int) ≤ x39_2.toInt ∧ x39_2.toInt ≤ 1 → (0 : Int) ≤ x39_3.toInt ∧ x39_3.toInt ≤ 6 → (LI (F 8) (F 9) (F 10) (F 12) (A 4) i x39_2 x39_3.toInt) → va_P G vwCl (mS cs h q F A D B) H → va_S (fun q => s.heap.size ≤ q) s.heap H locs → lv_has ls 4 [(0, .ref h), (1, .ref ((sd i).1)), (2, .int x39_2), (3, .int x39_3)] → W p l e (rmk 4 0 0) s m args below meth c H locs 0 0 (MQ below (QRi (fun r : Int32 => ISP r (F 12) (F 8) (F 9) (F 10) (A 4) i ∧ (0 : Int) ≤ r.toInt ∧ r.toInt ≤ 1) s.heap.size) args s 0 0 (fun q => s.heap.size ≤ q)) (F0 m 39 ls []) := by
      intro n
      induction n with
      | zero => intro x39_2 x39_3 H locs ls hmeas hx39_2 hx39_3 hli hP hS hl; exact absurd hmeas (Nat.not_lt_zero _)
      | succ n ih39 =>
        intro x39_2 x39_3 H locs ls hmeas hx39_2 hx39_3 hli hP hS hl
        refine lv_iload_n hx hb dX11_is_39 rfl (lv_at hl 3 rfl) ?_
        refine lv_aload_n hx hb dX11_is_40 rfl (lv_at hl 1 rfl) ?_
        refine behR (runVS (As := []) (rest := [.int x39_3]) ⟨hx, hb, hml, hown, ht⟩ (sJ0_length_8abf5 l G cs SRM sd i hi) okV_RX11_136 ⟨by decide, by decide⟩ hK hQ hS (fun _ h => h) hi hl.1 rfl (Nat.le_of_ble_eq_true rfl) dX11_is_41 ⟨by decide, by decide⟩) hP hS (fun _ h => h) (fun r22001 H locs hr22001 hP hS => ?_)
        have hr22001 : r22001.toInt = ((lenS.getD i 0 : Nat) : Int) := hr22001
        have lr22001 := lenB ⟨i, hi⟩
        have lr22001 : lenS.getD i 0 ≤ 6 ∧ 2 ≤ lenS.getD i 0 := lr22001
        refine lv_icmp_ge (tgt := 82) hx hb dX11_is_44 (by decide) (fun c22002 => ?_) (fun c22002 => ?_)
        · have zc22002 := leK rfl rfl c22002
          refine lv_iload_n hx hb dX11_is_82 rfl (lv_at hl 2 rfl) ?_
          exact retRz hx hb hr hlk hS dX11_is_83 (narZ (by omega)) (⟨LIr hli (by omega), by omega⟩)
        · have zc22002 := nleK rfl rfl c22002
          refine lv_iload_n hx hb dX11_is_47 rfl (lv_at hl 2 rfl) ?_
          refine lv_if_eq (tgt := 82) hx hb dX11_is_48 (by decide) (fun c22003 => ?_) (fun c22003 => ?_)
          · have zc22003 := eqK rfl (show (0 : Int32).toInt = 0 by decide) c22003
            refine lv_iload_n hx hb dX11_is_82 rfl (lv_at hl 2 rfl) ?_
            exact retRz hx hb hr hlk hS dX11_is_83 (narZ (by omega)) (⟨LIr hli (by omega), by omega⟩)
          · have zc22003 := neK rfl (show (0 : Int32).toInt = 0 by decide) c22003
            have hF8 : (0 : Int) ≤ (F 8).toInt ∧ (F 8).toInt ≤ 900 := hI.1 8
            have hc9 := LIc hli (by omega)
            refine lv_aload_n hx hb dX11_is_51 rfl (lv_at hl 0 rfl) ?_
            refine getF (v := .ref (q 4)) hx hb ht hown hK hP iTX11 0 4 rfl rfl (by decide) fl_RX11_20 rfl dX11_is_52 ?_
            refine lv_aload_n hx hb dX11_is_55 rfl (lv_at hl 0 rfl) ?_
            refine getF (v := .int (F 9)) hx hb ht hown hK hP iTX11 0 9 rfl rfl (by decide) fl_RX11_106 rfl dX11_is_56 ?_
            have zf22004 : (0 : Int) ≤ (F 9).toInt ∧ (F 9).toInt ≤ 900 := hI.1 9
            refine lv_iload_n hx hb dX11_is_59 rfl (lv_at hl 3 rfl) ?_
            refine lv_iadd hx hb dX11_is_60 ?_
            refine lv_topi (fun v22005 ev22005 => ?_)
            have tv22005 : v22005.toInt = (F 9).toInt + x39_3.toInt := by rw [ev22005]; exact addT rfl rfl (by omega)
            refine va_bald hx hb hK.1 hP 4 1 rfl rfl (inK rfl (by omega) (by decide)) dX11_is_61 ?_
            refine lv_topi (fun v22006 ev22006 => ?_)
            have ev22006 : v22006 = (A 4) v22005.toNatClampNeg := ev22006
            refine lv_aload_n hx hb dX11_is_62 rfl (lv_at hl 1 rfl) ?_
            refine lv_iload_n hx hb dX11_is_63 rfl (lv_at hl 3 rfl) ?_
            refine behR (runVS (As := [.int x39_3]) (rest := [.int v22006]) ⟨hx, hb, hml, hown, ht⟩ (sJ0_charAt_5068e l G cs SRM sd i hi x39_3 (by omega) (by omega)) okV_RX11_142 ⟨by decide, by decide⟩ hK hQ hS (fun _ h => h) hi hl.1 rfl (Nat.le_of_ble_eq_true rfl) dX11_is_64 ⟨by decide, by decide⟩) hP hS (fun _ h => h) (fun r22007 H locs hr22007 hP hS => ?_)
            have hr22007 : r22007 = chS i x39_3.toNatClampNeg ∧ 0 ≤ r22007.toInt ∧ r22007.toInt ≤ 255 := hr22007
            have B75 : ∀ (s75_0 : Int32) (H : Heap) (locs : List Loc) (ls : Array Slot), (0 : Int) ≤ s75_0.toInt ∧ s75_0.toInt ≤ 1 → ((s75_0.toInt = 1 ∧ v22006.toInt = r22007.toInt) ∨ (s75_0.toInt = 0 ∧ ¬ v22006.toInt = r22007.toInt)) → va_P G vwCl (mS cs h q F A D B) H → va_S (fun q => s.heap.size ≤ q) s.heap H locs → lv_has ls 4 [(0, .ref h), (1, .ref ((sd i).1)), (3, .int x39_3)] → W p l e (rmk 4 0 0) s m args below meth c H locs 0 0 (MQ below (QRi (fun r : Int32 => ISP r (F 12) (F 8) (F 9) (F 10) (A 4) i ∧ (0 : Int) ≤ r.toInt ∧ r.toInt ≤ 1) s.heap.size) args s 0 0 (fun q => s.heap.size ≤ q)) (F0 m 75 ls [.int s75_0]) := by
              intro s75_0 H locs ls hs75_0 h75 hP hS hl
              refine lv_istore_n (lv' := [(2, .int s75_0), (0, .ref h), (1, .ref ((sd i).1)), (3, .int x39_3)]) hx hb dX11_is_75 rfl hl (by decide) rfl (fun ls hl => ?_)
              obtain ⟨v42001, ev42001⟩ : ∃ z : Int32, z = x39_3 + 1 := ⟨_, rfl⟩
              have tv42001 : v42001.toInt = x39_3.toInt + 1 := by rw [ev42001]; exact addT rfl (by decide) (by omega)
              refine lv_iinc (v := v42001) (lv' := [(3, .int v42001), (2, .int s75_0), (0, .ref h), (1, .ref ((sd i).1))]) hx hb dX11_is_76 hl (k := 3) rfl (by rw [ev42001]; rfl) (by decide) rfl (fun ls hl => ?_)
              refine lv_goto (tgt := 39) hx hb dX11_is_79 (by decide) ?_
              exact ih39 s75_0 v42001 H locs ls (by omega) (by omega) (by omega) (LIs hli (by omega) ev22006 (by have y1 := clK (i := v22005) rfl (by omega); have y2 := clK (i := (F 9)) rfl (by omega); have y3 := clK (i := x39_3) rfl (by omega); omega) hr22007.1 h75 (by omega) tv42001) hP hS (lv_sub hl [2, 3, 1, 0] rfl)
            refine lv_icmp_ne (tgt := 74) hx hb dX11_is_67 (by decide) (fun c22008 => ?_) (fun c22008 => ?_)
            · have zc22008 := neK rfl rfl c22008
              refine lv_iconst (v := 0) hx hb dX11_is_74 (by decide) ?_
              exact B75 0 H locs ls (by decide) (by have k0 : (0 : Int32).toInt = 0 := (by decide); have k1 : (1 : Int32).toInt = 1 := (by decide); omega) hP hS (lv_sub hl [0, 1, 3] rfl)
            · have zc22008 := eqK rfl rfl c22008
              refine lv_iconst (v := 1) hx hb dX11_is_70 (by decide) ?_
              refine lv_goto (tgt := 75) hx hb dX11_is_71 (by decide) ?_
              exact B75 1 H locs ls (by decide) (by have k0 : (0 : Int32).toInt = 0 := (by decide); have k1 : (1 : Int32).toInt = 1 := (by decide); omega) hP hS (lv_sub hl [0, 1, 3] rfl)
    exact B39 _ s36_0 0 H locs ls (Nat.lt_succ_self _) (by omega) (by decide) (LI0 (by decide) h36) hP hS (lv_sub hl [2, 3, 1, 0] rfl)
  have B35 : ∀ (H : Heap) (locs : List Loc) (ls : Array Slot), (¬ CO (F 8) (F 9) (F 10) (F 12) i) → va_P G vwCl (mS cs h q F A D B) H → va_S (fun q => s.heap.size ≤ q) s.heap H locs → lv_has ls 4 [(0, .ref h), (1, .ref ((sd i).1))] → W p l e (rmk 4 0 0) s m args below meth c H locs 0 0 (MQ below (QRi (fun r : Int32 => ISP r (F 12) (F 8) (F 9) (F 10) (A 4) i ∧ (0 : Int) ≤ r.toInt ∧ r.toInt ≤ 1) s.heap.size) args s 0 0 (fun q => s.heap.size ≤ q)) (F0 m 35 ls []) := by
    intro H locs ls hno hP hS hl
    refine lv_iconst (v := 0) hx hb dX11_is_35 (by decide) ?_
    exact B36 0 H locs ls (by decide) (Or.inr ⟨by decide, hno⟩) hP hS (lv_sub hl [0, 1] rfl)
  refine lv_if_eq (tgt := 35) hx hb dX11_is_4 (by decide) (fun c2 => ?_) (fun c2 => ?_)
  · have zc2 := eqK rfl (show (0 : Int32).toInt = 0 by decide) c2
    exact B35 H locs ls (fun q9 => by have q1 := q9.1; have q2 := q9.2.1; have q3 := q9.2.2; omega) hP hS (lv_sub hl [0, 1] rfl)
  · have zc2 := neK rfl (show (0 : Int32).toInt = 0 by decide) c2
    refine lv_aload_n hx hb dX11_is_7 rfl (lv_at hl 0 rfl) ?_
    refine getF (v := .int (F 10)) hx hb ht hown hK hP iTX11 0 10 rfl rfl (by decide) fl_RX11_109 rfl dX11_is_8 ?_
    have zf3 : (0 : Int) ≤ (F 10).toInt ∧ (F 10).toInt ≤ 4 := hI.1 10
    refine lv_iconst (v := 1) hx hb dX11_is_11 (by decide) ?_
    refine lv_icmp_ne (tgt := 35) hx hb dX11_is_12 (by decide) (fun c4 => ?_) (fun c4 => ?_)
    · have zc4 := neK rfl (show (1 : Int32).toInt = 1 by decide) c4
      exact B35 H locs ls (fun q9 => by have q1 := q9.1; have q2 := q9.2.1; have q3 := q9.2.2; omega) hP hS (lv_sub hl [0, 1] rfl)
    · have zc4 := eqK rfl (show (1 : Int32).toInt = 1 by decide) c4
      refine lv_aload_n hx hb dX11_is_15 rfl (lv_at hl 0 rfl) ?_
      refine getF (v := .int (F 8)) hx hb ht hown hK hP iTX11 0 8 rfl rfl (by decide) fl_RX11_99 rfl dX11_is_16 ?_
      have zf5 : (0 : Int) ≤ (F 8).toInt ∧ (F 8).toInt ≤ 900 := hI.1 8
      refine lv_aload_n hx hb dX11_is_19 rfl (lv_at hl 0 rfl) ?_
      refine getF (v := .int (F 9)) hx hb ht hown hK hP iTX11 0 9 rfl rfl (by decide) fl_RX11_106 rfl dX11_is_20 ?_
      have zf6 : (0 : Int) ≤ (F 9).toInt ∧ (F 9).toInt ≤ 900 := hI.1 9
      refine lv_isub hx hb dX11_is_23 ?_
      refine lv_topi (fun v7 ev7 => ?_)
      have tv7 : v7.toInt = (F 8).toInt - (F 9).toInt := by rw [ev7]; exact subT rfl rfl (by omega)
      refine lv_aload_n hx hb dX11_is_24 rfl (lv_at hl 1 rfl) ?_
      refine behR (runVS (As := []) (rest := [.int v7]) ⟨hx, hb, hml, hown, ht⟩ (sJ0_length_8abf5 l G cs SRM sd i hi) okV_RX11_136 ⟨by decide, by decide⟩ hK hQ hS (fun _ h => h) hi hl.1 rfl (Nat.le_of_ble_eq_true rfl) dX11_is_25 ⟨by decide, by decide⟩) hP hS (fun _ h => h) (fun r8 H locs hr8 hP hS => ?_)
      have hr8 : r8.toInt = ((lenS.getD i 0 : Nat) : Int) := hr8
      have lr8 := lenB ⟨i, hi⟩
      have lr8 : lenS.getD i 0 ≤ 6 ∧ 2 ≤ lenS.getD i 0 := lr8
      refine lv_icmp_ne (tgt := 35) hx hb dX11_is_28 (by decide) (fun c9 => ?_) (fun c9 => ?_)
      · have zc9 := neK rfl rfl c9
        exact B35 H locs ls (fun q9 => by have q1 := q9.1; have q2 := q9.2.1; have q3 := q9.2.2; omega) hP hS (lv_sub hl [0, 1] rfl)
      · have zc9 := eqK rfl rfl c9
        refine lv_iconst (v := 1) hx hb dX11_is_31 (by decide) ?_
        refine lv_goto (tgt := 36) hx hb dX11_is_32 (by decide) ?_
        exact B36 1 H locs ls (by decide) (Or.inl ⟨by decide, by omega, by omega, by omega⟩) hP hS (lv_sub hl [0, 1] rfl)

set_option maxRecDepth 100000 in
set_option maxHeartbeats 8000000 in
theorem sX11_takes (l : Launch) (G : va_G) (cs : Nat → ClassId) (sd : Nat → Nat × Nat) (h : Nat) (q : Nat → Nat) (F : Nat → Int32) (A : Nat → Nat → Int32) (D : Int64) (B : Nat → Nat → Int64) (hI : IM F A) (i : Nat) (hi : i < 15) (hPI : PIk (F 8) (F 9) (F 10)) : ∀ sz : Nat, Met l yX11_takes (wk yX11_takes cX11_takes 3 (some .boolean)) (rmk 5 0 0) (PreDS SRM sd G (TY cs) [.ref h, .ref ((sd i).1)] (mS cs h q F A D B) sz) ((QDi G (fun (r : Int32) (u : Int32 × Int32 × Int32 × Int32) => ((0 : Int) ≤ u.1.toInt ∧ u.1.toInt ≤ 900) ∧ ((0 : Int) ≤ u.2.1.toInt ∧ u.2.1.toInt ≤ 900) ∧ ((0 : Int) ≤ u.2.2.1.toInt ∧ u.2.2.1.toInt ≤ 4) ∧ ((0 : Int) ≤ u.2.2.2.toInt ∧ u.2.2.2.toInt ≤ 99999) ∧ (((0 : Int) ≤ r.toInt ∧ r.toInt ≤ 1 ∧ (F 9).toInt ≤ u.2.1.toInt) ∧ (r.toInt = 0 ∨ ((F 12).toInt = 0 ∧ (F 9).toInt < u.2.1.toInt)) ∧ PIk u.1 u.2.1 u.2.2.1 ∧ TKP r (F 12) (F 8) (F 9) (F 10) u.1 u.2.1 u.2.2.1 (A 4) i)) (fun u : Int32 × Int32 × Int32 × Int32 => (mS cs h q (upd (upd (upd (upd F 8 u.1) 9 u.2.1) 10 u.2.2.1) 11 u.2.2.2) A D B))) (va_A (mS cs h q F A D B) sz)) 0 0 (va_A (mS cs h q F A D B) sz) := by
  refine mkDS (Qc := (QDi G (fun (r : Int32) (u : Int32 × Int32 × Int32 × Int32) => ((0 : Int) ≤ u.1.toInt ∧ u.1.toInt ≤ 900) ∧ ((0 : Int) ≤ u.2.1.toInt ∧ u.2.1.toInt ≤ 900) ∧ ((0 : Int) ≤ u.2.2.1.toInt ∧ u.2.2.1.toInt ≤ 4) ∧ ((0 : Int) ≤ u.2.2.2.toInt ∧ u.2.2.2.toInt ≤ 99999) ∧ (((0 : Int) ≤ r.toInt ∧ r.toInt ≤ 1 ∧ (F 9).toInt ≤ u.2.1.toInt) ∧ (r.toInt = 0 ∨ ((F 12).toInt = 0 ∧ (F 9).toInt < u.2.1.toInt)) ∧ PIk u.1 u.2.1 u.2.2.1 ∧ TKP r (F 12) (F 8) (F 9) (F 10) u.1 u.2.1 u.2.2.1 (A 4) i)) (fun u : Int32 × Int32 × Int32 × Int32 => (mS cs h q (upd (upd (upd (upd F 8 u.1) 9 u.2.1) 10 u.2.2.1) 11 u.2.2.2) A D B)))) (by decide) (by simp [lg_sl, Value.category]) ?_
  intro p e s m args below meth c ls A0 hx hb hml hr hlk hown hmn ht hK hP hD hS hA hQ hl
  have hl : lv_has ls 3 [(0, .ref h), (1, .ref ((sd i).1))] := hl
  have hpi : ((F 10).toInt = 0 ∨ (F 9).toInt < (F 8).toInt) ∧ (F 9).toInt ≤ (F 8).toInt := hPI
  refine lv_aload_n hx hb dX11_takes_0 rfl (lv_at hl 0 rfl) ?_
  refine lv_aload_n hx hb dX11_takes_1 rfl (lv_at hl 1 rfl) ?_
  refine behR (runVPS (As := [.ref ((sd i).1)]) (rest := []) ⟨hx, hb, hml, hown, ht⟩ (sX11_is l G cs sd h q F A D B hI i hi ) okV_RX11_146 ⟨by decide, by decide⟩ hK hP hQ hS hA [0, 1, 2, 3, 4, 5, 6, 7, 8, 9, 10, 11, 12, 13, 14, 15, 16, 17, 18, 19] rfl 0 rfl rfl hl.1 rfl (Nat.le_of_ble_eq_true rfl) dX11_takes_2 ⟨by decide, by decide⟩) hP hS hA (fun r1 H locs hr1 hP hS => ?_)
  have hr1 : ISP r1 (F 12) (F 8) (F 9) (F 10) (A 4) i ∧ (0 : Int) ≤ r1.toInt ∧ r1.toInt ≤ 1 := hr1
  refine lv_istore_n (lv' := [(2, .int r1), (0, .ref h), (1, .ref ((sd i).1))]) hx hb dX11_takes_5 rfl hl (by decide) rfl (fun ls hl => ?_)
  refine lv_iload_n hx hb dX11_takes_6 rfl (lv_at hl 0 rfl) ?_
  refine lv_if_eq (tgt := 14) hx hb dX11_takes_7 (by decide) (fun c2 => ?_) (fun c2 => ?_)
  · have zc2 := eqK rfl (show (0 : Int32).toInt = 0 by decide) c2
    refine lv_iload_n hx hb dX11_takes_14 rfl (lv_at hl 0 rfl) ?_
    exact retDz ((F 8), (F 9), (F 10), (F 11)) hx hb hr hlk hP hD hS dX11_takes_15 (narZ (by omega)) (⟨hI.1 8, hI.1 9, hI.1 10, hI.1 11, ⟨(show (0 : Int) ≤ r1.toInt ∧ r1.toInt ≤ 1 ∧ (F 9).toInt ≤ (F 9).toInt by omega), (show r1.toInt = 0 ∨ ((F 12).toInt = 0 ∧ (F 9).toInt < (F 9).toInt) by omega), hPI, Or.inr ⟨by omega, rfl, rfl, rfl⟩⟩⟩) (Nat.le_of_ble_eq_true rfl) (Nat.le_of_ble_eq_true rfl)
  · have zc2 := neK rfl (show (0 : Int32).toInt = 0 by decide) c2
    have hi1 := ISP1 hr1.1 (by omega)
    have hi2 := ISl hi1.2 hi
    refine lv_aload_n hx hb dX11_takes_10 rfl (lv_at hl 1 rfl) ?_
    refine behDw (wr := []) (runVD (As := []) (rest := []) ⟨hx, hb, hml, hown, ht⟩ (sX11_advance l G cs h q F A D B hI  ) okV_RX11_150 ⟨by decide, by decide⟩ hK hP hD [0, 1, 2, 3, 4, 5, 6, 7, 8, 9, 10, 11, 12, 13, 14, 15, 16, 17, 18, 19] rfl (by decide) rfl 0 rfl rfl hl.1 rfl (Nat.le_of_ble_eq_true rfl) dX11_takes_11 ⟨(Nat.le_of_ble_eq_true rfl), (Nat.le_of_ble_eq_true rfl)⟩) hP hD hS hA [0, 1, 2, 3, 4, 5, 6, 7, 8, 9, 10, 11, 12, 13, 14, 15, 16, 17, 18, 19] [] rfl rfl (by decide) (by decide) (fun u H locs hu hP hD hS => ?_)
    obtain ⟨x3, x4, x5, x6⟩ := u
    obtain ⟨hbx3, hbx4, hbx5, hbx6, hr7⟩ := hu
    have hbx3 : (0 : Int) ≤ x3.toInt ∧ x3.toInt ≤ 900 := hbx3
    have hbx4 : (0 : Int) ≤ x4.toInt ∧ x4.toInt ≤ 900 := hbx4
    have hbx5 : (0 : Int) ≤ x5.toInt ∧ x5.toInt ≤ 4 := hbx5
    have hbx6 : (0 : Int) ≤ x6.toInt ∧ x6.toInt ≤ 99999 := hbx6
    have hr7 : (F 8).toInt ≤ x4.toInt ∧ PIk x3 x4 x5 := hr7
    have hP : va_P G vwCl (mS cs h q (upd (upd (upd (upd F 8 x3) 9 x4) 10 x5) 11 x6) A D B) H := hP
    have hD : va_D A0 (mS cs h q (upd (upd (upd (upd F 8 x3) 9 x4) 10 x5) 11 x6) A D B) := hD
    refine lv_iload_n hx hb dX11_takes_14 rfl (lv_at hl 0 rfl) ?_
    exact retDz (x3, x4, x5, x6) hx hb hr hlk hP hD hS dX11_takes_15 (narZ (by omega)) (⟨show (0 : Int) ≤ x3.toInt ∧ x3.toInt ≤ 900 by omega, show (0 : Int) ≤ x4.toInt ∧ x4.toInt ≤ 900 by omega, show (0 : Int) ≤ x5.toInt ∧ x5.toInt ≤ 4 by omega, show (0 : Int) ≤ x6.toInt ∧ x6.toInt ≤ 99999 by omega, ⟨(show (0 : Int) ≤ r1.toInt ∧ r1.toInt ≤ 1 ∧ (F 9).toInt ≤ x4.toInt by omega), (show r1.toInt = 0 ∨ ((F 12).toInt = 0 ∧ (F 9).toInt < x4.toInt) by omega), hr7.2, Or.inl ⟨by omega, hi1⟩⟩⟩) (Nat.le_of_ble_eq_true rfl) (Nat.le_of_ble_eq_true rfl)

set_option maxRecDepth 100000 in
set_option maxHeartbeats 8000000 in
theorem sX11_needs (l : Launch) (G : va_G) (cs : Nat → ClassId) (sd : Nat → Nat × Nat) (h : Nat) (q : Nat → Nat) (F : Nat → Int32) (A : Nat → Nat → Int32) (D : Int64) (B : Nat → Nat → Int64) (hI : IM F A) (i : Nat) (hi : i < 15) (hPI : PIk (F 8) (F 9) (F 10)) : ∀ sz : Nat, Met l yX11_needs (wk yX11_needs cX11_needs 2 none) (rmk 6 0 0) (PreDS SRM sd G (TY cs) [.ref h, .ref ((sd i).1)] (mS cs h q F A D B) sz) ((QDw G (fun u : Int32 × Int32 × Int32 × Int32 × Int32 × Int32 => ((0 : Int) ≤ u.1.toInt ∧ u.1.toInt ≤ 900) ∧ ((0 : Int) ≤ u.2.1.toInt ∧ u.2.1.toInt ≤ 900) ∧ ((0 : Int) ≤ u.2.2.1.toInt ∧ u.2.2.1.toInt ≤ 4) ∧ ((0 : Int) ≤ u.2.2.2.1.toInt ∧ u.2.2.2.1.toInt ≤ 99999) ∧ ((0 : Int) ≤ u.2.2.2.2.1.toInt ∧ u.2.2.2.2.1.toInt ≤ 3) ∧ ((-1 : Int) ≤ u.2.2.2.2.2.toInt ∧ u.2.2.2.2.2.toInt ≤ 900) ∧ (PIk u.1 u.2.1 u.2.2.1 ∧ (F 9).toInt ≤ u.2.1.toInt ∧ NDk u.2.2.2.2.1 (F 12) (F 9) u.2.1)) (fun u : Int32 × Int32 × Int32 × Int32 × Int32 × Int32 => (mS cs h q (upd (upd (upd (upd (upd (upd F 8 u.1) 9 u.2.1) 10 u.2.2.1) 11 u.2.2.2.1) 12 u.2.2.2.2.1) 13 u.2.2.2.2.2) A D B))) (va_A (mS cs h q F A D B) sz)) 0 0 (va_A (mS cs h q F A D B) sz) := by
  refine mkDS (Qc := (QDw G (fun u : Int32 × Int32 × Int32 × Int32 × Int32 × Int32 => ((0 : Int) ≤ u.1.toInt ∧ u.1.toInt ≤ 900) ∧ ((0 : Int) ≤ u.2.1.toInt ∧ u.2.1.toInt ≤ 900) ∧ ((0 : Int) ≤ u.2.2.1.toInt ∧ u.2.2.1.toInt ≤ 4) ∧ ((0 : Int) ≤ u.2.2.2.1.toInt ∧ u.2.2.2.1.toInt ≤ 99999) ∧ ((0 : Int) ≤ u.2.2.2.2.1.toInt ∧ u.2.2.2.2.1.toInt ≤ 3) ∧ ((-1 : Int) ≤ u.2.2.2.2.2.toInt ∧ u.2.2.2.2.2.toInt ≤ 900) ∧ (PIk u.1 u.2.1 u.2.2.1 ∧ (F 9).toInt ≤ u.2.1.toInt ∧ NDk u.2.2.2.2.1 (F 12) (F 9) u.2.1)) (fun u : Int32 × Int32 × Int32 × Int32 × Int32 × Int32 => (mS cs h q (upd (upd (upd (upd (upd (upd F 8 u.1) 9 u.2.1) 10 u.2.2.1) 11 u.2.2.2.1) 12 u.2.2.2.2.1) 13 u.2.2.2.2.2) A D B)))) (by decide) (by simp [lg_sl, Value.category]) ?_
  intro p e s m args below meth c ls A0 hx hb hml hr hlk hown hmn ht hK hP hD hS hA hQ hl
  have hl : lv_has ls 2 [(0, .ref h), (1, .ref ((sd i).1))] := hl
  refine lv_aload_n hx hb dX11_needs_0 rfl (lv_at hl 0 rfl) ?_
  refine lv_aload_n hx hb dX11_needs_1 rfl (lv_at hl 1 rfl) ?_
  refine behDi (wr := []) (runVDS (As := [.ref ((sd i).1)]) (rest := []) ⟨hx, hb, hml, hown, ht⟩ (sX11_takes l G cs sd h q F A D B hI i hi  (show PIk (F 8) (F 9) (F 10) from hPI)) okV_RX11_153 ⟨by decide, by decide⟩ hK hP hD hQ hS hA [0, 1, 2, 3, 4, 5, 6, 7, 8, 9, 10, 11, 12, 13, 14, 15, 16, 17, 18, 19] rfl (by decide) rfl 0 rfl rfl hl.1 rfl (Nat.le_of_ble_eq_true rfl) dX11_needs_2 ⟨(Nat.le_of_ble_eq_true rfl), (Nat.le_of_ble_eq_true rfl)⟩) hP hD hS hA [0, 1, 2, 3, 4, 5, 6, 7, 8, 9, 10, 11, 12, 13, 14, 15, 16, 17, 18, 19] [] rfl rfl (by decide) (by decide) (fun r9 u H locs hu hP hD hS => ?_)
  obtain ⟨x1, x2, x3, x4⟩ := u
  obtain ⟨r5, rfl⟩ : ∃ z, z = r9 := ⟨_, rfl⟩
  obtain ⟨hbx1, hbx2, hbx3, hbx4, hr5⟩ := hu
  have hbx1 : (0 : Int) ≤ x1.toInt ∧ x1.toInt ≤ 900 := hbx1
  have hbx2 : (0 : Int) ≤ x2.toInt ∧ x2.toInt ≤ 900 := hbx2
  have hbx3 : (0 : Int) ≤ x3.toInt ∧ x3.toInt ≤ 4 := hbx3
  have hbx4 : (0 : Int) ≤ x4.toInt ∧ x4.toInt ≤ 99999 := hbx4
  have hr5 : ((0 : Int) ≤ r5.toInt ∧ r5.toInt ≤ 1 ∧ (F 9).toInt ≤ x2.toInt) ∧ (r5.toInt = 0 ∨ ((F 12).toInt = 0 ∧ (F 9).toInt < x2.toInt)) ∧ PIk x1 x2 x3 ∧ TKP r5 (F 12) (F 8) (F 9) (F 10) x1 x2 x3 (A 4) i := hr5
  have hP : va_P G vwCl (mS cs h q (upd (upd (upd (upd F 8 x1) 9 x2) 10 x3) 11 x4) A D B) H := hP
  have hD : va_D A0 (mS cs h q (upd (upd (upd (upd F 8 x1) 9 x2) 10 x3) 11 x4) A D B) := hD
  refine lv_if_ne (tgt := 13) hx hb dX11_needs_5 (by decide) (fun c6 => ?_) (fun c6 => ?_)
  · have zc6 := neK rfl (show (0 : Int32).toInt = 0 by decide) c6
    exact retDw (x1, x2, x3, x4, (F 12), (F 13)) hx hb hr hlk hP hD hS dX11_needs_13 (⟨show (0 : Int) ≤ x1.toInt ∧ x1.toInt ≤ 900 by omega, show (0 : Int) ≤ x2.toInt ∧ x2.toInt ≤ 900 by omega, show (0 : Int) ≤ x3.toInt ∧ x3.toInt ≤ 4 by omega, show (0 : Int) ≤ x4.toInt ∧ x4.toInt ≤ 99999 by omega, hI.1 12, hI.1 13, ⟨hr5.2.2.1, (show (F 9).toInt ≤ x2.toInt by omega), fun q9 => ⟨(show (F 12).toInt = 0 by omega), (show (F 9).toInt < x2.toInt by omega)⟩⟩⟩) (Nat.le_of_ble_eq_true rfl) (Nat.le_of_ble_eq_true rfl)
  · have zc6 := eqK rfl (show (0 : Int32).toInt = 0 by decide) c6
    refine lv_aload_n hx hb dX11_needs_8 rfl (lv_at hl 0 rfl) ?_
    refine lv_iconst (v := 1) hx hb dX11_needs_9 (by decide) ?_
    refine behDw (wr := []) (runVD (As := [.int 1]) (rest := []) ⟨hx, hb, hml, hown, ht⟩ (sX11_errs l G cs h q (upd (upd (upd (upd F 8 x1) 9 x2) 10 x3) 11 x4) A D B (IM_put (k := 11) (IM_put (k := 10) (IM_put (k := 9) (IM_put (k := 8) hI (show (0 : Int) ≤ x1.toInt ∧ x1.toInt ≤ 900 by omega)) (show (0 : Int) ≤ x2.toInt ∧ x2.toInt ≤ 900 by omega)) (show (0 : Int) ≤ x3.toInt ∧ x3.toInt ≤ 4 by omega)) (show (0 : Int) ≤ x4.toInt ∧ x4.toInt ≤ 99999 by omega)) 1 (by decide)) okV_RX11_156 ⟨by decide, by decide⟩ hK hP hD [0, 1, 2, 3, 4, 5, 6, 7, 8, 9, 10, 11, 12, 13, 14, 15, 16, 17, 18, 19] rfl (by decide) rfl 0 rfl rfl hl.1 rfl (Nat.le_of_ble_eq_true rfl) dX11_needs_10 ⟨(Nat.le_of_ble_eq_true rfl), (Nat.le_of_ble_eq_true rfl)⟩) hP hD hS hA [0, 1, 2, 3, 4, 5, 6, 7, 8, 9, 10, 11, 12, 13, 14, 15, 16, 17, 18, 19] [] rfl rfl (by decide) (by decide) (fun u H locs hu hP hD hS => ?_)
    obtain ⟨x7, x8⟩ := u
    have kk10 : (1 : Int32).toInt = 1 := by decide
    obtain ⟨hbx7, hbx8, hr9⟩ := hu
    have hbx7 : (0 : Int) ≤ x7.toInt ∧ x7.toInt ≤ 3 := hbx7
    have hbx8 : (-1 : Int) ≤ x8.toInt ∧ x8.toInt ≤ 900 := hbx8
    have hr9 : ¬ x7.toInt = 0 := hr9
    have hP : va_P G vwCl (mS cs h q (upd (upd (upd (upd (upd (upd F 8 x1) 9 x2) 10 x3) 11 x4) 12 x7) 13 x8) A D B) H := hP
    have hD : va_D A0 (mS cs h q (upd (upd (upd (upd (upd (upd F 8 x1) 9 x2) 10 x3) 11 x4) 12 x7) 13 x8) A D B) := hD
    exact retDw (x1, x2, x3, x4, x7, x8) hx hb hr hlk hP hD hS dX11_needs_13 (⟨show (0 : Int) ≤ x1.toInt ∧ x1.toInt ≤ 900 by omega, show (0 : Int) ≤ x2.toInt ∧ x2.toInt ≤ 900 by omega, show (0 : Int) ≤ x3.toInt ∧ x3.toInt ≤ 4 by omega, show (0 : Int) ≤ x4.toInt ∧ x4.toInt ≤ 99999 by omega, show (0 : Int) ≤ x7.toInt ∧ x7.toInt ≤ 3 by omega, show (-1 : Int) ≤ x8.toInt ∧ x8.toInt ≤ 900 by omega, ⟨hr5.2.2.1, (show (F 9).toInt ≤ x2.toInt by omega), fun q9 => absurd (show x7.toInt = 0 from q9) (by omega)⟩⟩) (Nat.le_of_ble_eq_true rfl) (Nat.le_of_ble_eq_true rfl)

