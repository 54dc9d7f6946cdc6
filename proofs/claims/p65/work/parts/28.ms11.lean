set_option maxRecDepth 100000 in
set_option maxHeartbeats 8000000 in
theorem sX11_read (l : Launch) (G : va_G) (cs : Nat → ClassId) (h : Nat) (q : Nat → Nat) (F : Nat → Int32) (A : Nat → Nat → Int32) (D : Int64) (B : Nat → Nat → Int64) (hI : IM F A) (a1 : Int32) (a2 : Int32) (a3 : Int32) : SafeL l yX11_read cX11_read 4 (some .long) 4 G (TY cs) [.ref h, .int a1, .int a2, .int a3] (mS cs h q F A D B) (fun r : Int64 => True) := by
  refine mkP (Qc := QRl (fun r : Int64 => True)) (by decide) (by simp [lg_sl, Value.category]) ?_
  intro p e s m args below meth c ls hx hb hml hr hlk hown ht hK hP hS hl
  have hl : lv_has ls 4 [(0, .ref h), (1, .int a1), (2, .int a2), (3, .int a3)] := hl
  refine lv_aload_n hx hb dX11_read_0 rfl (lv_at hl 0 rfl) ?_
  refine lv_iload_n hx hb dX11_read_1 rfl (lv_at hl 1 rfl) ?_
  refine behR (runVP (As := [.int a1]) (rest := []) ⟨hx, hb, hml, hown, ht⟩ (sX11_isMan l G cs h q F A D B hI a1 ) okV_RX11_230 ⟨by decide, by decide⟩ hK hP [0, 1, 2, 3, 4, 5, 6, 7, 8, 9, 10, 11, 12, 13, 14, 15, 16, 17, 18, 19] rfl 0 rfl rfl hl.1 rfl (Nat.le_of_ble_eq_true rfl) dX11_read_2 ⟨by decide, by decide⟩) hP hS (fun _ h => h) (fun r1 H locs hr1 hP hS => ?_)
  have hr1 : (r1.toInt = 1 ∧ 0 ≤ a1.toInt ∧ a1.toInt < (A 1 5).toInt ∧ a1.toInt ≤ 5 ∧ (A 1 5).toInt ≤ 6) ∨ r1.toInt = 0 := hr1
  refine lv_if_eq (tgt := 26) hx hb dX11_read_5 (by decide) (fun c2 => ?_) (fun c2 => ?_)
  · have zc2 := eqK rfl (show (0 : Int32).toInt = 0 by decide) c2
    refine lv_ldc2 hx hb hown (ht _ kl_RX11_401) dX11_read_26 ?_
    exact retRl hx hb hr hlk hS dX11_read_29 (trivial)
  · have zc2 := neK rfl (show (0 : Int32).toInt = 0 by decide) c2
    refine lv_aload_n hx hb dX11_read_8 rfl (lv_at hl 0 rfl) ?_
    refine lv_iload_n hx hb dX11_read_9 rfl (lv_at hl 2 rfl) ?_
    refine behR (runVP (As := [.int a2]) (rest := []) ⟨hx, hb, hml, hown, ht⟩ (sX11_isMan l G cs h q F A D B hI a2 ) okV_RX11_230 ⟨by decide, by decide⟩ hK hP [0, 1, 2, 3, 4, 5, 6, 7, 8, 9, 10, 11, 12, 13, 14, 15, 16, 17, 18, 19] rfl 0 rfl rfl hl.1 rfl (Nat.le_of_ble_eq_true rfl) dX11_read_10 ⟨by decide, by decide⟩) hP hS (fun _ h => h) (fun r3 H locs hr3 hP hS => ?_)
    have hr3 : (r3.toInt = 1 ∧ 0 ≤ a2.toInt ∧ a2.toInt < (A 1 5).toInt ∧ a2.toInt ≤ 5 ∧ (A 1 5).toInt ≤ 6) ∨ r3.toInt = 0 := hr3
    refine lv_if_eq (tgt := 26) hx hb dX11_read_13 (by decide) (fun c4 => ?_) (fun c4 => ?_)
    · have zc4 := eqK rfl (show (0 : Int32).toInt = 0 by decide) c4
      refine lv_ldc2 hx hb hown (ht _ kl_RX11_401) dX11_read_26 ?_
      exact retRl hx hb hr hlk hS dX11_read_29 (trivial)
    · have zc4 := neK rfl (show (0 : Int32).toInt = 0 by decide) c4
      refine lv_iload_n hx hb dX11_read_16 rfl (lv_at hl 3 rfl) ?_
      refine lv_i2l hx hb dX11_read_17 rfl ?_
      have bb5 := i32b a3
      refine lv_topl (fun v6 ev6 => ?_)
      have tv6 : v6.toInt = a3.toInt := by rw [ev6]; exact Int32.toInt_toInt64 _
      refine lv_lconst (v := 0) hx hb dX11_read_18 (by decide) ?_
      refine lv_lconst (v := 1) hx hb dX11_read_19 (by decide) ?_
      refine behR (runSP (As := [.long v6, .long 0, .long 1]) (rest := []) ⟨hx, hb, hml, hown, ht⟩ (sX11_in l G cs v6 0 1 ) okS_RX11_79 ⟨by decide, by decide⟩ hK hP [] rfl hl.1 rfl (Nat.le_of_ble_eq_true rfl) dX11_read_20 ⟨by decide, by decide⟩) hP hS (fun _ h => h) (fun r7 H locs hr7 hP hS => ?_)
      have kk8 : (0 : Int64).toInt = 0 := by decide
      have kk9 : (1 : Int64).toInt = 1 := by decide
      have hr7 : (r7.toInt = 1 ∧ (0 : Int64).toInt ≤ v6.toInt ∧ v6.toInt ≤ (1 : Int64).toInt) ∨ (r7.toInt = 0 ∧ (v6.toInt < (0 : Int64).toInt ∨ (1 : Int64).toInt < v6.toInt)) := hr7
      refine lv_if_ne (tgt := 30) hx hb dX11_read_23 (by decide) (fun c10 => ?_) (fun c10 => ?_)
      · have zc10 := neK rfl (show (0 : Int32).toInt = 0 by decide) c10
        refine lv_aload_n hx hb dX11_read_30 rfl (lv_at hl 0 rfl) ?_
        refine lv_iload_n hx hb dX11_read_31 rfl (lv_at hl 2 rfl) ?_
        refine behRL (runVP (As := [.int a2]) (rest := []) ⟨hx, hb, hml, hown, ht⟩ (sX11_allRead l G cs h q F A D B hI a2 (by omega)) okV_RX11_403 ⟨by decide, by decide⟩ hK hP [0, 1, 2, 3, 4, 5, 6, 7, 8, 9, 10, 11, 12, 13, 14, 15, 16, 17, 18, 19] rfl 0 rfl rfl hl.1 rfl (Nat.le_of_ble_eq_true rfl) dX11_read_32 ⟨by decide, by decide⟩) hP hS (fun _ h => h) (fun r11 H locs hr11 hP hS => ?_)
        have hr11 : r11.toInt = AR (A 1) a2.toNatClampNeg ((A 1) 5).toNatClampNeg := hr11
        refine lv_lconst (v := 0) hx hb dX11_read_35 (by decide) ?_
        refine W.lcmp hx hb dX11_read_36 ?_
        refine lv_topi (fun v12 ev12 => ?_)
        refine lv_if_ne (tgt := 45) hx hb dX11_read_37 (by decide) (fun c13 => ?_) (fun c13 => ?_)
        · have zc13 := neK rfl (show (0 : Int32).toInt = 0 by decide) c13
          have yc13 := cmpEQn rfl (show (0 : Int64).toInt = 0 by decide) ev12 (by omega)
          refine lv_aload_n hx hb dX11_read_45 rfl (lv_at hl 0 rfl) ?_
          refine lv_iload_n hx hb dX11_read_46 rfl (lv_at hl 1 rfl) ?_
          refine lv_iload_n hx hb dX11_read_47 rfl (lv_at hl 2 rfl) ?_
          refine behRL (runVP (As := [.int a1, .int a2]) (rest := []) ⟨hx, hb, hml, hown, ht⟩ (sX11_likelyRead l G cs h q F A D B hI a1 a2 (by omega) (by omega)) okV_RX11_398 ⟨by decide, by decide⟩ hK hP [0, 1, 2, 3, 4, 5, 6, 7, 8, 9, 10, 11, 12, 13, 14, 15, 16, 17, 18, 19] rfl 0 rfl rfl hl.1 rfl (Nat.le_of_ble_eq_true rfl) dX11_read_48 ⟨by decide, by decide⟩) hP hS (fun _ h => h) (fun r14 H locs hr14 hP hS => ?_)
          have hr14 : r14.toInt = LRp (A 1) a1.toNatClampNeg a2.toNatClampNeg ((A 1) 5).toNatClampNeg ∧ 0 ≤ r14.toInt ∧ r14.toInt ≤ 22092265964736 := hr14
          refine lv_aload_n hx hb dX11_read_51 rfl (lv_at hl 0 rfl) ?_
          refine lv_iload_n hx hb dX11_read_52 rfl (lv_at hl 2 rfl) ?_
          refine behRL (runVP (As := [.int a2]) (rest := [.long r14]) ⟨hx, hb, hml, hown, ht⟩ (sX11_allRead l G cs h q F A D B hI a2 (by omega)) okV_RX11_403 ⟨by decide, by decide⟩ hK hP [0, 1, 2, 3, 4, 5, 6, 7, 8, 9, 10, 11, 12, 13, 14, 15, 16, 17, 18, 19] rfl 0 rfl rfl hl.1 rfl (Nat.le_of_ble_eq_true rfl) dX11_read_53 ⟨by decide, by decide⟩) hP hS (fun _ h => h) (fun r15 H locs hr15 hP hS => ?_)
          have hr15 : r15.toInt = AR (A 1) a2.toNatClampNeg ((A 1) 5).toNatClampNeg := hr15
          refine lv_iload_n hx hb dX11_read_56 rfl (lv_at hl 3 rfl) ?_
          refine behRL (runSP (As := [.long r14, .long r15, .int a3]) (rest := []) ⟨hx, hb, hml, hown, ht⟩ (sX11_part l G cs r14 r15 a3  (show ¬ (r14.toInt = 0 ∧ r15.toInt = 0) from (by omega))) okS_RX11_388 ⟨by decide, by decide⟩ hK hP [] rfl hl.1 rfl (Nat.le_of_ble_eq_true rfl) dX11_read_57 ⟨by decide, by decide⟩) hP hS (fun _ h => h) (fun r16 H locs hr16 hP hS => ?_)
          exact retRl hx hb hr hlk hS dX11_read_60 (trivial)
        · have zc13 := eqK rfl (show (0 : Int32).toInt = 0 by decide) c13
          have yc13 := cmpEQ rfl (show (0 : Int64).toInt = 0 by decide) ev12 (by omega)
          refine lv_iload_n hx hb dX11_read_40 rfl (lv_at hl 3 rfl) ?_
          refine lv_i2l hx hb dX11_read_41 rfl ?_
          refine lv_topl (fun v17 ev17 => ?_)
          have tv17 : v17.toInt = a3.toInt := by rw [ev17]; exact Int32.toInt_toInt64 _
          refine lv_goto (tgt := 60) hx hb dX11_read_42 (by decide) ?_
          exact retRl hx hb hr hlk hS dX11_read_60 (trivial)
      · have zc10 := eqK rfl (show (0 : Int32).toInt = 0 by decide) c10
        refine lv_ldc2 hx hb hown (ht _ kl_RX11_401) dX11_read_26 ?_
        exact retRl hx hb hr hlk hS dX11_read_29 (trivial)

set_option maxRecDepth 100000 in
set_option maxHeartbeats 8000000 in
theorem sX11_guess (l : Launch) (G : va_G) (cs : Nat → ClassId) (h : Nat) (q : Nat → Nat) (F : Nat → Int32) (A : Nat → Nat → Int32) (D : Int64) (B : Nat → Nat → Int64) (hI : IM F A) (a1 : Int32) : SafeR l yX11_guess cX11_guess 4 (some .int) 4 G (TY cs) [.ref h, .int a1] (mS cs h q F A D B) (fun r : Int32 => True) := by
  refine mkP (Qc := QRi (fun r : Int32 => True)) (by decide) (by simp [lg_sl, Value.category]) ?_
  intro p e s m args below meth c ls hx hb hml hr hlk hown ht hK hP hS hl
  have hl : lv_has ls 4 [(0, .ref h), (1, .int a1)] := hl
  refine lv_aload_n hx hb dX11_guess_0 rfl (lv_at hl 0 rfl) ?_
  refine lv_iload_n hx hb dX11_guess_1 rfl (lv_at hl 1 rfl) ?_
  refine behR (runVP (As := [.int a1]) (rest := []) ⟨hx, hb, hml, hown, ht⟩ (sX11_isMan l G cs h q F A D B hI a1 ) okV_RX11_230 ⟨by decide, by decide⟩ hK hP [0, 1, 2, 3, 4, 5, 6, 7, 8, 9, 10, 11, 12, 13, 14, 15, 16, 17, 18, 19] rfl 0 rfl rfl hl.1 rfl (Nat.le_of_ble_eq_true rfl) dX11_guess_2 ⟨by decide, by decide⟩) hP hS (fun _ h => h) (fun r1 H locs hr1 hP hS => ?_)
  have hr1 : (r1.toInt = 1 ∧ 0 ≤ a1.toInt ∧ a1.toInt < (A 1 5).toInt ∧ a1.toInt ≤ 5 ∧ (A 1 5).toInt ≤ 6) ∨ r1.toInt = 0 := hr1
  refine lv_if_ne (tgt := 11) hx hb dX11_guess_5 (by decide) (fun c2 => ?_) (fun c2 => ?_)
  · have zc2 := neK rfl (show (0 : Int32).toInt = 0 by decide) c2
    refine lv_aload_n hx hb dX11_guess_11 rfl (lv_at hl 0 rfl) ?_
    refine lv_iload_n hx hb dX11_guess_12 rfl (lv_at hl 1 rfl) ?_
    refine behRL (runVP (As := [.int a1]) (rest := []) ⟨hx, hb, hml, hown, ht⟩ (sX11_allRead l G cs h q F A D B hI a1 (by omega)) okV_RX11_403 ⟨by decide, by decide⟩ hK hP [0, 1, 2, 3, 4, 5, 6, 7, 8, 9, 10, 11, 12, 13, 14, 15, 16, 17, 18, 19] rfl 0 rfl rfl hl.1 rfl (Nat.le_of_ble_eq_true rfl) dX11_guess_13 ⟨by decide, by decide⟩) hP hS (fun _ h => h) (fun r3 H locs hr3 hP hS => ?_)
    have hr3 : r3.toInt = AR (A 1) a1.toNatClampNeg ((A 1) 5).toNatClampNeg := hr3
    refine lv_lconst (v := 0) hx hb dX11_guess_16 (by decide) ?_
    refine W.lcmp hx hb dX11_guess_17 ?_
    refine lv_topi (fun v4 ev4 => ?_)
    refine lv_if_ne (tgt := 23) hx hb dX11_guess_18 (by decide) (fun c5 => ?_) (fun c5 => ?_)
    · have zc5 := neK rfl (show (0 : Int32).toInt = 0 by decide) c5
      have yc5 := cmpEQn rfl (show (0 : Int64).toInt = 0 by decide) ev4 (by omega)
      refine lv_iconst (v := 0) hx hb dX11_guess_23 (by decide) ?_
      refine lv_istore_n (lv' := [(2, .int 0), (0, .ref h), (1, .int a1)]) hx hb dX11_guess_24 rfl hl (by decide) rfl (fun ls hl => ?_)
      refine lv_iconst (v := 1) hx hb dX11_guess_25 (by decide) ?_
      refine lv_istore_n (lv' := [(3, .int 1), (2, .int 0), (0, .ref h), (1, .int a1)]) hx hb dX11_guess_26 rfl hl (by decide) rfl (fun ls hl => ?_)
      have B27 : ∀ (n : Nat) (x27_2 : Int32) (x27_3 : Int32) (H : Heap) (locs : List Loc) (ls : Array Slot), (6 - x27_3.toInt).toNat < n → (0 : Int) ≤ x27_2.toInt ∧ x27_2.toInt ≤ 5 → (1 : Int) ≤ x27_3.toInt ∧ x27_3.toInt ≤ 6 → va_P G vwCl (mS cs h q F A D B) H → va_S (fun q => s.heap.size ≤ q) s.heap H locs → lv_has ls 4 [(0, .ref h), (1, .int a1), (2, .int x27_2), (3, .int x27_3)] → W p l e (rmk 4 0 0) s m args below meth c H locs 0 0 (MQ below (QRi (fun r : Int32 => True) s.heap.size) args s 0 0 (fun q => s.heap.size ≤ q)) (F0 m 27 ls []) := by
        intro n
        induction n with
        | zero => intro x27_2 x27_3 H locs ls hmeas hx27_2 hx27_3 hP hS hl; exact absurd hmeas (Nat.not_lt_zero _)
        | succ n ih27 =>
          intro x27_2 x27_3 H locs ls hmeas hx27_2 hx27_3 hP hS hl
          refine lv_iload_n hx hb dX11_guess_27 rfl (lv_at hl 3 rfl) ?_
          refine lv_aload_n hx hb dX11_guess_28 rfl (lv_at hl 0 rfl) ?_
          refine getF (v := .ref (q 1)) hx hb ht hown hK hP iTX11 0 1 rfl rfl (by decide) fl_RX11_9 rfl dX11_guess_29 ?_
          refine lv_iconst (v := 5) hx hb dX11_guess_32 (by decide) ?_
          refine va_iald hx hb hK.1 hP 1 0 rfl rfl (show ¬ (_ ∨ _) by decide) dX11_guess_33 ?_
          refine W.eq (g2 := F0 m 34 ls [.int (A 1 5), .int x27_3]) rfl ?_
          have zf19001 : (0 : Int) ≤ (A 1 5).toInt ∧ (A 1 5).toInt ≤ 6 := (hI.2 1 5)
          refine lv_icmp_ge (tgt := 65) hx hb dX11_guess_34 (by decide) (fun c19002 => ?_) (fun c19002 => ?_)
          · have zc19002 := leK rfl rfl c19002
            refine lv_iload_n hx hb dX11_guess_65 rfl (lv_at hl 2 rfl) ?_
            exact retRi hx hb hr hlk hS dX11_guess_66 (trivial)
          · have zc19002 := nleK rfl rfl c19002
            refine lv_aload_n hx hb dX11_guess_37 rfl (lv_at hl 0 rfl) ?_
            refine lv_iload_n hx hb dX11_guess_38 rfl (lv_at hl 3 rfl) ?_
            refine lv_iload_n hx hb dX11_guess_39 rfl (lv_at hl 1 rfl) ?_
            refine behRL (runVP (As := [.int x27_3, .int a1]) (rest := []) ⟨hx, hb, hml, hown, ht⟩ (sX11_likelyRead l G cs h q F A D B hI x27_3 a1 (by omega) (by omega)) okV_RX11_398 ⟨by decide, by decide⟩ hK hP [0, 1, 2, 3, 4, 5, 6, 7, 8, 9, 10, 11, 12, 13, 14, 15, 16, 17, 18, 19] rfl 0 rfl rfl hl.1 rfl (Nat.le_of_ble_eq_true rfl) dX11_guess_40 ⟨by decide, by decide⟩) hP hS (fun _ h => h) (fun r19003 H locs hr19003 hP hS => ?_)
            have hr19003 : r19003.toInt = LRp (A 1) x27_3.toNatClampNeg a1.toNatClampNeg ((A 1) 5).toNatClampNeg ∧ 0 ≤ r19003.toInt ∧ r19003.toInt ≤ 22092265964736 := hr19003
            refine lv_aload_n hx hb dX11_guess_43 rfl (lv_at hl 0 rfl) ?_
            refine lv_iload_n hx hb dX11_guess_44 rfl (lv_at hl 2 rfl) ?_
            refine lv_iload_n hx hb dX11_guess_45 rfl (lv_at hl 1 rfl) ?_
            refine behRL (runVP (As := [.int x27_2, .int a1]) (rest := [.long r19003]) ⟨hx, hb, hml, hown, ht⟩ (sX11_likelyRead l G cs h q F A D B hI x27_2 a1 (by omega) (by omega)) okV_RX11_398 ⟨by decide, by decide⟩ hK hP [0, 1, 2, 3, 4, 5, 6, 7, 8, 9, 10, 11, 12, 13, 14, 15, 16, 17, 18, 19] rfl 0 rfl rfl hl.1 rfl (Nat.le_of_ble_eq_true rfl) dX11_guess_46 ⟨by decide, by decide⟩) hP hS (fun _ h => h) (fun r19004 H locs hr19004 hP hS => ?_)
            have hr19004 : r19004.toInt = LRp (A 1) x27_2.toNatClampNeg a1.toNatClampNeg ((A 1) 5).toNatClampNeg ∧ 0 ≤ r19004.toInt ∧ r19004.toInt ≤ 22092265964736 := hr19004
            refine W.lcmp hx hb dX11_guess_49 ?_
            refine lv_topi (fun v19005 ev19005 => ?_)
            have B58 : ∀ (s58_0 : Int32) (H : Heap) (locs : List Loc) (ls : Array Slot), (0 : Int) ≤ s58_0.toInt ∧ s58_0.toInt ≤ 5 → va_P G vwCl (mS cs h q F A D B) H → va_S (fun q => s.heap.size ≤ q) s.heap H locs → lv_has ls 4 [(0, .ref h), (1, .int a1), (3, .int x27_3)] → W p l e (rmk 4 0 0) s m args below meth c H locs 0 0 (MQ below (QRi (fun r : Int32 => True) s.heap.size) args s 0 0 (fun q => s.heap.size ≤ q)) (F0 m 58 ls [.int s58_0]) := by
              intro s58_0 H locs ls hs58_0 hP hS hl
              refine lv_istore_n (lv' := [(2, .int s58_0), (0, .ref h), (1, .int a1), (3, .int x27_3)]) hx hb dX11_guess_58 rfl hl (by decide) rfl (fun ls hl => ?_)
              obtain ⟨v38001, ev38001⟩ : ∃ z : Int32, z = x27_3 + 1 := ⟨_, rfl⟩
              have tv38001 : v38001.toInt = x27_3.toInt + 1 := by rw [ev38001]; exact addT rfl (by decide) (by omega)
              refine lv_iinc (v := v38001) (lv' := [(3, .int v38001), (2, .int s58_0), (0, .ref h), (1, .int a1)]) hx hb dX11_guess_59 hl (k := 3) rfl (by rw [ev38001]; rfl) (by decide) rfl (fun ls hl => ?_)
              refine lv_goto (tgt := 27) hx hb dX11_guess_62 (by decide) ?_
              exact ih27 s58_0 v38001 H locs ls (by omega) (by omega) (by omega) hP hS (lv_sub hl [2, 3, 1, 0] rfl)
            refine lv_if_le (tgt := 57) hx hb dX11_guess_50 (by decide) (fun c19006 => ?_) (fun c19006 => ?_)
            · have zc19006 := leK rfl (show (0 : Int32).toInt = 0 by decide) c19006
              have yc19006 := cmpGTn rfl rfl ev19005 (by omega)
              refine lv_iload_n hx hb dX11_guess_57 rfl (lv_at hl 2 rfl) ?_
              exact B58 x27_2 H locs ls (by omega) hP hS (lv_sub hl [0, 1, 3] rfl)
            · have zc19006 := nleK rfl (show (0 : Int32).toInt = 0 by decide) c19006
              have yc19006 := cmpGT rfl rfl ev19005 (by omega)
              refine lv_iload_n hx hb dX11_guess_53 rfl (lv_at hl 3 rfl) ?_
              refine lv_goto (tgt := 58) hx hb dX11_guess_54 (by decide) ?_
              exact B58 x27_3 H locs ls (by omega) hP hS (lv_sub hl [0, 1, 3] rfl)
      exact B27 _ 0 1 H locs ls (Nat.lt_succ_self _) (by decide) (by decide) hP hS (lv_sub hl [2, 3, 1, 0] rfl)
    · have zc5 := eqK rfl (show (0 : Int32).toInt = 0 by decide) c5
      have yc5 := cmpEQ rfl (show (0 : Int64).toInt = 0 by decide) ev4 (by omega)
      refine lv_iconst (v := (-1)) hx hb dX11_guess_21 (by decide) ?_
      exact retRi hx hb hr hlk hS dX11_guess_22 (trivial)
  · have zc2 := eqK rfl (show (0 : Int32).toInt = 0 by decide) c2
    refine lv_bipush (v := (-2)) hx hb dX11_guess_8 (by decide) ?_
    exact retRi hx hb hr hlk hS dX11_guess_10 (trivial)

set_option maxRecDepth 100000 in
set_option maxHeartbeats 8000000 in
theorem sX11_right (l : Launch) (G : va_G) (cs : Nat → ClassId) (h : Nat) (q : Nat → Nat) (F : Nat → Int32) (A : Nat → Nat → Int32) (D : Int64) (B : Nat → Nat → Int64) (hI : IM F A) (a1 : Int32) (hWG : WG (A 1)) : SafeL l yX11_right cX11_right 8 (some .long) 3 G (TY cs) [.ref h, .int a1] (mS cs h q F A D B) (fun r : Int64 => True) := by
  refine mkP (Qc := QRl (fun r : Int64 => True)) (by decide) (by simp [lg_sl, Value.category]) ?_
  intro p e s m args below meth c ls hx hb hml hr hlk hown ht hK hP hS hl
  have hl : lv_has ls 8 [(0, .ref h), (1, .int a1)] := hl
  refine lv_aload_n hx hb dX11_right_0 rfl (lv_at hl 0 rfl) ?_
  refine getF (v := .ref (q 1)) hx hb ht hown hK hP iTX11 0 1 rfl rfl (by decide) fl_RX11_9 rfl dX11_right_1 ?_
  refine lv_iconst (v := 5) hx hb dX11_right_4 (by decide) ?_
  refine va_iald hx hb hK.1 hP 1 0 rfl rfl (show ¬ (_ ∨ _) by decide) dX11_right_5 ?_
  refine W.eq (g2 := F0 m 6 ls [.int (A 1 5)]) rfl ?_
  have zf1 : (0 : Int) ≤ (A 1 5).toInt ∧ (A 1 5).toInt ≤ 6 := (hI.2 1 5)
  refine lv_if_eq (tgt := 19) hx hb dX11_right_6 (by decide) (fun c2 => ?_) (fun c2 => ?_)
  · have zc2 := eqK rfl (show (0 : Int32).toInt = 0 by decide) c2
    refine lv_ldc2 hx hb hown (ht _ kl_RX11_401) dX11_right_19 ?_
    exact retRl hx hb hr hlk hS dX11_right_22 (trivial)
  · have zc2 := neK rfl (show (0 : Int32).toInt = 0 by decide) c2
    refine lv_iload_n hx hb dX11_right_9 rfl (lv_at hl 1 rfl) ?_
    refine lv_i2l hx hb dX11_right_10 rfl ?_
    have bb3 := i32b a1
    refine lv_topl (fun v4 ev4 => ?_)
    have tv4 : v4.toInt = a1.toInt := by rw [ev4]; exact Int32.toInt_toInt64 _
    refine lv_lconst (v := 0) hx hb dX11_right_11 (by decide) ?_
    refine lv_lconst (v := 1) hx hb dX11_right_12 (by decide) ?_
    refine behR (runSP (As := [.long v4, .long 0, .long 1]) (rest := []) ⟨hx, hb, hml, hown, ht⟩ (sX11_in l G cs v4 0 1 ) okS_RX11_79 ⟨by decide, by decide⟩ hK hP [] rfl hl.1 rfl (Nat.le_of_ble_eq_true rfl) dX11_right_13 ⟨by decide, by decide⟩) hP hS (fun _ h => h) (fun r5 H locs hr5 hP hS => ?_)
    have kk6 : (0 : Int64).toInt = 0 := by decide
    have kk7 : (1 : Int64).toInt = 1 := by decide
    have hr5 : (r5.toInt = 1 ∧ (0 : Int64).toInt ≤ v4.toInt ∧ v4.toInt ≤ (1 : Int64).toInt) ∨ (r5.toInt = 0 ∧ (v4.toInt < (0 : Int64).toInt ∨ (1 : Int64).toInt < v4.toInt)) := hr5
    refine lv_if_ne (tgt := 23) hx hb dX11_right_16 (by decide) (fun c8 => ?_) (fun c8 => ?_)
    · have zc8 := neK rfl (show (0 : Int32).toInt = 0 by decide) c8
      refine lv_lconst (v := 0) hx hb dX11_right_23 (by decide) ?_
      refine lv_lstore_n (lv' := [(2, .long 0), (0, .ref h), (1, .int a1)]) hx hb dX11_right_24 rfl hl (by decide) rfl (fun ls hl => ?_)
      refine lv_lconst (v := 0) hx hb dX11_right_25 (by decide) ?_
      refine lv_lstore (lv' := [(4, .long 0), (2, .long 0), (0, .ref h), (1, .int a1)]) hx hb dX11_right_26 hl (by decide) rfl (fun ls hl => ?_)
      refine lv_iconst (v := 0) hx hb dX11_right_28 (by decide) ?_
      refine lv_istore (lv' := [(6, .int 0), (4, .long 0), (2, .long 0), (0, .ref h), (1, .int a1)]) hx hb dX11_right_29 hl (by decide) rfl (fun ls hl => ?_)
      have B31 : ∀ (n : Nat) (x31_2 : Int64) (x31_4 : Int64) (x31_6 : Int32) (H : Heap) (locs : List Loc) (ls : Array Slot), (6 - x31_6.toInt).toNat < n → (0 : Int) ≤ x31_2.toInt ∧ x31_2.toInt ≤ 132553595788416 → (0 : Int) ≤ x31_4.toInt ∧ x31_4.toInt ≤ 927875170518912 → (0 : Int) ≤ x31_6.toInt ∧ x31_6.toInt ≤ 6 → ((1 ≤ x31_6.toInt → 1 ≤ x31_4.toInt) ∧ x31_2.toInt ≤ 22092265964736 * x31_6.toInt ∧ x31_4.toInt ≤ 132553595788416 * x31_6.toInt ∧ x31_6.toInt ≤ (A 1 5).toInt) → va_P G vwCl (mS cs h q F A D B) H → va_S (fun q => s.heap.size ≤ q) s.heap H locs → lv_has ls 8 [(0, .ref h), (1, .int a1), (2, .long x31_2), (4, .long x31_4), (6, .int x31_6)] → W p l e (rmk 3 0 0) s m args below meth c H locs 0 0 (MQ below (QRl (fun r : Int64 => True) s.heap.size) args s 0 0 (fun q => s.heap.size ≤ q)) (F0 m 31 ls []) := by
        intro n
        induction n with
        | zero => intro x31_2 x31_4 x31_6 H locs ls hmeas hx31_2 hx31_4 hx31_6 hou hP hS hl; exact absurd hmeas (Nat.not_lt_zero _)
        | succ n ih31 =>
          intro x31_2 x31_4 x31_6 H locs ls hmeas hx31_2 hx31_4 hx31_6 hou hP hS hl
          refine lv_iload hx hb dX11_right_31 (lv_at hl 4 rfl) ?_
          refine lv_aload_n hx hb dX11_right_33 rfl (lv_at hl 0 rfl) ?_
          refine getF (v := .ref (q 1)) hx hb ht hown hK hP iTX11 0 1 rfl rfl (by decide) fl_RX11_9 rfl dX11_right_34 ?_
          refine lv_iconst (v := 5) hx hb dX11_right_37 (by decide) ?_
          refine va_iald hx hb hK.1 hP 1 0 rfl rfl (show ¬ (_ ∨ _) by decide) dX11_right_38 ?_
          refine W.eq (g2 := F0 m 39 ls [.int (A 1 5), .int x31_6]) rfl ?_
          have zf18001 : (0 : Int) ≤ (A 1 5).toInt ∧ (A 1 5).toInt ≤ 6 := (hI.2 1 5)
          refine lv_icmp_ge (tgt := 92) hx hb dX11_right_39 (by decide) (fun c18002 => ?_) (fun c18002 => ?_)
          · have zc18002 := leK rfl rfl c18002
            refine lv_lload_n hx hb dX11_right_92 rfl (lv_at hl 2 rfl) ?_
            refine lv_lload hx hb dX11_right_93 (lv_at hl 3 rfl) ?_
            refine lv_iload_n hx hb dX11_right_95 rfl (lv_at hl 1 rfl) ?_
            refine behRL (runSP (As := [.long x31_2, .long x31_4, .int a1]) (rest := []) ⟨hx, hb, hml, hown, ht⟩ (sX11_part l G cs x31_2 x31_4 a1  (show ¬ (x31_2.toInt = 0 ∧ x31_4.toInt = 0) from (by omega))) okS_RX11_388 ⟨by decide, by decide⟩ hK hP [] rfl hl.1 rfl (Nat.le_of_ble_eq_true rfl) dX11_right_96 ⟨by decide, by decide⟩) hP hS (fun _ h => h) (fun r18003 H locs hr18003 hP hS => ?_)
            exact retRl hx hb hr hlk hS dX11_right_99 (trivial)
          · have zc18002 := nleK rfl rfl c18002
            refine lv_lload_n hx hb dX11_right_42 rfl (lv_at hl 2 rfl) ?_
            refine lv_aload_n hx hb dX11_right_43 rfl (lv_at hl 0 rfl) ?_
            refine lv_iload hx hb dX11_right_44 (lv_at hl 4 rfl) ?_
            refine lv_iload hx hb dX11_right_46 (lv_at hl 4 rfl) ?_
            refine behRL (runVP (As := [.int x31_6, .int x31_6]) (rest := [.long x31_2]) ⟨hx, hb, hml, hown, ht⟩ (sX11_likelyRead l G cs h q F A D B hI x31_6 x31_6 (by omega) (by omega)) okV_RX11_398 ⟨by decide, by decide⟩ hK hP [0, 1, 2, 3, 4, 5, 6, 7, 8, 9, 10, 11, 12, 13, 14, 15, 16, 17, 18, 19] rfl 0 rfl rfl hl.1 rfl (Nat.le_of_ble_eq_true rfl) dX11_right_48 ⟨by decide, by decide⟩) hP hS (fun _ h => h) (fun r18004 H locs hr18004 hP hS => ?_)
            have hr18004 : r18004.toInt = LRp (A 1) x31_6.toNatClampNeg x31_6.toNatClampNeg ((A 1) 5).toNatClampNeg ∧ 0 ≤ r18004.toInt ∧ r18004.toInt ≤ 22092265964736 := hr18004
            refine lv_ladd hx hb dX11_right_51 ?_
            refine lv_topl (fun v18005 ev18005 => ?_)
            have tv18005 : v18005.toInt = x31_2.toInt + r18004.toInt := by rw [ev18005]; exact addL rfl rfl (by omega)
            refine lv_lstore_n (lv' := [(2, .long v18005), (0, .ref h), (1, .int a1), (4, .long x31_4), (6, .int x31_6)]) hx hb dX11_right_52 rfl hl (by decide) rfl (fun ls hl => ?_)
            refine lv_iconst (v := 0) hx hb dX11_right_53 (by decide) ?_
            refine lv_istore (lv' := [(7, .int 0), (2, .long v18005), (0, .ref h), (1, .int a1), (4, .long x31_4), (6, .int x31_6)]) hx hb dX11_right_54 hl (by decide) rfl (fun ls hl => ?_)
            have B56 : ∀ (n : Nat) (x56_4 : Int64) (x56_7 : Int32) (H : Heap) (locs : List Loc) (ls : Array Slot), (6 - x56_7.toInt).toNat < n → (0 : Int) ≤ x56_4.toInt ∧ x56_4.toInt ≤ 927875170518912 → (0 : Int) ≤ x56_7.toInt ∧ x56_7.toInt ≤ 6 → ((1 ≤ x56_4.toInt ∨ ZR (A 1) x31_6.toNatClampNeg x56_7.toInt) ∧ x56_4.toInt ≤ 22092265964736 * (6 * x31_6.toInt + x56_7.toInt) ∧ x56_7.toInt ≤ (A 1 5).toInt) → va_P G vwCl (mS cs h q F A D B) H → va_S (fun q => s.heap.size ≤ q) s.heap H locs → lv_has ls 8 [(0, .ref h), (1, .int a1), (2, .long v18005), (4, .long x56_4), (6, .int x31_6), (7, .int x56_7)] → W p l e (rmk 3 0 0) s m args below meth c H locs 0 0 (MQ below (QRl (fun r : Int64 => True) s.heap.size) args s 0 0 (fun q => s.heap.size ≤ q)) (F0 m 56 ls []) := by
              intro n
              induction n with
              | zero => intro x56_4 x56_7 H locs ls hmeas hx56_4 hx56_7 hin hP hS hl; exact absurd hmeas (Nat.not_lt_zero _)
              | succ n ih56 =>
                intro x56_4 x56_7 H locs ls hmeas hx56_4 hx56_7 hin hP hS hl
                refine lv_iload hx hb dX11_right_56 (lv_at hl 5 rfl) ?_
                refine lv_aload_n hx hb dX11_right_58 rfl (lv_at hl 0 rfl) ?_
                refine getF (v := .ref (q 1)) hx hb ht hown hK hP iTX11 0 1 rfl rfl (by decide) fl_RX11_9 rfl dX11_right_59 ?_
                refine lv_iconst (v := 5) hx hb dX11_right_62 (by decide) ?_
                refine va_iald hx hb hK.1 hP 1 0 rfl rfl (show ¬ (_ ∨ _) by decide) dX11_right_63 ?_
                refine W.eq (g2 := F0 m 64 ls [.int (A 1 5), .int x56_7]) rfl ?_
                have zf33001 : (0 : Int) ≤ (A 1 5).toInt ∧ (A 1 5).toInt ≤ 6 := (hI.2 1 5)
                refine lv_icmp_ge (tgt := 86) hx hb dX11_right_64 (by decide) (fun c33002 => ?_) (fun c33002 => ?_)
                · have zc33002 := leK rfl rfl c33002
                  have hb9 : 1 ≤ x56_4.toInt := hin.1.resolve_right (ZRx (fun j => hI.2 1 j) (by have y1 := clK (i := x31_6) rfl (by omega); omega) (by omega))
                  obtain ⟨v33003, ev33003⟩ : ∃ z : Int32, z = x31_6 + 1 := ⟨_, rfl⟩
                  have tv33003 : v33003.toInt = x31_6.toInt + 1 := by rw [ev33003]; exact addT rfl (by decide) (by omega)
                  refine lv_iinc (v := v33003) (lv' := [(6, .int v33003), (0, .ref h), (1, .int a1), (2, .long v18005), (4, .long x56_4), (7, .int x56_7)]) hx hb dX11_right_86 hl (k := 4) rfl (by rw [ev33003]; rfl) (by decide) rfl (fun ls hl => ?_)
                  refine lv_goto (tgt := 31) hx hb dX11_right_89 (by decide) ?_
                  exact ih31 v18005 x56_4 v33003 H locs ls (by omega) (by omega) (by omega) (by omega) ⟨fun _ => hb9, by omega, by omega, by omega⟩ hP hS (lv_sub hl [1, 2, 3, 4, 0] rfl)
                · have zc33002 := nleK rfl rfl c33002
                  refine lv_lload hx hb dX11_right_67 (lv_at hl 3 rfl) ?_
                  refine lv_aload_n hx hb dX11_right_69 rfl (lv_at hl 0 rfl) ?_
                  refine lv_iload hx hb dX11_right_70 (lv_at hl 4 rfl) ?_
                  refine lv_iload hx hb dX11_right_72 (lv_at hl 5 rfl) ?_
                  refine behRL (runVP (As := [.int x31_6, .int x56_7]) (rest := [.long x56_4]) ⟨hx, hb, hml, hown, ht⟩ (sX11_likelyRead l G cs h q F A D B hI x31_6 x56_7 (by omega) (by omega)) okV_RX11_398 ⟨by decide, by decide⟩ hK hP [0, 1, 2, 3, 4, 5, 6, 7, 8, 9, 10, 11, 12, 13, 14, 15, 16, 17, 18, 19] rfl 0 rfl rfl hl.1 rfl (Nat.le_of_ble_eq_true rfl) dX11_right_74 ⟨by decide, by decide⟩) hP hS (fun _ h => h) (fun r33004 H locs hr33004 hP hS => ?_)
                  have hr33004 : r33004.toInt = LRp (A 1) x31_6.toNatClampNeg x56_7.toNatClampNeg ((A 1) 5).toNatClampNeg ∧ 0 ≤ r33004.toInt ∧ r33004.toInt ≤ 22092265964736 := hr33004
                  refine lv_ladd hx hb dX11_right_77 ?_
                  refine lv_topl (fun v33005 ev33005 => ?_)
                  have tv33005 : v33005.toInt = x56_4.toInt + r33004.toInt := by rw [ev33005]; exact addL rfl rfl (by omega)
                  refine lv_lstore (lv' := [(4, .long v33005), (0, .ref h), (1, .int a1), (2, .long v18005), (6, .int x31_6), (7, .int x56_7)]) hx hb dX11_right_78 hl (by decide) rfl (fun ls hl => ?_)
                  obtain ⟨v33006, ev33006⟩ : ∃ z : Int32, z = x56_7 + 1 := ⟨_, rfl⟩
                  have tv33006 : v33006.toInt = x56_7.toInt + 1 := by rw [ev33006]; exact addT rfl (by decide) (by omega)
                  refine lv_iinc (v := v33006) (lv' := [(7, .int v33006), (4, .long v33005), (0, .ref h), (1, .int a1), (2, .long v18005), (6, .int x31_6)]) hx hb dX11_right_80 hl (k := 5) rfl (by rw [ev33006]; rfl) (by decide) rfl (fun ls hl => ?_)
                  refine lv_goto (tgt := 56) hx hb dX11_right_83 (by decide) ?_
                  exact ih56 v33005 v33006 H locs ls (by omega) (by omega) (by omega) ⟨ZRs (fun j => hI.2 1 j) (hWG x31_6.toNatClampNeg (by have y1 := clK (i := x31_6) rfl (by omega); omega)) (by have y1 := clK (i := x31_6) rfl (by omega); omega) hin.1 (by omega) hr33004.1 (by omega) tv33006 tv33005, by omega, by omega⟩ hP hS (lv_sub hl [2, 3, 4, 1, 5, 0] rfl)
            exact B56 _ x31_4 0 H locs ls (Nat.lt_succ_self _) (by omega) (by decide) ⟨Or.inr (fun j hj => absurd hj (by have k0 : (0 : Int32).toInt = 0 := (by decide); omega)), by have k0 : (0 : Int32).toInt = 0 := (by decide); omega, (hI.2 1 5).1⟩ hP hS (lv_sub hl [2, 3, 1, 4, 5, 0] rfl)
      exact B31 _ 0 0 0 H locs ls (Nat.lt_succ_self _) (by decide) (by decide) (by decide) ⟨fun q9 => absurd q9 (by decide), by decide, by decide, (hI.2 1 5).1⟩ hP hS (lv_sub hl [3, 4, 2, 1, 0] rfl)
    · have zc8 := eqK rfl (show (0 : Int32).toInt = 0 by decide) c8
      refine lv_ldc2 hx hb hown (ht _ kl_RX11_401) dX11_right_19 ?_
      exact retRl hx hb hr hlk hS dX11_right_22 (trivial)

set_option maxRecDepth 100000 in
set_option maxHeartbeats 8000000 in
theorem sX11_oftenest (l : Launch) (G : va_G) (cs : Nat → ClassId) (h : Nat) (q : Nat → Nat) (F : Nat → Int32) (A : Nat → Nat → Int32) (D : Int64) (B : Nat → Nat → Int64) (hI : IM F A) (a1 : Int32) (a2 : Int32) (ha1 : (0 : Int) ≤ a1.toInt ∧ a1.toInt ≤ 3) : SafeR l yX11_oftenest cX11_oftenest 8 (some .int) 2 G (TY cs) [.ref h, .int a1, .int a2] (mS cs h q F A D B) (fun r : Int32 => True) := by
  refine mkP (Qc := QRi (fun r : Int32 => True)) (by decide) (by simp [lg_sl, Value.category]) ?_
  intro p e s m args below meth c ls hx hb hml hr hlk hown ht hK hP hS hl
  have hl : lv_has ls 8 [(0, .ref h), (1, .int a1), (2, .int a2)] := hl
  refine lv_iconst (v := (-1)) hx hb dX11_oftenest_0 (by decide) ?_
  refine lv_istore_n (lv' := [(3, .int (-1)), (0, .ref h), (1, .int a1), (2, .int a2)]) hx hb dX11_oftenest_1 rfl hl (by decide) rfl (fun ls hl => ?_)
  refine lv_iconst (v := 0) hx hb dX11_oftenest_2 (by decide) ?_
  refine lv_istore (lv' := [(4, .int 0), (3, .int (-1)), (0, .ref h), (1, .int a1), (2, .int a2)]) hx hb dX11_oftenest_3 hl (by decide) rfl (fun ls hl => ?_)
  refine lv_iconst (v := 0) hx hb dX11_oftenest_5 (by decide) ?_
  refine lv_istore (lv' := [(5, .int 0), (4, .int 0), (3, .int (-1)), (0, .ref h), (1, .int a1), (2, .int a2)]) hx hb dX11_oftenest_6 hl (by decide) rfl (fun ls hl => ?_)
  have B8 : ∀ (n : Nat) (x8_3 : Int32) (x8_4 : Int32) (x8_5 : Int32) (H : Heap) (locs : List Loc) (ls : Array Slot), (7 - x8_5.toInt).toNat < n → (-1 : Int) ≤ x8_3.toInt ∧ x8_3.toInt ≤ 6 → (0 : Int) ≤ x8_4.toInt → (0 : Int) ≤ x8_5.toInt ∧ x8_5.toInt ≤ 7 → va_P G vwCl (mS cs h q F A D B) H → va_S (fun q => s.heap.size ≤ q) s.heap H locs → lv_has ls 8 [(0, .ref h), (1, .int a1), (2, .int a2), (3, .int x8_3), (4, .int x8_4), (5, .int x8_5)] → W p l e (rmk 2 0 0) s m args below meth c H locs 0 0 (MQ below (QRi (fun r : Int32 => True) s.heap.size) args s 0 0 (fun q => s.heap.size ≤ q)) (F0 m 8 ls []) := by
    intro n
    induction n with
    | zero => intro x8_3 x8_4 x8_5 H locs ls hmeas hx8_3 hx8_4 hx8_5 hP hS hl; exact absurd hmeas (Nat.not_lt_zero _)
    | succ n ih8 =>
      intro x8_3 x8_4 x8_5 H locs ls hmeas hx8_3 hx8_4 hx8_5 hP hS hl
      refine lv_iload hx hb dX11_oftenest_8 (lv_at hl 5 rfl) ?_
      refine lv_aload_n hx hb dX11_oftenest_10 rfl (lv_at hl 0 rfl) ?_
      refine getF (v := .ref (q 1)) hx hb ht hown hK hP iTX11 0 1 rfl rfl (by decide) fl_RX11_9 rfl dX11_oftenest_11 ?_
      refine lv_iconst (v := 4) hx hb dX11_oftenest_14 (by decide) ?_
      refine va_iald hx hb hK.1 hP 1 0 rfl rfl (show ¬ (_ ∨ _) by decide) dX11_oftenest_15 ?_
      refine W.eq (g2 := F0 m 16 ls [.int (A 1 4), .int x8_5]) rfl ?_
      have zf7001 : (0 : Int) ≤ (A 1 4).toInt ∧ (A 1 4).toInt ≤ 7 := (hI.2 1 4)
      refine lv_icmp_ge (tgt := 114) hx hb dX11_oftenest_16 (by decide) (fun c7002 => ?_) (fun c7002 => ?_)
      · have zc7002 := leK rfl rfl c7002
        refine lv_iload_n hx hb dX11_oftenest_114 rfl (lv_at hl 3 rfl) ?_
        exact retRi hx hb hr hlk hS dX11_oftenest_115 (trivial)
      · have zc7002 := nleK rfl rfl c7002
        refine lv_iconst (v := 0) hx hb dX11_oftenest_19 (by decide) ?_
        refine lv_istore (lv' := [(6, .int 0), (0, .ref h), (1, .int a1), (2, .int a2), (3, .int x8_3), (4, .int x8_4), (5, .int x8_5)]) hx hb dX11_oftenest_20 hl (by decide) rfl (fun ls hl => ?_)
        refine lv_iload_n hx hb dX11_oftenest_22 rfl (lv_at hl 3 rfl) ?_
        refine lv_iconst (v := (-1)) hx hb dX11_oftenest_23 (by decide) ?_
        have B32 : ∀ (s32_0 : Int32) (H : Heap) (locs : List Loc) (ls : Array Slot), (0 : Int) ≤ s32_0.toInt ∧ s32_0.toInt ≤ 1 → (¬ a2.toInt = -1 → 1 ≤ s32_0.toInt) → va_P G vwCl (mS cs h q F A D B) H → va_S (fun q => s.heap.size ≤ q) s.heap H locs → lv_has ls 8 [(0, .ref h), (1, .int a1), (2, .int a2), (3, .int x8_3), (4, .int x8_4), (5, .int x8_5), (6, .int 0)] → W p l e (rmk 2 0 0) s m args below meth c H locs 0 0 (MQ below (QRi (fun r : Int32 => True) s.heap.size) args s 0 0 (fun q => s.heap.size ≤ q)) (F0 m 32 ls [.int s32_0]) := by
          intro s32_0 H locs ls hs32_0 hi0 hP hS hl
          refine lv_istore (lv' := [(7, .int s32_0), (0, .ref h), (1, .int a1), (2, .int a2), (3, .int x8_3), (4, .int x8_4), (5, .int x8_5), (6, .int 0)]) hx hb dX11_oftenest_32 hl (by decide) rfl (fun ls hl => ?_)
          have B34 : ∀ (n : Nat) (x34_6 : Int32) (x34_7 : Int32) (H : Heap) (locs : List Loc) (ls : Array Slot), (60 - x34_7.toInt).toNat < n → (0 : Int) ≤ x34_7.toInt ∧ x34_7.toInt ≤ 60 → (¬ a2.toInt = -1 → 1 ≤ x34_7.toInt) → va_P G vwCl (mS cs h q F A D B) H → va_S (fun q => s.heap.size ≤ q) s.heap H locs → lv_has ls 8 [(0, .ref h), (1, .int a1), (2, .int a2), (3, .int x8_3), (4, .int x8_4), (5, .int x8_5), (6, .int x34_6), (7, .int x34_7)] → W p l e (rmk 2 0 0) s m args below meth c H locs 0 0 (MQ below (QRi (fun r : Int32 => True) s.heap.size) args s 0 0 (fun q => s.heap.size ≤ q)) (F0 m 34 ls []) := by
            intro n
            induction n with
            | zero => intro x34_6 x34_7 H locs ls hmeas hx34_7 hi1 hP hS hl; exact absurd hmeas (Nat.not_lt_zero _)
            | succ n ih34 =>
              intro x34_6 x34_7 H locs ls hmeas hx34_7 hi1 hP hS hl
              refine lv_iload hx hb dX11_oftenest_34 (lv_at hl 7 rfl) ?_
              refine lv_aload_n hx hb dX11_oftenest_36 rfl (lv_at hl 0 rfl) ?_
              refine getF (v := .ref (q 31)) hx hb ht hown hK hP iTX11 0 31 rfl rfl (by decide) fl_RX11_61 rfl dX11_oftenest_37 ?_
              refine lv_iload_n hx hb dX11_oftenest_40 rfl (lv_at hl 1 rfl) ?_
              refine va_iald hx hb hK.1 hP 16 0 rfl rfl (inK rfl (by omega) (by decide)) dX11_oftenest_41 ?_
              refine lv_topi (fun v22001 ev22001 => ?_)
              have zf22002 : (-1 : Int) ≤ v22001.toInt ∧ v22001.toInt ≤ 60 := by rw [ev22001]; exact (hI.2 31 _)
              have nv22001 : v22001.toInt = (A 31 a1.toNatClampNeg).toInt := congrArg Int32.toInt ev22001
              refine lv_icmp_ge (tgt := 91) hx hb dX11_oftenest_42 (by decide) (fun c22003 => ?_) (fun c22003 => ?_)
              · have zc22003 := leK rfl rfl c22003
                refine lv_iload hx hb dX11_oftenest_91 (lv_at hl 6 rfl) ?_
                refine lv_iload hx hb dX11_oftenest_93 (lv_at hl 4 rfl) ?_
                have B108 : ∀ (x108_3 : Int32) (x108_4 : Int32) (H : Heap) (locs : List Loc) (ls : Array Slot), (-1 : Int) ≤ x108_3.toInt ∧ x108_3.toInt ≤ 6 → (0 : Int) ≤ x108_4.toInt → va_P G vwCl (mS cs h q F A D B) H → va_S (fun q => s.heap.size ≤ q) s.heap H locs → lv_has ls 8 [(0, .ref h), (1, .int a1), (2, .int a2), (3, .int x108_3), (4, .int x108_4), (5, .int x8_5)] → W p l e (rmk 2 0 0) s m args below meth c H locs 0 0 (MQ below (QRi (fun r : Int32 => True) s.heap.size) args s 0 0 (fun q => s.heap.size ≤ q)) (F0 m 108 ls []) := by
                  intro x108_3 x108_4 H locs ls hx108_3 hx108_4 hP hS hl
                  obtain ⟨v61001, ev61001⟩ : ∃ z : Int32, z = x8_5 + 1 := ⟨_, rfl⟩
                  have tv61001 : v61001.toInt = x8_5.toInt + 1 := by rw [ev61001]; exact addT rfl (by decide) (by omega)
                  refine lv_iinc (v := v61001) (lv' := [(5, .int v61001), (0, .ref h), (1, .int a1), (2, .int a2), (3, .int x108_3), (4, .int x108_4)]) hx hb dX11_oftenest_108 hl (k := 5) rfl (by rw [ev61001]; rfl) (by decide) rfl (fun ls hl => ?_)
                  refine lv_goto (tgt := 8) hx hb dX11_oftenest_111 (by decide) ?_
                  exact ih8 x108_3 x108_4 v61001 H locs ls (by omega) (by omega) (by omega) (by omega) hP hS (lv_sub hl [1, 2, 3, 4, 5, 0] rfl)
                refine lv_icmp_gt (tgt := 101) hx hb dX11_oftenest_95 (by decide) (fun c22004 => ?_) (fun c22004 => ?_)
                · have zc22004 := ltK rfl rfl c22004
                  refine lv_iload hx hb dX11_oftenest_101 (lv_at hl 6 rfl) ?_
                  refine lv_istore (lv' := [(4, .int x34_6), (0, .ref h), (1, .int a1), (2, .int a2), (3, .int x8_3), (5, .int x8_5), (6, .int x34_6), (7, .int x34_7)]) hx hb dX11_oftenest_103 hl (by decide) rfl (fun ls hl => ?_)
                  refine lv_iload hx hb dX11_oftenest_105 (lv_at hl 5 rfl) ?_
                  refine lv_istore_n (lv' := [(3, .int x8_5), (4, .int x34_6), (0, .ref h), (1, .int a1), (2, .int a2), (5, .int x8_5), (6, .int x34_6), (7, .int x34_7)]) hx hb dX11_oftenest_107 rfl hl (by decide) rfl (fun ls hl => ?_)
                  exact B108 x8_5 x34_6 H locs ls (by omega) (by omega) hP hS (lv_sub hl [2, 3, 4, 0, 1, 5] rfl)
                · have zc22004 := nltK rfl rfl c22004
                  refine lv_goto (tgt := 108) hx hb dX11_oftenest_98 (by decide) ?_
                  exact B108 x8_3 x8_4 H locs ls (by omega) (by omega) hP hS (lv_sub hl [0, 1, 2, 3, 4, 5] rfl)
              · have zc22003 := nleK rfl rfl c22003
                refine lv_iload hx hb dX11_oftenest_45 (lv_at hl 6 rfl) ?_
                refine lv_aload_n hx hb dX11_oftenest_47 rfl (lv_at hl 0 rfl) ?_
                refine lv_iload_n hx hb dX11_oftenest_48 rfl (lv_at hl 1 rfl) ?_
                refine lv_iload hx hb dX11_oftenest_49 (lv_at hl 7 rfl) ?_
                refine behR (runVP (As := [.int a1, .int x34_7]) (rest := [.int x34_6]) ⟨hx, hb, hml, hown, ht⟩ (sX11_roomAt l G cs h q F A D B hI a1 x34_7 (by omega) (by omega)) okV_RX11_293 ⟨by decide, by decide⟩ hK hP [0, 1, 2, 3, 4, 5, 6, 7, 8, 9, 10, 11, 12, 13, 14, 15, 16, 17, 18, 19] rfl 0 rfl rfl hl.1 rfl (Nat.le_of_ble_eq_true rfl) dX11_oftenest_51 ⟨by decide, by decide⟩) hP hS (fun _ h => h) (fun r22005 H locs hr22005 hP hS => ?_)
                have hr22005 : r22005 = (B 33 (60 * a1.toNatClampNeg + x34_7.toNatClampNeg)).toInt32 := hr22005
                refine lv_iload hx hb dX11_oftenest_54 (lv_at hl 5 rfl) ?_
                have B82 : ∀ (s82_0 : Int32) (s82_1 : Int32) (H : Heap) (locs : List Loc) (ls : Array Slot), (0 : Int) ≤ s82_0.toInt ∧ s82_0.toInt ≤ 1 → va_P G vwCl (mS cs h q F A D B) H → va_S (fun q => s.heap.size ≤ q) s.heap H locs → lv_has ls 8 [(0, .ref h), (1, .int a1), (2, .int a2), (3, .int x8_3), (4, .int x8_4), (5, .int x8_5), (7, .int x34_7)] → W p l e (rmk 2 0 0) s m args below meth c H locs 0 0 (MQ below (QRi (fun r : Int32 => True) s.heap.size) args s 0 0 (fun q => s.heap.size ≤ q)) (F0 m 82 ls [.int s82_0, .int s82_1]) := by
                  intro s82_0 s82_1 H locs ls hs82_0 hP hS hl
                  refine lv_iadd hx hb dX11_oftenest_82 ?_
                  refine lv_topi (fun v49001 ev49001 => ?_)
                  refine lv_istore (lv' := [(6, .int v49001), (0, .ref h), (1, .int a1), (2, .int a2), (3, .int x8_3), (4, .int x8_4), (5, .int x8_5), (7, .int x34_7)]) hx hb dX11_oftenest_83 hl (by decide) rfl (fun ls hl => ?_)
                  obtain ⟨v49002, ev49002⟩ : ∃ z : Int32, z = x34_7 + 1 := ⟨_, rfl⟩
                  have tv49002 : v49002.toInt = x34_7.toInt + 1 := by rw [ev49002]; exact addT rfl (by decide) (by omega)
                  refine lv_iinc (v := v49002) (lv' := [(7, .int v49002), (6, .int v49001), (0, .ref h), (1, .int a1), (2, .int a2), (3, .int x8_3), (4, .int x8_4), (5, .int x8_5)]) hx hb dX11_oftenest_85 hl (k := 7) rfl (by rw [ev49002]; rfl) (by decide) rfl (fun ls hl => ?_)
                  refine lv_goto (tgt := 34) hx hb dX11_oftenest_88 (by decide) ?_
                  exact ih34 v49001 v49002 H locs ls (by omega) (by omega) (by have k0 : (0 : Int32).toInt = 0 := (by decide); have k1 : (1 : Int32).toInt = 1 := (by decide); omega) hP hS (lv_sub hl [2, 3, 4, 5, 6, 7, 1, 0] rfl)
                have B81 : ∀ (s81_0 : Int32) (H : Heap) (locs : List Loc) (ls : Array Slot), va_P G vwCl (mS cs h q F A D B) H → va_S (fun q => s.heap.size ≤ q) s.heap H locs → lv_has ls 8 [(0, .ref h), (1, .int a1), (2, .int a2), (3, .int x8_3), (4, .int x8_4), (5, .int x8_5), (7, .int x34_7)] → W p l e (rmk 2 0 0) s m args below meth c H locs 0 0 (MQ below (QRi (fun r : Int32 => True) s.heap.size) args s 0 0 (fun q => s.heap.size ≤ q)) (F0 m 81 ls [.int s81_0]) := by
                  intro s81_0 H locs ls hP hS hl
                  refine lv_iconst (v := 0) hx hb dX11_oftenest_81 (by decide) ?_
                  exact B82 0 s81_0 H locs ls (by decide) hP hS (lv_sub hl [0, 1, 2, 3, 4, 5, 6] rfl)
                refine lv_icmp_ne (tgt := 81) hx hb dX11_oftenest_56 (by decide) (fun c22006 => ?_) (fun c22006 => ?_)
                · have zc22006 := neK rfl rfl c22006
                  exact B81 x34_6 H locs ls hP hS (lv_sub hl [0, 1, 2, 3, 4, 5, 7] rfl)
                · have zc22006 := eqK rfl rfl c22006
                  refine lv_iload_n hx hb dX11_oftenest_59 rfl (lv_at hl 2 rfl) ?_
                  refine lv_iconst (v := (-1)) hx hb dX11_oftenest_60 (by decide) ?_
                  have B77 : ∀ (s77_0 : Int32) (H : Heap) (locs : List Loc) (ls : Array Slot), va_P G vwCl (mS cs h q F A D B) H → va_S (fun q => s.heap.size ≤ q) s.heap H locs → lv_has ls 8 [(0, .ref h), (1, .int a1), (2, .int a2), (3, .int x8_3), (4, .int x8_4), (5, .int x8_5), (7, .int x34_7)] → W p l e (rmk 2 0 0) s m args below meth c H locs 0 0 (MQ below (QRi (fun r : Int32 => True) s.heap.size) args s 0 0 (fun q => s.heap.size ≤ q)) (F0 m 77 ls [.int s77_0]) := by
                    intro s77_0 H locs ls hP hS hl
                    refine lv_iconst (v := 1) hx hb dX11_oftenest_77 (by decide) ?_
                    refine lv_goto (tgt := 82) hx hb dX11_oftenest_78 (by decide) ?_
                    exact B82 1 s77_0 H locs ls (by decide) hP hS (lv_sub hl [0, 1, 2, 3, 4, 5, 6] rfl)
                  refine lv_icmp_eq (tgt := 77) hx hb dX11_oftenest_61 (by decide) (fun c22007 => ?_) (fun c22007 => ?_)
                  · have zc22007 := eqK rfl (show (-1 : Int32).toInt = (-1) by decide) c22007
                    exact B77 x34_6 H locs ls hP hS (lv_sub hl [0, 1, 2, 3, 4, 5, 7] rfl)
                  · have zc22007 := neK rfl (show (-1 : Int32).toInt = (-1) by decide) c22007
                    refine lv_aload_n hx hb dX11_oftenest_64 rfl (lv_at hl 0 rfl) ?_
                    refine lv_iload_n hx hb dX11_oftenest_65 rfl (lv_at hl 1 rfl) ?_
                    refine lv_iload hx hb dX11_oftenest_66 (lv_at hl 7 rfl) ?_
                    refine lv_iconst (v := 1) hx hb dX11_oftenest_68 (by decide) ?_
                    refine lv_isub hx hb dX11_oftenest_69 ?_
                    refine lv_topi (fun v22008 ev22008 => ?_)
                    have tv22008 : v22008.toInt = x34_7.toInt - 1 := by rw [ev22008]; exact subT rfl (show (1 : Int32).toInt = 1 by decide) (by omega)
                    refine behR (runVP (As := [.int a1, .int v22008]) (rest := [.int x34_6]) ⟨hx, hb, hml, hown, ht⟩ (sX11_roomAt l G cs h q F A D B hI a1 v22008 (by omega) (by omega)) okV_RX11_293 ⟨by decide, by decide⟩ hK hP [0, 1, 2, 3, 4, 5, 6, 7, 8, 9, 10, 11, 12, 13, 14, 15, 16, 17, 18, 19] rfl 0 rfl rfl hl.1 rfl (Nat.le_of_ble_eq_true rfl) dX11_oftenest_70 ⟨by decide, by decide⟩) hP hS (fun _ h => h) (fun r22009 H locs hr22009 hP hS => ?_)
                    have hr22009 : r22009 = (B 33 (60 * a1.toNatClampNeg + v22008.toNatClampNeg)).toInt32 := hr22009
                    refine lv_iload_n hx hb dX11_oftenest_73 rfl (lv_at hl 2 rfl) ?_
                    refine lv_icmp_ne (tgt := 81) hx hb dX11_oftenest_74 (by decide) (fun c22010 => ?_) (fun c22010 => ?_)
                    · have zc22010 := neK rfl rfl c22010
                      exact B81 x34_6 H locs ls hP hS (lv_sub hl [0, 1, 2, 3, 4, 5, 7] rfl)
                    · have zc22010 := eqK rfl rfl c22010
                      exact B77 x34_6 H locs ls hP hS (lv_sub hl [0, 1, 2, 3, 4, 5, 7] rfl)
          exact B34 _ 0 s32_0 H locs ls (Nat.lt_succ_self _) (by omega) (by have k0 : (0 : Int32).toInt = 0 := (by decide); have k1 : (1 : Int32).toInt = 1 := (by decide); omega) hP hS (lv_sub hl [1, 2, 3, 4, 5, 6, 7, 0] rfl)
        refine lv_icmp_ne (tgt := 31) hx hb dX11_oftenest_24 (by decide) (fun c7003 => ?_) (fun c7003 => ?_)
        · have zc7003 := neK rfl (show (-1 : Int32).toInt = (-1) by decide) c7003
          refine lv_iconst (v := 1) hx hb dX11_oftenest_31 (by decide) ?_
          exact B32 1 H locs ls (by decide) (by have k0 : (0 : Int32).toInt = 0 := (by decide); have k1 : (1 : Int32).toInt = 1 := (by decide); omega) hP hS (lv_sub hl [1, 2, 3, 4, 5, 6, 0] rfl)
        · have zc7003 := eqK rfl (show (-1 : Int32).toInt = (-1) by decide) c7003
          refine lv_iconst (v := 0) hx hb dX11_oftenest_27 (by decide) ?_
          refine lv_goto (tgt := 32) hx hb dX11_oftenest_28 (by decide) ?_
          exact B32 0 H locs ls (by decide) (by have k0 : (0 : Int32).toInt = 0 := (by decide); have k1 : (1 : Int32).toInt = 1 := (by decide); omega) hP hS (lv_sub hl [1, 2, 3, 4, 5, 6, 0] rfl)
  exact B8 _ (-1) 0 0 s.heap [] ls (Nat.lt_succ_self _) (by decide) (by decide) (by decide) hP hS (lv_sub hl [3, 4, 5, 2, 1, 0] rfl)

set_option maxRecDepth 100000 in
set_option maxHeartbeats 8000000 in
theorem sX11_draw (l : Launch) (G : va_G) (cs : Nat → ClassId) (h : Nat) (q : Nat → Nat) (F : Nat → Int32) (A : Nat → Nat → Int32) (D : Int64) (B : Nat → Nat → Int64) (hI : IM F A) (hD0 : (0 : Int) ≤ D.toInt ∧ D.toInt ≤ 4294967295) (a1 : Int32) (ha1 : (1 : Int) ≤ a1.toInt ∧ a1.toInt ≤ 2147483647) : ImpI l yX11_draw cX11_draw 2 (some .int) 0 0 0 G (TY cs) [.ref h, .int a1] (mS cs h q F A D B) (fun (r : Int32) (u : Int64) => ((0 : Int) ≤ u.toInt ∧ u.toInt ≤ 2147483647) ∧ ((0 : Int) ≤ r.toInt ∧ r.toInt < a1.toInt)) (fun u : Int64 => (mS cs h q F A u B)) := by
  refine mkD (Qc := (QDi G (fun (r : Int32) (u : Int64) => ((0 : Int) ≤ u.toInt ∧ u.toInt ≤ 2147483647) ∧ ((0 : Int) ≤ r.toInt ∧ r.toInt < a1.toInt)) (fun u : Int64 => (mS cs h q F A u B)))) (by decide) (by simp [lg_sl, Value.category]) ?_
  intro p e s m args below meth c ls A0 hx hb hml hr hlk hown hmn ht hK hP hD hS hA hl
  have hl : lv_has ls 2 [(0, .ref h), (1, .int a1)] := hl
  refine lv_aload_n hx hb dX11_draw_0 rfl (lv_at hl 0 rfl) ?_
  refine lv_ldc2 hx hb hown (ht _ kl_RX11_412) dX11_draw_1 ?_
  refine lv_aload_n hx hb dX11_draw_4 rfl (lv_at hl 0 rfl) ?_
  refine getF (v := .long D) hx hb ht hown hK hP iTX11 0 28 rfl rfl (by decide) fl_RX11_414 rfl dX11_draw_5 ?_
  refine lv_lmul hx hb dX11_draw_8 ?_
  refine lv_topl (fun v1 ev1 => ?_)
  have tv1 : v1.toInt = 1103515245 * D.toInt := by rw [ev1]; exact mulL (show (1103515245 : Int64).toInt = 1103515245 by decide) rfl (by omega)
  refine lv_ldc2 hx hb hown (ht _ kl_RX11_418) dX11_draw_9 ?_
  refine lv_ladd hx hb dX11_draw_12 ?_
  refine lv_topl (fun v2 ev2 => ?_)
  have tv2 : v2.toInt = v1.toInt + 12345 := by rw [ev2]; exact addL rfl (show (12345 : Int64).toInt = 12345 by decide) (by omega)
  refine lv_ldc2 hx hb hown (ht _ kl_RX11_420) dX11_draw_13 ?_
  refine lv_lrem hx hb dX11_draw_16 (by decide) ?_
  refine lv_topl (fun v3 ev3 => ?_)
  have tv3 : v3.toInt = v2.toInt % 2147483648 := by rw [ev3]; exact remL rfl (show (2147483648 : Int64).toInt = 2147483648 by decide) (by omega) (by omega)
  refine putD hx hb ht hown hK hP hD hS iTX11 tyX11 tyX11_ok nmX11 0 28 rfl rfl (by decide) fl_RX11_414 rfl rfl rfl (Nat.le_of_ble_eq_true rfl) dX11_draw_17 (fun H locs hP hD hS => ?_)
  have hP : va_P G vwCl (mS cs h q F A v3 B) H := hP
  have hD : va_D A0 (mS cs h q F A v3 B) := hD
  refine lv_aload_n hx hb dX11_draw_20 rfl (lv_at hl 0 rfl) ?_
  refine getF (v := .long v3) hx hb ht hown hK hP iTX11 0 28 rfl rfl (by decide) fl_RX11_414 rfl dX11_draw_21 ?_
  refine lv_ldc2 hx hb hown (ht _ kl_RX11_422) dX11_draw_24 ?_
  refine lv_ldiv hx hb dX11_draw_27 (by decide) ?_
  refine lv_topl (fun v4 ev4 => ?_)
  have tv4 : v4.toInt = v3.toInt / 65536 := by rw [ev4]; exact divL rfl (show (65536 : Int64).toInt = 65536 by decide) (by omega) (by omega)
  refine lv_iload_n hx hb dX11_draw_28 rfl (lv_at hl 1 rfl) ?_
  refine lv_i2l hx hb dX11_draw_29 rfl ?_
  have bb5 := i32b a1
  refine lv_topl (fun v6 ev6 => ?_)
  have tv6 : v6.toInt = a1.toInt := by rw [ev6]; exact Int32.toInt_toInt64 _
  refine lv_lrem hx hb dX11_draw_30 (n0L rfl (by omega)) ?_
  refine lv_topl (fun v7 ev7 => ?_)
  have tv7 : v7.toInt = v4.toInt % v6.toInt := by rw [ev7]; exact remL rfl rfl (by omega) (by omega)
  have uv7 := remB (x := v4.toInt) (y := v6.toInt) (by omega) (by omega)
  refine lv_l2i hx hb dX11_draw_31 rfl ?_
  refine lv_topi (fun v8 ev8 => ?_)
  have tv8 : v8.toInt = v7.toInt := by rw [ev8]; exact l2iT (by omega)
  exact retDi v3 hx hb hr hlk hP hD hS dX11_draw_32 (⟨show (0 : Int) ≤ v3.toInt ∧ v3.toInt ≤ 2147483647 by omega, show (0 : Int) ≤ v8.toInt ∧ v8.toInt < a1.toInt by omega⟩) (Nat.le_of_ble_eq_true rfl) (Nat.le_of_ble_eq_true rfl)

set_option maxRecDepth 100000 in
set_option maxHeartbeats 8000000 in
theorem sX11_firstRoom (l : Launch) (G : va_G) (cs : Nat → ClassId) (h : Nat) (q : Nat → Nat) (F : Nat → Int32) (A : Nat → Nat → Int32) (D : Int64) (B : Nat → Nat → Int64) (hI : IM F A) (hD0 : (0 : Int) ≤ D.toInt ∧ D.toInt ≤ 4294967295) : ImpI l yX11_firstRoom cX11_firstRoom 4 (some .int) 2 0 0 G (TY cs) [.ref h] (mS cs h q F A D B) (fun (r : Int32) (u : Int64) => ((0 : Int) ≤ u.toInt ∧ u.toInt ≤ 4294967295) ∧ ((-1 : Int) ≤ r.toInt ∧ r.toInt ≤ 6)) (fun u : Int64 => (mS cs h q F A u B)) := by
  refine mkD (Qc := (QDi G (fun (r : Int32) (u : Int64) => ((0 : Int) ≤ u.toInt ∧ u.toInt ≤ 4294967295) ∧ ((-1 : Int) ≤ r.toInt ∧ r.toInt ≤ 6)) (fun u : Int64 => (mS cs h q F A u B)))) (by decide) (by simp [lg_sl, Value.category]) ?_
  intro p e s m args below meth c ls A0 hx hb hml hr hlk hown hmn ht hK hP hD hS hA hl
  have hl : lv_has ls 4 [(0, .ref h)] := hl
  refine lv_aload_n hx hb dX11_firstRoom_0 rfl (lv_at hl 0 rfl) ?_
  refine lv_bipush (v := 100) hx hb dX11_firstRoom_1 (by decide) ?_
  refine behDi (wr := []) (runVD (As := [.int 100]) (rest := []) ⟨hx, hb, hml, hown, ht⟩ (sX11_draw l G cs h q F A D B hI (by omega) 100 (by decide)) okV_RX11_424 ⟨by decide, by decide⟩ hK hP hD [0, 1, 2, 3, 4, 5, 6, 7, 8, 9, 10, 11, 12, 13, 14, 15, 16, 17, 18, 19] rfl (by decide) rfl 0 rfl rfl hl.1 rfl (Nat.le_of_ble_eq_true rfl) dX11_firstRoom_3 ⟨(Nat.le_of_ble_eq_true rfl), (Nat.le_of_ble_eq_true rfl)⟩) hP hD hS hA [0, 1, 2, 3, 4, 5, 6, 7, 8, 9, 10, 11, 12, 13, 14, 15, 16, 17, 18, 19] [] rfl rfl (by decide) (by decide) (fun r9 u H locs hu hP hD hS => ?_)
  obtain ⟨d1, rfl⟩ : ∃ z, z = u := ⟨_, rfl⟩
  have kk3 : (100 : Int32).toInt = 100 := by decide
  obtain ⟨r2, rfl⟩ : ∃ z, z = r9 := ⟨_, rfl⟩
  obtain ⟨hbd1, hr2⟩ := hu
  have hbd1 : (0 : Int) ≤ d1.toInt ∧ d1.toInt ≤ 2147483647 := hbd1
  have hr2 : (0 : Int) ≤ r2.toInt ∧ r2.toInt < (100 : Int32).toInt := hr2
  have hP : va_P G vwCl (mS cs h q F A d1 B) H := hP
  have hD : va_D A0 (mS cs h q F A d1 B) := hD
  refine lv_aload_n hx hb dX11_firstRoom_6 rfl (lv_at hl 0 rfl) ?_
  refine getF (v := .ref (q 1)) hx hb ht hown hK hP iTX11 0 1 rfl rfl (by decide) fl_RX11_9 rfl dX11_firstRoom_7 ?_
  refine lv_iconst (v := 1) hx hb dX11_firstRoom_10 (by decide) ?_
  refine va_iald hx hb hK.1 hP 1 0 rfl rfl (show ¬ (_ ∨ _) by decide) dX11_firstRoom_11 ?_
  refine W.eq (g2 := F0 m 12 ls [.int (A 1 1), .int r2]) rfl ?_
  refine lv_icmp_ge (tgt := 22) hx hb dX11_firstRoom_12 (by decide) (fun c4 => ?_) (fun c4 => ?_)
  · have zc4 := leK rfl rfl c4
    refine lv_iconst (v := (-1)) hx hb dX11_firstRoom_22 (by decide) ?_
    exact retDi d1 hx hb hr hlk hP hD hS dX11_firstRoom_23 (⟨show (0 : Int) ≤ d1.toInt ∧ d1.toInt ≤ 4294967295 by omega, show (-1 : Int) ≤ (-1 : Int32).toInt ∧ (-1 : Int32).toInt ≤ 6 by have kk : (-1 : Int32).toInt = -1 := (by decide); omega⟩) (Nat.le_of_ble_eq_true rfl) (Nat.le_of_ble_eq_true rfl)
  · have zc4 := nleK rfl rfl c4
    refine lv_aload_n hx hb dX11_firstRoom_15 rfl (lv_at hl 0 rfl) ?_
    refine behR (runVP (As := []) (rest := []) ⟨hx, hb, hml, hown, ht⟩ (sX11_allSits l G cs h q F A d1 B hI  ) okV_RX11_242 ⟨by decide, by decide⟩ hK hP [0, 1, 2, 3, 4, 5, 6, 7, 8, 9, 10, 11, 12, 13, 14, 15, 16, 17, 18, 19] rfl 0 rfl rfl hl.1 rfl (Nat.le_of_ble_eq_true rfl) dX11_firstRoom_16 ⟨by decide, by decide⟩) hP hS hA (fun r5 H locs hr5 hP hS => ?_)
    have hr5 : r5.toInt = PS (A 1) ((A 1) 4).toInt.toNat ∧ 0 ≤ r5.toInt ∧ r5.toInt ≤ 693 := hr5
    refine lv_if_ne (tgt := 24) hx hb dX11_firstRoom_19 (by decide) (fun c6 => ?_) (fun c6 => ?_)
    · have zc6 := neK rfl (show (0 : Int32).toInt = 0 by decide) c6
      refine lv_aload_n hx hb dX11_firstRoom_24 rfl (lv_at hl 0 rfl) ?_
      refine lv_aload_n hx hb dX11_firstRoom_25 rfl (lv_at hl 0 rfl) ?_
      refine behR (runVP (As := []) (rest := [.ref h]) ⟨hx, hb, hml, hown, ht⟩ (sX11_allSits l G cs h q F A d1 B hI  ) okV_RX11_242 ⟨by decide, by decide⟩ hK hP [0, 1, 2, 3, 4, 5, 6, 7, 8, 9, 10, 11, 12, 13, 14, 15, 16, 17, 18, 19] rfl 0 rfl rfl hl.1 rfl (Nat.le_of_ble_eq_true rfl) dX11_firstRoom_26 ⟨by decide, by decide⟩) hP hS hA (fun r7 H locs hr7 hP hS => ?_)
      have hr7 : r7.toInt = PS (A 1) ((A 1) 4).toInt.toNat ∧ 0 ≤ r7.toInt ∧ r7.toInt ≤ 693 := hr7
      refine behDi (wr := []) (runVD (As := [.int r7]) (rest := []) ⟨hx, hb, hml, hown, ht⟩ (sX11_draw l G cs h q F A d1 B hI (by omega) r7 (by omega)) okV_RX11_424 ⟨by decide, by decide⟩ hK hP hD [0, 1, 2, 3, 4, 5, 6, 7, 8, 9, 10, 11, 12, 13, 14, 15, 16, 17, 18, 19] rfl (by decide) rfl 0 rfl rfl hl.1 rfl (Nat.le_of_ble_eq_true rfl) dX11_firstRoom_29 ⟨(Nat.le_of_ble_eq_true rfl), (Nat.le_of_ble_eq_true rfl)⟩) hP hD hS hA [0, 1, 2, 3, 4, 5, 6, 7, 8, 9, 10, 11, 12, 13, 14, 15, 16, 17, 18, 19] [] rfl rfl (by decide) (by decide) (fun r9 u H locs hu hP hD hS => ?_)
      obtain ⟨d8, rfl⟩ : ∃ z, z = u := ⟨_, rfl⟩
      obtain ⟨r9, rfl⟩ : ∃ z, z = r9 := ⟨_, rfl⟩
      obtain ⟨hbd8, hr9⟩ := hu
      have hbd8 : (0 : Int) ≤ d8.toInt ∧ d8.toInt ≤ 2147483647 := hbd8
      have hr9 : (0 : Int) ≤ r9.toInt ∧ r9.toInt < r7.toInt := hr9
      have hP : va_P G vwCl (mS cs h q F A d8 B) H := hP
      have hD : va_D A0 (mS cs h q F A d8 B) := hD
      refine lv_istore_n (lv' := [(1, .int r9), (0, .ref h)]) hx hb dX11_firstRoom_32 rfl hl (by decide) rfl (fun ls hl => ?_)
      refine lv_iconst (v := 0) hx hb dX11_firstRoom_33 (by decide) ?_
      refine lv_istore_n (lv' := [(2, .int 0), (1, .int r9), (0, .ref h)]) hx hb dX11_firstRoom_34 rfl hl (by decide) rfl (fun ls hl => ?_)
      refine lv_aload_n hx hb dX11_firstRoom_35 rfl (lv_at hl 2 rfl) ?_
      refine lv_iconst (v := 0) hx hb dX11_firstRoom_36 (by decide) ?_
      refine lv_iconst (v := 2) hx hb dX11_firstRoom_37 (by decide) ?_
      refine behR (runVP (As := [.int 0, .int 2]) (rest := []) ⟨hx, hb, hml, hown, ht⟩ (sX11_of l G cs h q F A d8 B hI 0 2 (by decide) (by decide)) okV_RX11_227 ⟨by decide, by decide⟩ hK hP [0, 1, 2, 3, 4, 5, 6, 7, 8, 9, 10, 11, 12, 13, 14, 15, 16, 17, 18, 19] rfl 0 rfl rfl hl.1 rfl (Nat.le_of_ble_eq_true rfl) dX11_firstRoom_38 ⟨by decide, by decide⟩) hP hS hA (fun r10 H locs hr10 hP hS => ?_)
      have kk11 : (0 : Int32).toInt = 0 := by decide
      have kk12 : (2 : Int32).toInt = 2 := by decide
      have hr10 : r10 = (A 1) (8 + 4 * (0 : Int32).toNatClampNeg + (2 : Int32).toNatClampNeg) ∧ (0 : Int) ≤ r10.toInt ∧ r10.toInt ≤ 999 ∧ ((2 : Int32).toInt = 3 → r10.toInt ≤ 127) ∧ ((2 : Int32).toInt = 2 → r10.toInt ≤ 99) := hr10
      refine lv_istore_n (lv' := [(3, .int r10), (2, .int 0), (1, .int r9), (0, .ref h)]) hx hb dX11_firstRoom_41 rfl hl (by decide) rfl (fun ls hl => ?_)
      have B42 : ∀ (n : Nat) (x42_2 : Int32) (x42_3 : Int32) (H : Heap) (locs : List Loc) (ls : Array Slot), (6 - x42_2.toInt).toNat < n → (0 : Int) ≤ x42_2.toInt ∧ x42_2.toInt ≤ 6 → (0 : Int) ≤ x42_3.toInt ∧ x42_3.toInt ≤ 693 → (x42_3.toInt = PS (A 1) (x42_2.toInt + 1).toNat ∧ 0 ≤ x42_3.toInt ∧ x42_3.toInt ≤ 99 * (x42_2.toInt + 1)) → va_P G vwCl (mS cs h q F A d8 B) H → va_D A0 (mS cs h q F A d8 B) → va_S A0 s.heap H locs → lv_has ls 4 [(0, .ref h), (1, .int r9), (2, .int x42_2), (3, .int x42_3)] → W p l e (rmk 2 0 0) s m args below meth c H locs 0 0 (MQ below ((QDi G (fun (r : Int32) (u : Int64) => ((0 : Int) ≤ u.toInt ∧ u.toInt ≤ 4294967295) ∧ ((-1 : Int) ≤ r.toInt ∧ r.toInt ≤ 6)) (fun u : Int64 => (mS cs h q F A u B))) A0) args s 0 0 A0) (F0 m 42 ls []) := by
        intro n
        induction n with
        | zero => intro x42_2 x42_3 H locs ls hmeas hx42_2 hx42_3 hsm hP hD hS hl; exact absurd hmeas (Nat.not_lt_zero _)
        | succ n ih42 =>
          intro x42_2 x42_3 H locs ls hmeas hx42_2 hx42_3 hsm hP hD hS hl
          refine lv_iload_n hx hb dX11_firstRoom_42 rfl (lv_at hl 3 rfl) ?_
          refine lv_iload_n hx hb dX11_firstRoom_43 rfl (lv_at hl 1 rfl) ?_
          refine lv_icmp_gt (tgt := 62) hx hb dX11_firstRoom_44 (by decide) (fun c24001 => ?_) (fun c24001 => ?_)
          · have zc24001 := ltK rfl rfl c24001
            refine lv_iload_n hx hb dX11_firstRoom_62 rfl (lv_at hl 2 rfl) ?_
            exact retDi d8 hx hb hr hlk hP hD hS dX11_firstRoom_63 (⟨show (0 : Int) ≤ d8.toInt ∧ d8.toInt ≤ 4294967295 by omega, show (-1 : Int) ≤ x42_2.toInt ∧ x42_2.toInt ≤ 6 by omega⟩) (Nat.le_of_ble_eq_true rfl) (Nat.le_of_ble_eq_true rfl)
          · have zc24001 := nltK rfl rfl c24001
            have hw4 : (0 : Int) ≤ (A 1 4).toInt ∧ (A 1 4).toInt ≤ 7 := hI.2 1 4
            have hlt := PSlt (fun j => hI.2 1 j) (v := r9.toInt) (r := x42_2.toInt) (w := (A 1 4).toInt) (by omega) (by omega) (by omega) (by omega)
            obtain ⟨v24002, ev24002⟩ : ∃ z : Int32, z = x42_2 + 1 := ⟨_, rfl⟩
            have tv24002 : v24002.toInt = x42_2.toInt + 1 := by rw [ev24002]; exact addT rfl (by decide) (by omega)
            refine lv_iinc (v := v24002) (lv' := [(2, .int v24002), (0, .ref h), (1, .int r9), (3, .int x42_3)]) hx hb dX11_firstRoom_47 hl (k := 2) rfl (by rw [ev24002]; rfl) (by decide) rfl (fun ls hl => ?_)
            refine lv_iload_n hx hb dX11_firstRoom_50 rfl (lv_at hl 3 rfl) ?_
            refine lv_aload_n hx hb dX11_firstRoom_51 rfl (lv_at hl 1 rfl) ?_
            refine lv_iload_n hx hb dX11_firstRoom_52 rfl (lv_at hl 0 rfl) ?_
            refine lv_iconst (v := 2) hx hb dX11_firstRoom_53 (by decide) ?_
            refine behR (runVP (As := [.int v24002, .int 2]) (rest := [.int x42_3]) ⟨hx, hb, hml, hown, ht⟩ (sX11_of l G cs h q F A d8 B hI v24002 2 (by omega) (by decide)) okV_RX11_227 ⟨by decide, by decide⟩ hK hP [0, 1, 2, 3, 4, 5, 6, 7, 8, 9, 10, 11, 12, 13, 14, 15, 16, 17, 18, 19] rfl 0 rfl rfl hl.1 rfl (Nat.le_of_ble_eq_true rfl) dX11_firstRoom_54 ⟨by decide, by decide⟩) hP hS hA (fun r24003 H locs hr24003 hP hS => ?_)
            have kk24004 : (2 : Int32).toInt = 2 := by decide
            have hr24003 : r24003 = (A 1) (8 + 4 * v24002.toNatClampNeg + (2 : Int32).toNatClampNeg) ∧ (0 : Int) ≤ r24003.toInt ∧ r24003.toInt ≤ 999 ∧ ((2 : Int32).toInt = 3 → r24003.toInt ≤ 127) ∧ ((2 : Int32).toInt = 2 → r24003.toInt ≤ 99) := hr24003
            refine lv_iadd hx hb dX11_firstRoom_57 ?_
            refine lv_topi (fun v24005 ev24005 => ?_)
            have tv24005 : v24005.toInt = x42_3.toInt + r24003.toInt := by rw [ev24005]; exact addT rfl rfl (by omega)
            refine lv_istore_n (lv' := [(3, .int v24005), (2, .int v24002), (0, .ref h), (1, .int r9)]) hx hb dX11_firstRoom_58 rfl hl (by decide) rfl (fun ls hl => ?_)
            refine lv_goto (tgt := 42) hx hb dX11_firstRoom_59 (by decide) ?_
            exact ih42 v24002 v24005 H locs ls (by omega) (by omega) (by omega) (by have q1 := PSs (g := (A 1)) (x := v24002.toInt) (y := v24002.toInt + 1) (n := v24002.toNatClampNeg) (by omega) (clK rfl (by omega)) rfl; have q3 : PS (A 1) v24002.toInt.toNat = PS (A 1) (x42_2.toInt + 1).toNat := (by rw [tv24002]); have q2 : r24003.toInt = (A 1 (10 + 4 * v24002.toNatClampNeg)).toInt := congrArg Int32.toInt (hr24003.1.trans (congrArg (A 1) (by have q0 : (2 : Int32).toNatClampNeg = 2 := (by decide); omega))); omega) hP hD hS (lv_sub hl [2, 3, 1, 0] rfl)
      exact B42 _ 0 r10 H locs ls (Nat.lt_succ_self _) (by decide) (by omega) ⟨(congrArg Int32.toInt hr10.1).trans (PS1 (by decide)).symm, by omega, by have k0 : (0 : Int32).toInt = 0 := (by decide); omega⟩ hP hD hS (lv_sub hl [3, 2, 1, 0] rfl)
    · have zc6 := eqK rfl (show (0 : Int32).toInt = 0 by decide) c6
      refine lv_iconst (v := (-1)) hx hb dX11_firstRoom_22 (by decide) ?_
      exact retDi d1 hx hb hr hlk hP hD hS dX11_firstRoom_23 (⟨show (0 : Int) ≤ d1.toInt ∧ d1.toInt ≤ 4294967295 by omega, show (-1 : Int) ≤ (-1 : Int32).toInt ∧ (-1 : Int32).toInt ≤ 6 by have kk : (-1 : Int32).toInt = -1 := (by decide); omega⟩) (Nat.le_of_ble_eq_true rfl) (Nat.le_of_ble_eq_true rfl)

set_option maxRecDepth 100000 in
set_option maxHeartbeats 8000000 in
theorem sX11_doorFrom (l : Launch) (G : va_G) (cs : Nat → ClassId) (h : Nat) (q : Nat → Nat) (F : Nat → Int32) (A : Nat → Nat → Int32) (D : Int64) (B : Nat → Nat → Int64) (hI : IM F A) (a1 : Int32) (a2 : Int32) (ha1 : (0 : Int) ≤ a1.toInt ∧ a1.toInt ≤ 6) : SafeR l yX11_doorFrom cX11_doorFrom 5 (some .int) 1 G (TY cs) [.ref h, .int a1, .int a2] (mS cs h q F A D B) (fun r : Int32 => (-1 : Int) ≤ r.toInt ∧ r.toInt ≤ 6) := by
  refine mkP (Qc := QRi (fun r : Int32 => (-1 : Int) ≤ r.toInt ∧ r.toInt ≤ 6)) (by decide) (by simp [lg_sl, Value.category]) ?_
  intro p e s m args below meth c ls hx hb hml hr hlk hown ht hK hP hS hl
  have hl : lv_has ls 5 [(0, .ref h), (1, .int a1), (2, .int a2)] := hl
  refine lv_iload_n hx hb dX11_doorFrom_0 rfl (lv_at hl 2 rfl) ?_
  refine lv_istore_n (lv' := [(3, .int a2), (0, .ref h), (1, .int a1), (2, .int a2)]) hx hb dX11_doorFrom_1 rfl hl (by decide) rfl (fun ls hl => ?_)
  refine lv_iconst (v := 0) hx hb dX11_doorFrom_2 (by decide) ?_
  refine lv_istore (lv' := [(4, .int 0), (3, .int a2), (0, .ref h), (1, .int a1), (2, .int a2)]) hx hb dX11_doorFrom_3 hl (by decide) rfl (fun ls hl => ?_)
  have B5 : ∀ (n : Nat) (x5_3 : Int32) (x5_4 : Int32) (H : Heap) (locs : List Loc) (ls : Array Slot), (7 - x5_4.toInt).toNat < n → (0 : Int) ≤ x5_4.toInt ∧ x5_4.toInt ≤ 7 → va_P G vwCl (mS cs h q F A D B) H → va_S (fun q => s.heap.size ≤ q) s.heap H locs → lv_has ls 5 [(0, .ref h), (1, .int a1), (3, .int x5_3), (4, .int x5_4)] → W p l e (rmk 1 0 0) s m args below meth c H locs 0 0 (MQ below (QRi (fun r : Int32 => (-1 : Int) ≤ r.toInt ∧ r.toInt ≤ 6) s.heap.size) args s 0 0 (fun q => s.heap.size ≤ q)) (F0 m 5 ls []) := by
    intro n
    induction n with
    | zero => intro x5_3 x5_4 H locs ls hmeas hx5_4 hP hS hl; exact absurd hmeas (Nat.not_lt_zero _)
    | succ n ih5 =>
      intro x5_3 x5_4 H locs ls hmeas hx5_4 hP hS hl
      refine lv_iload hx hb dX11_doorFrom_5 (lv_at hl 3 rfl) ?_
      refine lv_aload_n hx hb dX11_doorFrom_7 rfl (lv_at hl 0 rfl) ?_
      refine getF (v := .ref (q 1)) hx hb ht hown hK hP iTX11 0 1 rfl rfl (by decide) fl_RX11_9 rfl dX11_doorFrom_8 ?_
      refine lv_iconst (v := 4) hx hb dX11_doorFrom_11 (by decide) ?_
      refine va_iald hx hb hK.1 hP 1 0 rfl rfl (show ¬ (_ ∨ _) by decide) dX11_doorFrom_12 ?_
      refine W.eq (g2 := F0 m 13 ls [.int (A 1 4), .int x5_4]) rfl ?_
      have zf5001 : (0 : Int) ≤ (A 1 4).toInt ∧ (A 1 4).toInt ≤ 7 := (hI.2 1 4)
      refine lv_icmp_ge (tgt := 49) hx hb dX11_doorFrom_13 (by decide) (fun c5002 => ?_) (fun c5002 => ?_)
      · have zc5002 := leK rfl rfl c5002
        refine lv_iconst (v := (-1)) hx hb dX11_doorFrom_49 (by decide) ?_
        exact retRi hx hb hr hlk hS dX11_doorFrom_50 (show (-1 : Int) ≤ (-1 : Int32).toInt ∧ (-1 : Int32).toInt ≤ 6 by have kk : (-1 : Int32).toInt = -1 := (by decide); omega)
      · have zc5002 := nleK rfl rfl c5002
        refine lv_aload_n hx hb dX11_doorFrom_16 rfl (lv_at hl 0 rfl) ?_
        refine lv_iload_n hx hb dX11_doorFrom_17 rfl (lv_at hl 1 rfl) ?_
        refine lv_iconst (v := 3) hx hb dX11_doorFrom_18 (by decide) ?_
        refine behR (runVP (As := [.int a1, .int 3]) (rest := []) ⟨hx, hb, hml, hown, ht⟩ (sX11_of l G cs h q F A D B hI a1 3 (by omega) (by decide)) okV_RX11_227 ⟨by decide, by decide⟩ hK hP [0, 1, 2, 3, 4, 5, 6, 7, 8, 9, 10, 11, 12, 13, 14, 15, 16, 17, 18, 19] rfl 0 rfl rfl hl.1 rfl (Nat.le_of_ble_eq_true rfl) dX11_doorFrom_19 ⟨by decide, by decide⟩) hP hS (fun _ h => h) (fun r5003 H locs hr5003 hP hS => ?_)
        have kk5004 : (3 : Int32).toInt = 3 := by decide
        have hr5003 : r5003 = (A 1) (8 + 4 * a1.toNatClampNeg + (3 : Int32).toNatClampNeg) ∧ (0 : Int) ≤ r5003.toInt ∧ r5003.toInt ≤ 999 ∧ ((3 : Int32).toInt = 3 → r5003.toInt ≤ 127) ∧ ((3 : Int32).toInt = 2 → r5003.toInt ≤ 99) := hr5003
        refine lv_iload hx hb dX11_doorFrom_22 (lv_at hl 3 rfl) ?_
        refine behR (runSP (As := [.int r5003, .int x5_4]) (rest := []) ⟨hx, hb, hml, hown, ht⟩ (sX11_bit l G cs r5003 x5_4 ) okS_RX11_258 ⟨by decide, by decide⟩ hK hP [] rfl hl.1 rfl (Nat.le_of_ble_eq_true rfl) dX11_doorFrom_24 ⟨by decide, by decide⟩) hP hS (fun _ h => h) (fun r5005 H locs hr5005 hP hS => ?_)
        have hr5005 : r5005 = bitE r5003 x5_4 ∧ (0 : Int) ≤ r5005.toInt ∧ r5005.toInt ≤ 1 := hr5005
        have B43 : ∀ (x43_3 : Int32) (H : Heap) (locs : List Loc) (ls : Array Slot), va_P G vwCl (mS cs h q F A D B) H → va_S (fun q => s.heap.size ≤ q) s.heap H locs → lv_has ls 5 [(0, .ref h), (1, .int a1), (3, .int x43_3), (4, .int x5_4)] → W p l e (rmk 1 0 0) s m args below meth c H locs 0 0 (MQ below (QRi (fun r : Int32 => (-1 : Int) ≤ r.toInt ∧ r.toInt ≤ 6) s.heap.size) args s 0 0 (fun q => s.heap.size ≤ q)) (F0 m 43 ls []) := by
          intro x43_3 H locs ls hP hS hl
          obtain ⟨v24001, ev24001⟩ : ∃ z : Int32, z = x5_4 + 1 := ⟨_, rfl⟩
          have tv24001 : v24001.toInt = x5_4.toInt + 1 := by rw [ev24001]; exact addT rfl (by decide) (by omega)
          refine lv_iinc (v := v24001) (lv' := [(4, .int v24001), (0, .ref h), (1, .int a1), (3, .int x43_3)]) hx hb dX11_doorFrom_43 hl (k := 3) rfl (by rw [ev24001]; rfl) (by decide) rfl (fun ls hl => ?_)
          refine lv_goto (tgt := 5) hx hb dX11_doorFrom_46 (by decide) ?_
          exact ih5 x43_3 v24001 H locs ls (by omega) (by omega) hP hS (lv_sub hl [1, 2, 3, 0] rfl)
        refine lv_if_ne (tgt := 33) hx hb dX11_doorFrom_27 (by decide) (fun c5006 => ?_) (fun c5006 => ?_)
        · have zc5006 := neK rfl (show (0 : Int32).toInt = 0 by decide) c5006
          refine lv_iload_n hx hb dX11_doorFrom_33 rfl (lv_at hl 2 rfl) ?_
          refine lv_if_ne (tgt := 40) hx hb dX11_doorFrom_34 (by decide) (fun c5007 => ?_) (fun c5007 => ?_)
          · have zc5007 := neK rfl (show (0 : Int32).toInt = 0 by decide) c5007
            obtain ⟨v5008, ev5008⟩ : ∃ z : Int32, z = x5_3 + (-1) := ⟨_, rfl⟩
            refine lv_iinc (v := v5008) (lv' := [(3, .int v5008), (0, .ref h), (1, .int a1), (4, .int x5_4)]) hx hb dX11_doorFrom_40 hl (k := 2) rfl (by rw [ev5008]; rfl) (by decide) rfl (fun ls hl => ?_)
            exact B43 v5008 H locs ls hP hS (lv_sub hl [1, 2, 0, 3] rfl)
          · have zc5007 := eqK rfl (show (0 : Int32).toInt = 0 by decide) c5007
            refine lv_iload hx hb dX11_doorFrom_37 (lv_at hl 3 rfl) ?_
            exact retRi hx hb hr hlk hS dX11_doorFrom_39 (show (-1 : Int) ≤ x5_4.toInt ∧ x5_4.toInt ≤ 6 by omega)
        · have zc5006 := eqK rfl (show (0 : Int32).toInt = 0 by decide) c5006
          refine lv_goto (tgt := 43) hx hb dX11_doorFrom_30 (by decide) ?_
          exact B43 x5_3 H locs ls hP hS (lv_sub hl [0, 1, 2, 3] rfl)
  exact B5 _ a2 0 s.heap [] ls (Nat.lt_succ_self _) (by decide) hP hS (lv_sub hl [2, 3, 1, 0] rfl)

set_option maxRecDepth 100000 in
set_option maxHeartbeats 8000000 in
theorem sX11_goEvening (l : Launch) (G : va_G) (cs : Nat → ClassId) (h : Nat) (q : Nat → Nat) (F : Nat → Int32) (A : Nat → Nat → Int32) (D : Int64) (B : Nat → Nat → Int64) (hI : IM F A) (a1 : Int64) (a2 : Int32) (ha1 : (0 : Int) ≤ a1.toInt ∧ a1.toInt ≤ 4294967295) (ha2 : (0 : Int) ≤ a2.toInt ∧ a2.toInt ≤ 3) : ImpW l yX11_goEvening cX11_goEvening 6 3 0 0 G (TY cs) [.ref h, .long a1, .int a2] (mS cs h q F A D B) (fun u : Int32 × Int32 × Int64 => ((-1 : Int) ≤ u.1.toInt ∧ u.1.toInt ≤ 59) ∧ ((-1 : Int) ≤ u.2.1.toInt ∧ u.2.1.toInt ≤ 6) ∧ ((0 : Int) ≤ u.2.2.toInt ∧ u.2.2.toInt ≤ 4294967295) ∧ (True)) (fun u : Int32 × Int32 × Int64 => (mS cs h q (upd (upd F 29 u.1) 30 u.2.1) A u.2.2 B)) := by
  refine mkD (Qc := (QDw G (fun u : Int32 × Int32 × Int64 => ((-1 : Int) ≤ u.1.toInt ∧ u.1.toInt ≤ 59) ∧ ((-1 : Int) ≤ u.2.1.toInt ∧ u.2.1.toInt ≤ 6) ∧ ((0 : Int) ≤ u.2.2.toInt ∧ u.2.2.toInt ≤ 4294967295) ∧ (True)) (fun u : Int32 × Int32 × Int64 => (mS cs h q (upd (upd F 29 u.1) 30 u.2.1) A u.2.2 B)))) (by decide) (by simp [lg_sl, Value.category]) ?_
  intro p e s m args below meth c ls A0 hx hb hml hr hlk hown hmn ht hK hP hD hS hA hl
  have hl : lv_has ls 6 [(0, .ref h), (1, .long a1), (3, .int a2)] := hl
  refine lv_aload_n hx hb dX11_goEvening_0 rfl (lv_at hl 0 rfl) ?_
  refine lv_lload_n hx hb dX11_goEvening_1 rfl (lv_at hl 1 rfl) ?_
  refine putD hx hb ht hown hK hP hD hS iTX11 tyX11 tyX11_ok nmX11 0 28 rfl rfl (by decide) fl_RX11_414 rfl rfl rfl (Nat.le_of_ble_eq_true rfl) dX11_goEvening_2 (fun H locs hP hD hS => ?_)
  have hP : va_P G vwCl (mS cs h q F A a1 B) H := hP
  have hD : va_D A0 (mS cs h q F A a1 B) := hD
  refine lv_aload_n hx hb dX11_goEvening_5 rfl (lv_at hl 0 rfl) ?_
  refine lv_iconst (v := (-1)) hx hb dX11_goEvening_6 (by decide) ?_
  refine putD hx hb ht hown hK hP hD hS iTX11 tyX11 tyX11_ok nmX11 0 29 rfl rfl (by decide) fl_RX11_427 rfl rfl rfl (Nat.le_of_ble_eq_true rfl) dX11_goEvening_7 (fun H locs hP hD hS => ?_)
  have hP : va_P G vwCl (mS cs h q (upd F 29 (-1)) A a1 B) H := hP
  have hD : va_D A0 (mS cs h q (upd F 29 (-1)) A a1 B) := hD
  refine lv_aload_n hx hb dX11_goEvening_10 rfl (lv_at hl 0 rfl) ?_
  refine lv_aload_n hx hb dX11_goEvening_11 rfl (lv_at hl 0 rfl) ?_
  refine behDi (wr := []) (runVD (As := []) (rest := [.ref h]) ⟨hx, hb, hml, hown, ht⟩ (sX11_firstRoom l G cs h q (upd F 29 (-1)) A a1 B (IM_put (k := 29) hI (by decide)) (by omega)  ) okV_RX11_430 ⟨by decide, by decide⟩ hK hP hD [0, 1, 2, 3, 4, 5, 6, 7, 8, 9, 10, 11, 12, 13, 14, 15, 16, 17, 18, 19] rfl (by decide) rfl 0 rfl rfl hl.1 rfl (Nat.le_of_ble_eq_true rfl) dX11_goEvening_12 ⟨(Nat.le_of_ble_eq_true rfl), (Nat.le_of_ble_eq_true rfl)⟩) hP hD hS hA [0, 1, 2, 3, 4, 5, 6, 7, 8, 9, 10, 11, 12, 13, 14, 15, 16, 17, 18, 19] [] rfl rfl (by decide) (by decide) (fun r9 u H locs hu hP hD hS => ?_)
  obtain ⟨d1, rfl⟩ : ∃ z, z = u := ⟨_, rfl⟩
  obtain ⟨r2, rfl⟩ : ∃ z, z = r9 := ⟨_, rfl⟩
  obtain ⟨hbd1, hr2⟩ := hu
  have hbd1 : (0 : Int) ≤ d1.toInt ∧ d1.toInt ≤ 4294967295 := hbd1
  have hr2 : (-1 : Int) ≤ r2.toInt ∧ r2.toInt ≤ 6 := hr2
  have hP : va_P G vwCl (mS cs h q (upd F 29 (-1)) A d1 B) H := hP
  have hD : va_D A0 (mS cs h q (upd F 29 (-1)) A d1 B) := hD
  refine putD hx hb ht hown hK hP hD hS iTX11 tyX11 tyX11_ok nmX11 0 30 rfl rfl (by decide) fl_RX11_433 rfl rfl rfl (Nat.le_of_ble_eq_true rfl) dX11_goEvening_15 (fun H locs hP hD hS => ?_)
  have hP : va_P G vwCl (mS cs h q (upd (upd F 29 (-1)) 30 r2) A d1 B) H := hP
  have hD : va_D A0 (mS cs h q (upd (upd F 29 (-1)) 30 r2) A d1 B) := hD
  refine lv_iconst (v := 0) hx hb dX11_goEvening_18 (by decide) ?_
  refine lv_istore (lv' := [(4, .int 0), (0, .ref h), (1, .long a1), (3, .int a2)]) hx hb dX11_goEvening_19 hl (by decide) rfl (fun ls hl => ?_)
  have B21 : ∀ (n : Nat) (x21_4 : Int32) (f30_21 : Int32) (d0_21 : Int64) (H : Heap) (locs : List Loc) (ls : Array Slot), (60 - x21_4.toInt).toNat < n → (0 : Int) ≤ x21_4.toInt ∧ x21_4.toInt ≤ 60 → (-1 : Int) ≤ f30_21.toInt ∧ f30_21.toInt ≤ 6 → (0 : Int) ≤ d0_21.toInt ∧ d0_21.toInt ≤ 4294967295 → va_P G vwCl (mS cs h q (upd (upd F 29 (-1)) 30 f30_21) A d0_21 B) H → va_D A0 (mS cs h q (upd (upd F 29 (-1)) 30 f30_21) A d0_21 B) → va_S A0 s.heap H locs → lv_has ls 6 [(0, .ref h), (3, .int a2), (4, .int x21_4)] → W p l e (rmk 3 0 0) s m args below meth c H locs 0 0 (MQ below ((QDw G (fun u : Int32 × Int32 × Int64 => ((-1 : Int) ≤ u.1.toInt ∧ u.1.toInt ≤ 59) ∧ ((-1 : Int) ≤ u.2.1.toInt ∧ u.2.1.toInt ≤ 6) ∧ ((0 : Int) ≤ u.2.2.toInt ∧ u.2.2.toInt ≤ 4294967295) ∧ (True)) (fun u : Int32 × Int32 × Int64 => (mS cs h q (upd (upd F 29 u.1) 30 u.2.1) A u.2.2 B))) A0) args s 0 0 A0) (F0 m 21 ls []) := by
    intro n
    induction n with
    | zero => intro x21_4 f30_21 d0_21 H locs ls hmeas hx21_4 hf30_21 hd0_21 hP hD hS hl; exact absurd hmeas (Nat.not_lt_zero _)
    | succ n ih21 =>
      intro x21_4 f30_21 d0_21 H locs ls hmeas hx21_4 hf30_21 hd0_21 hP hD hS hl
      refine lv_iload hx hb dX11_goEvening_21 (lv_at hl 2 rfl) ?_
      refine lv_aload_n hx hb dX11_goEvening_23 rfl (lv_at hl 0 rfl) ?_
      refine getF (v := .ref (q 31)) hx hb ht hown hK hP iTX11 0 31 rfl rfl (by decide) fl_RX11_61 rfl dX11_goEvening_24 ?_
      refine lv_iload_n hx hb dX11_goEvening_27 rfl (lv_at hl 1 rfl) ?_
      refine va_iald hx hb hK.1 hP 16 0 rfl rfl (inK rfl (by omega) (by decide)) dX11_goEvening_28 ?_
      refine lv_topi (fun v13001 ev13001 => ?_)
      have zf13002 : (-1 : Int) ≤ v13001.toInt ∧ v13001.toInt ≤ 60 := by rw [ev13001]; exact (hI.2 31 _)
      have nv13001 : v13001.toInt = (A 31 a2.toNatClampNeg).toInt := congrArg Int32.toInt ev13001
      refine lv_icmp_ge (tgt := 137) hx hb dX11_goEvening_29 (by decide) (fun c13003 => ?_) (fun c13003 => ?_)
      · have zc13003 := leK rfl rfl c13003
        exact retDw ((-1), f30_21, d0_21) hx hb hr hlk hP hD hS dX11_goEvening_137 (⟨show (-1 : Int) ≤ (-1 : Int32).toInt ∧ (-1 : Int32).toInt ≤ 59 by decide, show (-1 : Int) ≤ f30_21.toInt ∧ f30_21.toInt ≤ 6 by omega, show (0 : Int) ≤ d0_21.toInt ∧ d0_21.toInt ≤ 4294967295 by omega, trivial⟩) (Nat.le_of_ble_eq_true rfl) (Nat.le_of_ble_eq_true rfl)
      · have zc13003 := nleK rfl rfl c13003
        refine lv_aload_n hx hb dX11_goEvening_32 rfl (lv_at hl 0 rfl) ?_
        refine getF (v := .int f30_21) hx hb ht hown hK hP iTX11 0 30 rfl rfl (by decide) fl_RX11_433 rfl dX11_goEvening_33 ?_
        refine lv_iconst (v := (-1)) hx hb dX11_goEvening_36 (by decide) ?_
        refine lv_icmp_eq (tgt := 137) hx hb dX11_goEvening_37 (by decide) (fun c13004 => ?_) (fun c13004 => ?_)
        · have zc13004 := eqK rfl (show (-1 : Int32).toInt = (-1) by decide) c13004
          exact retDw ((-1), f30_21, d0_21) hx hb hr hlk hP hD hS dX11_goEvening_137 (⟨show (-1 : Int) ≤ (-1 : Int32).toInt ∧ (-1 : Int32).toInt ≤ 59 by decide, show (-1 : Int) ≤ f30_21.toInt ∧ f30_21.toInt ≤ 6 by omega, show (0 : Int) ≤ d0_21.toInt ∧ d0_21.toInt ≤ 4294967295 by omega, trivial⟩) (Nat.le_of_ble_eq_true rfl) (Nat.le_of_ble_eq_true rfl)
        · have zc13004 := neK rfl (show (-1 : Int32).toInt = (-1) by decide) c13004
          refine lv_aload_n hx hb dX11_goEvening_40 rfl (lv_at hl 0 rfl) ?_
          refine lv_iload_n hx hb dX11_goEvening_41 rfl (lv_at hl 1 rfl) ?_
          refine lv_iload hx hb dX11_goEvening_42 (lv_at hl 2 rfl) ?_
          refine behR (runVP (As := [.int a2, .int x21_4]) (rest := []) ⟨hx, hb, hml, hown, ht⟩ (sX11_roomAt l G cs h q (upd (upd F 29 (-1)) 30 f30_21) A d0_21 B (IM_put (k := 30) (IM_put (k := 29) hI (by decide)) (show (-1 : Int) ≤ f30_21.toInt ∧ f30_21.toInt ≤ 6 by omega)) a2 x21_4 (by omega) (by omega)) okV_RX11_293 ⟨by decide, by decide⟩ hK hP [0, 1, 2, 3, 4, 5, 6, 7, 8, 9, 10, 11, 12, 13, 14, 15, 16, 17, 18, 19] rfl 0 rfl rfl hl.1 rfl (Nat.le_of_ble_eq_true rfl) dX11_goEvening_44 ⟨by decide, by decide⟩) hP hS hA (fun r13005 H locs hr13005 hP hS => ?_)
          have hr13005 : r13005 = (B 33 (60 * a2.toNatClampNeg + x21_4.toNatClampNeg)).toInt32 := hr13005
          refine lv_aload_n hx hb dX11_goEvening_47 rfl (lv_at hl 0 rfl) ?_
          refine getF (v := .int f30_21) hx hb ht hown hK hP iTX11 0 30 rfl rfl (by decide) fl_RX11_433 rfl dX11_goEvening_48 ?_
          have B79 : ∀ (d0_79 : Int64) (H : Heap) (locs : List Loc) (ls : Array Slot), (0 : Int) ≤ d0_79.toInt ∧ d0_79.toInt ≤ 4294967295 → va_P G vwCl (mS cs h q (upd (upd F 29 (-1)) 30 f30_21) A d0_79 B) H → va_D A0 (mS cs h q (upd (upd F 29 (-1)) 30 f30_21) A d0_79 B) → va_S A0 s.heap H locs → lv_has ls 6 [(0, .ref h), (3, .int a2), (4, .int x21_4)] → W p l e (rmk 3 0 0) s m args below meth c H locs 0 0 (MQ below ((QDw G (fun u : Int32 × Int32 × Int64 => ((-1 : Int) ≤ u.1.toInt ∧ u.1.toInt ≤ 59) ∧ ((-1 : Int) ≤ u.2.1.toInt ∧ u.2.1.toInt ≤ 6) ∧ ((0 : Int) ≤ u.2.2.toInt ∧ u.2.2.toInt ≤ 4294967295) ∧ (True)) (fun u : Int32 × Int32 × Int64 => (mS cs h q (upd (upd F 29 u.1) 30 u.2.1) A u.2.2 B))) A0) args s 0 0 A0) (F0 m 79 ls []) := by
            intro d0_79 H locs ls hd0_79 hP hD hS hl
            refine lv_aload_n hx hb dX11_goEvening_79 rfl (lv_at hl 0 rfl) ?_
            refine lv_aload_n hx hb dX11_goEvening_80 rfl (lv_at hl 0 rfl) ?_
            refine getF (v := .int f30_21) hx hb ht hown hK hP iTX11 0 30 rfl rfl (by decide) fl_RX11_433 rfl dX11_goEvening_81 ?_
            refine lv_iconst (v := 3) hx hb dX11_goEvening_84 (by decide) ?_
            refine behR (runVP (As := [.int f30_21, .int 3]) (rest := []) ⟨hx, hb, hml, hown, ht⟩ (sX11_of l G cs h q (upd (upd F 29 (-1)) 30 f30_21) A d0_79 B (IM_put (k := 30) (IM_put (k := 29) hI (by decide)) (show (-1 : Int) ≤ f30_21.toInt ∧ f30_21.toInt ≤ 6 by omega)) f30_21 3 (by omega) (by decide)) okV_RX11_227 ⟨by decide, by decide⟩ hK hP [0, 1, 2, 3, 4, 5, 6, 7, 8, 9, 10, 11, 12, 13, 14, 15, 16, 17, 18, 19] rfl 0 rfl rfl hl.1 rfl (Nat.le_of_ble_eq_true rfl) dX11_goEvening_85 ⟨by decide, by decide⟩) hP hS hA (fun r43001 H locs hr43001 hP hS => ?_)
            have kk43002 : (3 : Int32).toInt = 3 := by decide
            have hr43001 : r43001 = (A 1) (8 + 4 * f30_21.toNatClampNeg + (3 : Int32).toNatClampNeg) ∧ (0 : Int) ≤ r43001.toInt ∧ r43001.toInt ≤ 999 ∧ ((3 : Int32).toInt = 3 → r43001.toInt ≤ 127) ∧ ((3 : Int32).toInt = 2 → r43001.toInt ≤ 99) := hr43001
            refine behR (runSP (As := [.int r43001]) (rest := []) ⟨hx, hb, hml, hown, ht⟩ (sX11_bits l G cs r43001 ) okS_RX11_255 ⟨by decide, by decide⟩ hK hP [] rfl hl.1 rfl (Nat.le_of_ble_eq_true rfl) dX11_goEvening_88 ⟨by decide, by decide⟩) hP hS hA (fun r43003 H locs hr43003 hP hS => ?_)
            refine lv_istore (lv' := [(5, .int r43003), (0, .ref h), (3, .int a2), (4, .int x21_4)]) hx hb dX11_goEvening_91 hl (by decide) rfl (fun ls hl => ?_)
            refine lv_iload hx hb dX11_goEvening_93 (lv_at hl 0 rfl) ?_
            have B131 : ∀ (f30_131 : Int32) (d0_131 : Int64) (H : Heap) (locs : List Loc) (ls : Array Slot), (-1 : Int) ≤ f30_131.toInt ∧ f30_131.toInt ≤ 6 → (0 : Int) ≤ d0_131.toInt ∧ d0_131.toInt ≤ 4294967295 → va_P G vwCl (mS cs h q (upd (upd F 29 (-1)) 30 f30_131) A d0_131 B) H → va_D A0 (mS cs h q (upd (upd F 29 (-1)) 30 f30_131) A d0_131 B) → va_S A0 s.heap H locs → lv_has ls 6 [(0, .ref h), (3, .int a2), (4, .int x21_4)] → W p l e (rmk 3 0 0) s m args below meth c H locs 0 0 (MQ below ((QDw G (fun u : Int32 × Int32 × Int64 => ((-1 : Int) ≤ u.1.toInt ∧ u.1.toInt ≤ 59) ∧ ((-1 : Int) ≤ u.2.1.toInt ∧ u.2.1.toInt ≤ 6) ∧ ((0 : Int) ≤ u.2.2.toInt ∧ u.2.2.toInt ≤ 4294967295) ∧ (True)) (fun u : Int32 × Int32 × Int64 => (mS cs h q (upd (upd F 29 u.1) 30 u.2.1) A u.2.2 B))) A0) args s 0 0 A0) (F0 m 131 ls []) := by
              intro f30_131 d0_131 H locs ls hf30_131 hd0_131 hP hD hS hl
              obtain ⟨v69001, ev69001⟩ : ∃ z : Int32, z = x21_4 + 1 := ⟨_, rfl⟩
              have tv69001 : v69001.toInt = x21_4.toInt + 1 := by rw [ev69001]; exact addT rfl (by decide) (by omega)
              refine lv_iinc (v := v69001) (lv' := [(4, .int v69001), (0, .ref h), (3, .int a2)]) hx hb dX11_goEvening_131 hl (k := 2) rfl (by rw [ev69001]; rfl) (by decide) rfl (fun ls hl => ?_)
              refine lv_goto (tgt := 21) hx hb dX11_goEvening_134 (by decide) ?_
              exact ih21 v69001 f30_131 d0_131 H locs ls (by omega) (by omega) (by omega) (by omega) hP hD hS (lv_sub hl [1, 2, 0] rfl)
            refine lv_if_le (tgt := 131) hx hb dX11_goEvening_95 (by decide) (fun c43004 => ?_) (fun c43004 => ?_)
            · have zc43004 := leK rfl (show (0 : Int32).toInt = 0 by decide) c43004
              exact B131 f30_21 d0_79 H locs ls (by omega) (by omega) hP hD hS (lv_sub hl [1, 2, 3] rfl)
            · have zc43004 := nleK rfl (show (0 : Int32).toInt = 0 by decide) c43004
              refine lv_aload_n hx hb dX11_goEvening_98 rfl (lv_at hl 1 rfl) ?_
              refine lv_bipush (v := 100) hx hb dX11_goEvening_99 (by decide) ?_
              refine behDi (wr := []) (runVD (As := [.int 100]) (rest := []) ⟨hx, hb, hml, hown, ht⟩ (sX11_draw l G cs h q (upd (upd F 29 (-1)) 30 f30_21) A d0_79 B (IM_put (k := 30) (IM_put (k := 29) hI (by decide)) (show (-1 : Int) ≤ f30_21.toInt ∧ f30_21.toInt ≤ 6 by omega)) (by omega) 100 (by decide)) okV_RX11_424 ⟨by decide, by decide⟩ hK hP hD [0, 1, 2, 3, 4, 5, 6, 7, 8, 9, 10, 11, 12, 13, 14, 15, 16, 17, 18, 19] rfl (by decide) rfl 0 rfl rfl hl.1 rfl (Nat.le_of_ble_eq_true rfl) dX11_goEvening_101 ⟨(Nat.le_of_ble_eq_true rfl), (Nat.le_of_ble_eq_true rfl)⟩) hP hD hS hA [0, 1, 2, 3, 4, 5, 6, 7, 8, 9, 10, 11, 12, 13, 14, 15, 16, 17, 18, 19] [] rfl rfl (by decide) (by decide) (fun r9 u H locs hu hP hD hS => ?_)
              obtain ⟨d43005, rfl⟩ : ∃ z, z = u := ⟨_, rfl⟩
              have kk43007 : (100 : Int32).toInt = 100 := by decide
              obtain ⟨r43006, rfl⟩ : ∃ z, z = r9 := ⟨_, rfl⟩
              obtain ⟨hbd43005, hr43006⟩ := hu
              have hbd43005 : (0 : Int) ≤ d43005.toInt ∧ d43005.toInt ≤ 2147483647 := hbd43005
              have hr43006 : (0 : Int) ≤ r43006.toInt ∧ r43006.toInt < (100 : Int32).toInt := hr43006
              have hP : va_P G vwCl (mS cs h q (upd (upd F 29 (-1)) 30 f30_21) A d43005 B) H := hP
              have hD : va_D A0 (mS cs h q (upd (upd F 29 (-1)) 30 f30_21) A d43005 B) := hD
              refine lv_aload_n hx hb dX11_goEvening_104 rfl (lv_at hl 1 rfl) ?_
              refine getF (v := .ref (q 1)) hx hb ht hown hK hP iTX11 0 1 rfl rfl (by decide) fl_RX11_9 rfl dX11_goEvening_105 ?_
              refine lv_iconst (v := 0) hx hb dX11_goEvening_108 (by decide) ?_
              refine va_iald hx hb hK.1 hP 1 0 rfl rfl (show ¬ (_ ∨ _) by decide) dX11_goEvening_109 ?_
              refine W.eq (g2 := F0 m 110 ls [.int (A 1 0), .int r43006]) rfl ?_
              refine lv_icmp_ge (tgt := 131) hx hb dX11_goEvening_110 (by decide) (fun c43008 => ?_) (fun c43008 => ?_)
              · have zc43008 := leK rfl rfl c43008
                exact B131 f30_21 d43005 H locs ls (by omega) (by omega) hP hD hS (lv_sub hl [1, 2, 3] rfl)
              · have zc43008 := nleK rfl rfl c43008
                refine lv_aload_n hx hb dX11_goEvening_113 rfl (lv_at hl 1 rfl) ?_
                refine lv_aload_n hx hb dX11_goEvening_114 rfl (lv_at hl 1 rfl) ?_
                refine lv_aload_n hx hb dX11_goEvening_115 rfl (lv_at hl 1 rfl) ?_
                refine getF (v := .int f30_21) hx hb ht hown hK hP iTX11 0 30 rfl rfl (by decide) fl_RX11_433 rfl dX11_goEvening_116 ?_
                refine lv_aload_n hx hb dX11_goEvening_119 rfl (lv_at hl 1 rfl) ?_
                refine lv_iload hx hb dX11_goEvening_120 (lv_at hl 0 rfl) ?_
                have bb43009 := i32b r43003
                refine behDi (wr := []) (runVD (As := [.int r43003]) (rest := [.int f30_21, .ref h, .ref h]) ⟨hx, hb, hml, hown, ht⟩ (sX11_draw l G cs h q (upd (upd F 29 (-1)) 30 f30_21) A d43005 B (IM_put (k := 30) (IM_put (k := 29) hI (by decide)) (show (-1 : Int) ≤ f30_21.toInt ∧ f30_21.toInt ≤ 6 by omega)) (by omega) r43003 (by omega)) okV_RX11_424 ⟨by decide, by decide⟩ hK hP hD [0, 1, 2, 3, 4, 5, 6, 7, 8, 9, 10, 11, 12, 13, 14, 15, 16, 17, 18, 19] rfl (by decide) rfl 0 rfl rfl hl.1 rfl (Nat.le_of_ble_eq_true rfl) dX11_goEvening_122 ⟨(Nat.le_of_ble_eq_true rfl), (Nat.le_of_ble_eq_true rfl)⟩) hP hD hS hA [0, 1, 2, 3, 4, 5, 6, 7, 8, 9, 10, 11, 12, 13, 14, 15, 16, 17, 18, 19] [] rfl rfl (by decide) (by decide) (fun r9 u H locs hu hP hD hS => ?_)
                obtain ⟨d43010, rfl⟩ : ∃ z, z = u := ⟨_, rfl⟩
                obtain ⟨r43011, rfl⟩ : ∃ z, z = r9 := ⟨_, rfl⟩
                obtain ⟨hbd43010, hr43011⟩ := hu
                have hbd43010 : (0 : Int) ≤ d43010.toInt ∧ d43010.toInt ≤ 2147483647 := hbd43010
                have hr43011 : (0 : Int) ≤ r43011.toInt ∧ r43011.toInt < r43003.toInt := hr43011
                have hP : va_P G vwCl (mS cs h q (upd (upd F 29 (-1)) 30 f30_21) A d43010 B) H := hP
                have hD : va_D A0 (mS cs h q (upd (upd F 29 (-1)) 30 f30_21) A d43010 B) := hD
                refine behR (runVP (As := [.int f30_21, .int r43011]) (rest := [.ref h]) ⟨hx, hb, hml, hown, ht⟩ (sX11_doorFrom l G cs h q (upd (upd F 29 (-1)) 30 f30_21) A d43010 B (IM_put (k := 30) (IM_put (k := 29) hI (by decide)) (show (-1 : Int) ≤ f30_21.toInt ∧ f30_21.toInt ≤ 6 by omega)) f30_21 r43011 (by omega)) okV_RX11_436 ⟨by decide, by decide⟩ hK hP [0, 1, 2, 3, 4, 5, 6, 7, 8, 9, 10, 11, 12, 13, 14, 15, 16, 17, 18, 19] rfl 0 rfl rfl hl.1 rfl (Nat.le_of_ble_eq_true rfl) dX11_goEvening_125 ⟨by decide, by decide⟩) hP hS hA (fun r43012 H locs hr43012 hP hS => ?_)
                have hr43012 : (-1 : Int) ≤ r43012.toInt ∧ r43012.toInt ≤ 6 := hr43012
                refine putD hx hb ht hown hK hP hD hS iTX11 tyX11 tyX11_ok nmX11 0 30 rfl rfl (by decide) fl_RX11_433 rfl rfl rfl (Nat.le_of_ble_eq_true rfl) dX11_goEvening_128 (fun H locs hP hD hS => ?_)
                have hP : va_P G vwCl (mS cs h q (upd (upd F 29 (-1)) 30 r43012) A d43010 B) H := hP
                have hD : va_D A0 (mS cs h q (upd (upd F 29 (-1)) 30 r43012) A d43010 B) := hD
                exact B131 r43012 d43010 H locs ls (by omega) (by omega) hP hD hS (lv_sub hl [1, 2, 3] rfl)
          refine lv_icmp_ne (tgt := 79) hx hb dX11_goEvening_51 (by decide) (fun c13006 => ?_) (fun c13006 => ?_)
          · have zc13006 := neK rfl rfl c13006
            exact B79 d0_21 H locs ls (by omega) hP hD hS (lv_sub hl [0, 1, 2] rfl)
          · have zc13006 := eqK rfl rfl c13006
            refine lv_aload_n hx hb dX11_goEvening_54 rfl (lv_at hl 0 rfl) ?_
            refine lv_bipush (v := 100) hx hb dX11_goEvening_55 (by decide) ?_
            refine behDi (wr := []) (runVD (As := [.int 100]) (rest := []) ⟨hx, hb, hml, hown, ht⟩ (sX11_draw l G cs h q (upd (upd F 29 (-1)) 30 f30_21) A d0_21 B (IM_put (k := 30) (IM_put (k := 29) hI (by decide)) (show (-1 : Int) ≤ f30_21.toInt ∧ f30_21.toInt ≤ 6 by omega)) (by omega) 100 (by decide)) okV_RX11_424 ⟨by decide, by decide⟩ hK hP hD [0, 1, 2, 3, 4, 5, 6, 7, 8, 9, 10, 11, 12, 13, 14, 15, 16, 17, 18, 19] rfl (by decide) rfl 0 rfl rfl hl.1 rfl (Nat.le_of_ble_eq_true rfl) dX11_goEvening_57 ⟨(Nat.le_of_ble_eq_true rfl), (Nat.le_of_ble_eq_true rfl)⟩) hP hD hS hA [0, 1, 2, 3, 4, 5, 6, 7, 8, 9, 10, 11, 12, 13, 14, 15, 16, 17, 18, 19] [] rfl rfl (by decide) (by decide) (fun r9 u H locs hu hP hD hS => ?_)
            obtain ⟨d13007, rfl⟩ : ∃ z, z = u := ⟨_, rfl⟩
            have kk13009 : (100 : Int32).toInt = 100 := by decide
            obtain ⟨r13008, rfl⟩ : ∃ z, z = r9 := ⟨_, rfl⟩
            obtain ⟨hbd13007, hr13008⟩ := hu
            have hbd13007 : (0 : Int) ≤ d13007.toInt ∧ d13007.toInt ≤ 2147483647 := hbd13007
            have hr13008 : (0 : Int) ≤ r13008.toInt ∧ r13008.toInt < (100 : Int32).toInt := hr13008
            have hP : va_P G vwCl (mS cs h q (upd (upd F 29 (-1)) 30 f30_21) A d13007 B) H := hP
            have hD : va_D A0 (mS cs h q (upd (upd F 29 (-1)) 30 f30_21) A d13007 B) := hD
            refine lv_aload_n hx hb dX11_goEvening_60 rfl (lv_at hl 0 rfl) ?_
            refine lv_aload_n hx hb dX11_goEvening_61 rfl (lv_at hl 0 rfl) ?_
            refine getF (v := .int f30_21) hx hb ht hown hK hP iTX11 0 30 rfl rfl (by decide) fl_RX11_433 rfl dX11_goEvening_62 ?_
            refine lv_iconst (v := 1) hx hb dX11_goEvening_65 (by decide) ?_
            refine behR (runVP (As := [.int f30_21, .int 1]) (rest := [.int r13008]) ⟨hx, hb, hml, hown, ht⟩ (sX11_of l G cs h q (upd (upd F 29 (-1)) 30 f30_21) A d13007 B (IM_put (k := 30) (IM_put (k := 29) hI (by decide)) (show (-1 : Int) ≤ f30_21.toInt ∧ f30_21.toInt ≤ 6 by omega)) f30_21 1 (by omega) (by decide)) okV_RX11_227 ⟨by decide, by decide⟩ hK hP [0, 1, 2, 3, 4, 5, 6, 7, 8, 9, 10, 11, 12, 13, 14, 15, 16, 17, 18, 19] rfl 0 rfl rfl hl.1 rfl (Nat.le_of_ble_eq_true rfl) dX11_goEvening_66 ⟨by decide, by decide⟩) hP hS hA (fun r13010 H locs hr13010 hP hS => ?_)
            have kk13011 : (1 : Int32).toInt = 1 := by decide
            have hr13010 : r13010 = (A 1) (8 + 4 * f30_21.toNatClampNeg + (1 : Int32).toNatClampNeg) ∧ (0 : Int) ≤ r13010.toInt ∧ r13010.toInt ≤ 999 ∧ ((1 : Int32).toInt = 3 → r13010.toInt ≤ 127) ∧ ((1 : Int32).toInt = 2 → r13010.toInt ≤ 99) := hr13010
            refine lv_icmp_ge (tgt := 79) hx hb dX11_goEvening_69 (by decide) (fun c13012 => ?_) (fun c13012 => ?_)
            · have zc13012 := leK rfl rfl c13012
              exact B79 d13007 H locs ls (by omega) hP hD hS (lv_sub hl [0, 1, 2] rfl)
            · have zc13012 := nleK rfl rfl c13012
              refine lv_aload_n hx hb dX11_goEvening_72 rfl (lv_at hl 0 rfl) ?_
              refine lv_iload hx hb dX11_goEvening_73 (lv_at hl 2 rfl) ?_
              refine putD hx hb ht hown hK hP hD hS iTX11 tyX11 tyX11_ok nmX11 0 29 rfl rfl (by decide) fl_RX11_427 rfl rfl rfl (Nat.le_of_ble_eq_true rfl) dX11_goEvening_75 (fun H locs hP hD hS => ?_)
              have hP : va_P G vwCl (mS cs h q (upd (upd F 29 x21_4) 30 f30_21) A d13007 B) H := hP
              have hD : va_D A0 (mS cs h q (upd (upd F 29 x21_4) 30 f30_21) A d13007 B) := hD
              exact retDw (x21_4, f30_21, d13007) hx hb hr hlk hP hD hS dX11_goEvening_78 (⟨show (-1 : Int) ≤ x21_4.toInt ∧ x21_4.toInt ≤ 59 by omega, show (-1 : Int) ≤ f30_21.toInt ∧ f30_21.toInt ≤ 6 by omega, show (0 : Int) ≤ d13007.toInt ∧ d13007.toInt ≤ 4294967295 by omega, trivial⟩) (Nat.le_of_ble_eq_true rfl) (Nat.le_of_ble_eq_true rfl)
  exact B21 _ 0 r2 d1 H locs ls (Nat.lt_succ_self _) (by decide) (by omega) (by omega) hP hD hS (lv_sub hl [1, 3, 0] rfl)

