set_option maxRecDepth 100000 in
set_option maxHeartbeats 8000000 in
theorem sX11_cut (l : Launch) (G : va_G) (cs : Nat → ClassId) (a1 : Int64) (a2 : Int32) : SafeL l yX11_cut cX11_cut 4 (some .long) 0 G (TY cs) [.long a1, .int a2] [] (fun r : Int64 => True) := by
  refine mkP (Qc := QRl (fun r : Int64 => True)) (by decide) (by simp [lg_sl, Value.category]) ?_
  intro p e s m args below meth c ls hx hb hml hr hlk hown ht hK hP hS hl
  have hl : lv_has ls 4 [(0, .long a1), (2, .int a2)] := hl
  refine lv_bipush (v := 64) hx hb dX11_cut_0 (by decide) ?_
  refine lv_bipush (v := 8) hx hb dX11_cut_2 (by decide) ?_
  refine lv_iload_n hx hb dX11_cut_4 rfl (lv_at hl 1 rfl) ?_
  refine lv_ishl hx hb dX11_cut_5 ?_
  refine lv_topi (fun v1 ev1 => ?_)
  refine lv_isub hx hb dX11_cut_6 ?_
  refine lv_topi (fun v2 ev2 => ?_)
  refine lv_istore_n (lv' := [(3, .int v2), (0, .long a1), (2, .int a2)]) hx hb dX11_cut_7 rfl hl (by decide) rfl (fun ls hl => ?_)
  refine lv_lload_n hx hb dX11_cut_8 rfl (lv_at hl 1 rfl) ?_
  refine lv_iload_n hx hb dX11_cut_9 rfl (lv_at hl 0 rfl) ?_
  refine lv_lshl hx hb dX11_cut_10 rfl ?_
  refine lv_topl (fun v3 ev3 => ?_)
  refine lv_iload_n hx hb dX11_cut_11 rfl (lv_at hl 0 rfl) ?_
  refine lv_lshr hx hb dX11_cut_12 rfl ?_
  refine lv_topl (fun v4 ev4 => ?_)
  exact retRl hx hb hr hlk hS dX11_cut_13 (trivial)

set_option maxRecDepth 100000 in
set_option maxHeartbeats 8000000 in
theorem sX11_row (l : Launch) (G : va_G) (cs : Nat → ClassId) (h : Nat) (q : Nat → Nat) (F : Nat → Int32) (A : Nat → Nat → Int32) (D : Int64) (B : Nat → Nat → Int64) (hI : IM F A) (a1 : Int32) (a2 : Int32) (a3 : Int32) : ImpI l yX11_row cX11_row 5 (some .int) 2 0 0 G (TY cs) [.ref h, .int a1, .int a2, .int a3] (mS cs h q F A D B) (fun (r : Int32) (u : (Nat → Int32) × (Nat → Int32) × (Nat → Int64)) => AI 31 u.1 ∧ AI 32 u.2.1 ∧ (True)) (fun u : (Nat → Int32) × (Nat → Int32) × (Nat → Int64) => (mS cs h q F (vA (vA A 31 u.1) 32 u.2.1) D (vA B 33 u.2.2))) := by
  refine mkD (Qc := (QDi G (fun (r : Int32) (u : (Nat → Int32) × (Nat → Int32) × (Nat → Int64)) => AI 31 u.1 ∧ AI 32 u.2.1 ∧ (True)) (fun u : (Nat → Int32) × (Nat → Int32) × (Nat → Int64) => (mS cs h q F (vA (vA A 31 u.1) 32 u.2.1) D (vA B 33 u.2.2))))) (by decide) (by simp [lg_sl, Value.category]) ?_
  intro p e s m args below meth c ls A0 hx hb hml hr hlk hown hmn ht hK hP hD hS hA hl
  have hl : lv_has ls 5 [(0, .ref h), (1, .int a1), (2, .int a2), (3, .int a3)] := hl
  refine lv_iload_n hx hb dX11_row_0 rfl (lv_at hl 1 rfl) ?_
  refine behR (runSP (As := [.int a1]) (rest := []) ⟨hx, hb, hml, hown, ht⟩ (sX11_isSlot l G cs a1 ) okS_RX11_290 ⟨by decide, by decide⟩ hK hP [] rfl hl.1 rfl (Nat.le_of_ble_eq_true rfl) dX11_row_1 ⟨by decide, by decide⟩) hP hS hA (fun r1 H locs hr1 hP hS => ?_)
  have hr1 : (r1.toInt = 1 ∧ 0 ≤ a1.toInt ∧ a1.toInt ≤ 3) ∨ r1.toInt = 0 := hr1
  refine lv_if_eq (tgt := 25) hx hb dX11_row_4 (by decide) (fun c2 => ?_) (fun c2 => ?_)
  · have zc2 := eqK rfl (show (0 : Int32).toInt = 0 by decide) c2
    refine lv_bipush (v := (-2)) hx hb dX11_row_25 (by decide) ?_
    exact retDi ((A 31), (A 32), (B 33)) hx hb hr hlk hP hD hS dX11_row_27 (⟨fun j => hI.2 31 j, fun j => hI.2 32 j, trivial⟩) (Nat.le_of_ble_eq_true rfl) (Nat.le_of_ble_eq_true rfl)
  · have zc2 := neK rfl (show (0 : Int32).toInt = 0 by decide) c2
    refine lv_iload_n hx hb dX11_row_7 rfl (lv_at hl 2 rfl) ?_
    refine lv_i2l hx hb dX11_row_8 rfl ?_
    refine lv_topl (fun v3 ev3 => ?_)
    have tv3 : v3.toInt = a2.toInt := by rw [ev3]; exact Int32.toInt_toInt64 _
    refine lv_lconst (v := 0) hx hb dX11_row_9 (by decide) ?_
    refine lv_ldc2 hx hb hown (ht _ kl_RX11_225) dX11_row_10 ?_
    refine behR (runSP (As := [.long v3, .long 0, .long 3]) (rest := []) ⟨hx, hb, hml, hown, ht⟩ (sX11_in l G cs v3 0 3 ) okS_RX11_79 ⟨by decide, by decide⟩ hK hP [] rfl hl.1 rfl (Nat.le_of_ble_eq_true rfl) dX11_row_13 ⟨by decide, by decide⟩) hP hS hA (fun r4 H locs hr4 hP hS => ?_)
    have hr4 : (r4.toInt = 1 ∧ 0 ≤ v3.toInt ∧ v3.toInt ≤ 3) ∨ (r4.toInt = 0 ∧ (v3.toInt < 0 ∨ 3 < v3.toInt)) := hr4
    refine lv_if_eq (tgt := 25) hx hb dX11_row_16 (by decide) (fun c5 => ?_) (fun c5 => ?_)
    · have zc5 := eqK rfl (show (0 : Int32).toInt = 0 by decide) c5
      refine lv_bipush (v := (-2)) hx hb dX11_row_25 (by decide) ?_
      exact retDi ((A 31), (A 32), (B 33)) hx hb hr hlk hP hD hS dX11_row_27 (⟨fun j => hI.2 31 j, fun j => hI.2 32 j, trivial⟩) (Nat.le_of_ble_eq_true rfl) (Nat.le_of_ble_eq_true rfl)
    · have zc5 := neK rfl (show (0 : Int32).toInt = 0 by decide) c5
      refine lv_iload_n hx hb dX11_row_19 rfl (lv_at hl 3 rfl) ?_
      refine lv_bipush (v := 60) hx hb dX11_row_20 (by decide) ?_
      refine lv_icmp_le (tgt := 28) hx hb dX11_row_22 (by decide) (fun c6 => ?_) (fun c6 => ?_)
      · have zc6 := leK rfl (show (60 : Int32).toInt = 60 by decide) c6
        refine lv_iload_n hx hb dX11_row_28 rfl (lv_at hl 3 rfl) ?_
        refine lv_if_ge (tgt := 35) hx hb dX11_row_29 (by decide) (fun c7 => ?_) (fun c7 => ?_)
        · have zc7 := leK (show (0 : Int32).toInt = 0 by decide) rfl c7
          refine lv_aload_n hx hb dX11_row_35 rfl (lv_at hl 0 rfl) ?_
          refine getF (v := .ref (q 31)) hx hb ht hown hK hP iTX11 0 31 rfl rfl (by decide) fl_RX11_61 rfl dX11_row_36 ?_
          refine lv_iload_n hx hb dX11_row_39 rfl (lv_at hl 1 rfl) ?_
          refine lv_iload_n hx hb dX11_row_40 rfl (lv_at hl 3 rfl) ?_
          refine va_iast hx hb hK.1 hP hD hS 16 0 rfl rfl (inK rfl (by omega) (by decide)) dX11_row_41 (fun H locs hP hD hS => ?_)
          have hP : va_P G vwCl (mS cs h q F (vA A 31 (upd (A 31) a1.toNatClampNeg a3)) D B) H := hP
          have hD : va_D A0 (mS cs h q F (vA A 31 (upd (A 31) a1.toNatClampNeg a3)) D B) := hD
          obtain ⟨g8, eg8⟩ : ∃ z : Nat → Int32, z = upd (A 31) a1.toNatClampNeg a3 := ⟨_, rfl⟩
          rw [← eg8] at hP hD
          have hg8 : AI 31 g8 := by rw [eg8]; exact AI_upd (fun j => hI.2 31 j) (show (-1 : Int) ≤ a3.toInt ∧ a3.toInt ≤ 60 by omega)
          refine lv_aload_n hx hb dX11_row_42 rfl (lv_at hl 0 rfl) ?_
          refine getF (v := .ref (q 32)) hx hb ht hown hK hP iTX11 0 32 rfl rfl (by decide) fl_RX11_64 rfl dX11_row_43 ?_
          refine lv_iload_n hx hb dX11_row_46 rfl (lv_at hl 1 rfl) ?_
          refine lv_iload_n hx hb dX11_row_47 rfl (lv_at hl 2 rfl) ?_
          refine va_iast hx hb hK.1 hP hD hS 17 0 rfl rfl (inK rfl (by omega) (by decide)) dX11_row_48 (fun H locs hP hD hS => ?_)
          have hP : va_P G vwCl (mS cs h q F (vA (vA A 31 g8) 32 (upd (A 32) a1.toNatClampNeg a2)) D B) H := hP
          have hD : va_D A0 (mS cs h q F (vA (vA A 31 g8) 32 (upd (A 32) a1.toNatClampNeg a2)) D B) := hD
          obtain ⟨g9, eg9⟩ : ∃ z : Nat → Int32, z = upd (A 32) a1.toNatClampNeg a2 := ⟨_, rfl⟩
          rw [← eg9] at hP hD
          have hg9 : AI 32 g9 := by rw [eg9]; exact AI_upd (fun j => hI.2 32 j) (show (0 : Int) ≤ a2.toInt ∧ a2.toInt ≤ 3 by omega)
          refine lv_iconst (v := 0) hx hb dX11_row_49 (by decide) ?_
          refine lv_istore (lv' := [(4, .int 0), (0, .ref h), (1, .int a1), (2, .int a2), (3, .int a3)]) hx hb dX11_row_50 hl (by decide) rfl (fun ls hl => ?_)
          have B52 : ∀ (n : Nat) (x52_4 : Int32) (a31_52 : (Nat → Int32)) (a32_52 : (Nat → Int32)) (b33_52 : (Nat → Int64)) (H : Heap) (locs : List Loc) (ls : Array Slot), (60 - x52_4.toInt).toNat < n → (0 : Int) ≤ x52_4.toInt ∧ x52_4.toInt ≤ 60 → AI 31 a31_52 → AI 32 a32_52 → va_P G vwCl (mS cs h q F (vA (vA A 31 a31_52) 32 a32_52) D (vA B 33 b33_52)) H → va_D A0 (mS cs h q F (vA (vA A 31 a31_52) 32 a32_52) D (vA B 33 b33_52)) → va_S A0 s.heap H locs → lv_has ls 5 [(0, .ref h), (1, .int a1), (2, .int a2), (3, .int a3), (4, .int x52_4)] → W p l e (rmk 2 0 0) s m args below meth c H locs 0 0 (MQ below ((QDi G (fun (r : Int32) (u : (Nat → Int32) × (Nat → Int32) × (Nat → Int64)) => AI 31 u.1 ∧ AI 32 u.2.1 ∧ (True)) (fun u : (Nat → Int32) × (Nat → Int32) × (Nat → Int64) => (mS cs h q F (vA (vA A 31 u.1) 32 u.2.1) D (vA B 33 u.2.2)))) A0) args s 0 0 A0) (F0 m 52 ls []) := by
            intro n
            induction n with
            | zero => intro x52_4 a31_52 a32_52 b33_52 H locs ls hmeas hx52_4 ha31_52 ha32_52 hP hD hS hl; exact absurd hmeas (Nat.not_lt_zero _)
            | succ n ih52 =>
              intro x52_4 a31_52 a32_52 b33_52 H locs ls hmeas hx52_4 ha31_52 ha32_52 hP hD hS hl
              refine lv_iload hx hb dX11_row_52 (lv_at hl 4 rfl) ?_
              refine lv_bipush (v := 60) hx hb dX11_row_54 (by decide) ?_
              refine lv_icmp_ge (tgt := 78) hx hb dX11_row_56 (by decide) (fun c29001 => ?_) (fun c29001 => ?_)
              · have zc29001 := leK (show (60 : Int32).toInt = 60 by decide) rfl c29001
                refine lv_iconst (v := 0) hx hb dX11_row_78 (by decide) ?_
                exact retDi (a31_52, a32_52, b33_52) hx hb hr hlk hP hD hS dX11_row_79 (⟨ha31_52, ha32_52, trivial⟩) (Nat.le_of_ble_eq_true rfl) (Nat.le_of_ble_eq_true rfl)
              · have zc29001 := nleK (show (60 : Int32).toInt = 60 by decide) rfl c29001
                refine lv_aload_n hx hb dX11_row_59 rfl (lv_at hl 0 rfl) ?_
                refine getF (v := .ref (q 33)) hx hb ht hown hK hP iTX11 0 33 rfl rfl (by decide) fl_RX11_67 rfl dX11_row_60 ?_
                refine lv_bipush (v := 60) hx hb dX11_row_63 (by decide) ?_
                refine lv_iload_n hx hb dX11_row_65 rfl (lv_at hl 1 rfl) ?_
                refine lv_imul hx hb dX11_row_66 ?_
                refine lv_topi (fun v29002 ev29002 => ?_)
                have tv29002 : v29002.toInt = 60 * a1.toInt := by rw [ev29002]; exact mulT (show (60 : Int32).toInt = 60 by decide) rfl (by omega)
                refine lv_iload hx hb dX11_row_67 (lv_at hl 4 rfl) ?_
                refine lv_iadd hx hb dX11_row_69 ?_
                refine lv_topi (fun v29003 ev29003 => ?_)
                have tv29003 : v29003.toInt = v29002.toInt + x52_4.toInt := by rw [ev29003]; exact addT rfl rfl (by omega)
                refine lv_lconst (v := 0) hx hb dX11_row_70 (by decide) ?_
                refine va_last hx hb hK.1 hP hD hS 18 2 rfl rfl (inK rfl (by omega) (by decide)) dX11_row_71 (fun H locs hP hD hS => ?_)
                obtain ⟨g29004, hP, hD⟩ : ∃ g29004 : Nat → Int64, va_P G vwCl (mS cs h q F (vA (vA A 31 a31_52) 32 a32_52) D (vA B 33 g29004)) H ∧ va_D A0 (mS cs h q F (vA (vA A 31 a31_52) 32 a32_52) D (vA B 33 g29004)) := ⟨_, hP, hD⟩
                obtain ⟨v29005, ev29005⟩ : ∃ z : Int32, z = x52_4 + 1 := ⟨_, rfl⟩
                have tv29005 : v29005.toInt = x52_4.toInt + 1 := by rw [ev29005]; exact addT rfl (by decide) (by omega)
                refine lv_iinc (v := v29005) (lv' := [(4, .int v29005), (0, .ref h), (1, .int a1), (2, .int a2), (3, .int a3)]) hx hb dX11_row_72 hl (k := 4) rfl (by rw [ev29005]; rfl) (by decide) rfl (fun ls hl => ?_)
                refine lv_goto (tgt := 52) hx hb dX11_row_75 (by decide) ?_
                exact ih52 v29005 a31_52 a32_52 g29004 H locs ls (by omega) (by omega) ha31_52 ha32_52 hP hD hS (lv_sub hl [1, 2, 3, 4, 0] rfl)
          exact B52 _ 0 g8 g9 (B 33) H locs ls (Nat.lt_succ_self _) (by decide) hg8 hg9 hP hD hS (lv_sub hl [1, 2, 3, 4, 0] rfl)
        · have zc7 := nleK (show (0 : Int32).toInt = 0 by decide) rfl c7
          refine lv_bipush (v := (-3)) hx hb dX11_row_32 (by decide) ?_
          exact retDi ((A 31), (A 32), (B 33)) hx hb hr hlk hP hD hS dX11_row_34 (⟨fun j => hI.2 31 j, fun j => hI.2 32 j, trivial⟩) (Nat.le_of_ble_eq_true rfl) (Nat.le_of_ble_eq_true rfl)
      · have zc6 := nleK rfl (show (60 : Int32).toInt = 60 by decide) c6
        refine lv_bipush (v := (-2)) hx hb dX11_row_25 (by decide) ?_
        exact retDi ((A 31), (A 32), (B 33)) hx hb hr hlk hP hD hS dX11_row_27 (⟨fun j => hI.2 31 j, fun j => hI.2 32 j, trivial⟩) (Nat.le_of_ble_eq_true rfl) (Nat.le_of_ble_eq_true rfl)

set_option maxRecDepth 100000 in
set_option maxHeartbeats 8000000 in
theorem sX11_write (l : Launch) (G : va_G) (cs : Nat → ClassId) (h : Nat) (q : Nat → Nat) (F : Nat → Int32) (A : Nat → Nat → Int32) (D : Int64) (B : Nat → Nat → Int64) (hI : IM F A) (a1 : Int32) (a2 : Int32) (a3 : Int64) : ImpI l yX11_write cX11_write 5 (some .int) 2 0 0 G (TY cs) [.ref h, .int a1, .int a2, .long a3] (mS cs h q F A D B) (fun (r : Int32) (u : (Nat → Int64)) => True) (fun u : (Nat → Int64) => (mS cs h q F A D (vA B 33 u))) := by
  refine mkD (Qc := (QDi G (fun (r : Int32) (u : (Nat → Int64)) => True) (fun u : (Nat → Int64) => (mS cs h q F A D (vA B 33 u))))) (by decide) (by simp [lg_sl, Value.category]) ?_
  intro p e s m args below meth c ls A0 hx hb hml hr hlk hown hmn ht hK hP hD hS hA hl
  have hl : lv_has ls 5 [(0, .ref h), (1, .int a1), (2, .int a2), (3, .long a3)] := hl
  refine lv_iload_n hx hb dX11_write_0 rfl (lv_at hl 1 rfl) ?_
  refine behR (runSP (As := [.int a1]) (rest := []) ⟨hx, hb, hml, hown, ht⟩ (sX11_isSlot l G cs a1 ) okS_RX11_290 ⟨by decide, by decide⟩ hK hP [] rfl hl.1 rfl (Nat.le_of_ble_eq_true rfl) dX11_write_1 ⟨by decide, by decide⟩) hP hS hA (fun r1 H locs hr1 hP hS => ?_)
  have hr1 : (r1.toInt = 1 ∧ 0 ≤ a1.toInt ∧ a1.toInt ≤ 3) ∨ r1.toInt = 0 := hr1
  refine lv_if_ne (tgt := 10) hx hb dX11_write_4 (by decide) (fun c2 => ?_) (fun c2 => ?_)
  · have zc2 := neK rfl (show (0 : Int32).toInt = 0 by decide) c2
    refine lv_aload_n hx hb dX11_write_10 rfl (lv_at hl 0 rfl) ?_
    refine getF (v := .ref (q 31)) hx hb ht hown hK hP iTX11 0 31 rfl rfl (by decide) fl_RX11_61 rfl dX11_write_11 ?_
    refine lv_iload_n hx hb dX11_write_14 rfl (lv_at hl 1 rfl) ?_
    refine va_iald hx hb hK.1 hP 16 0 rfl rfl (inK rfl (by omega) (by decide)) dX11_write_15 ?_
    refine lv_topi (fun v3 ev3 => ?_)
    have zf4 : (-1 : Int) ≤ v3.toInt ∧ v3.toInt ≤ 60 := by rw [ev3]; exact (hI.2 31 _)
    refine lv_iconst (v := (-1)) hx hb dX11_write_16 (by decide) ?_
    refine lv_icmp_ne (tgt := 23) hx hb dX11_write_17 (by decide) (fun c5 => ?_) (fun c5 => ?_)
    · have zc5 := neK rfl (show (-1 : Int32).toInt = (-1) by decide) c5
      refine lv_iload_n hx hb dX11_write_23 rfl (lv_at hl 2 rfl) ?_
      refine lv_i2l hx hb dX11_write_24 rfl ?_
      refine lv_topl (fun v6 ev6 => ?_)
      have tv6 : v6.toInt = a2.toInt := by rw [ev6]; exact Int32.toInt_toInt64 _
      refine lv_lconst (v := 0) hx hb dX11_write_25 (by decide) ?_
      refine lv_aload_n hx hb dX11_write_26 rfl (lv_at hl 0 rfl) ?_
      refine getF (v := .ref (q 31)) hx hb ht hown hK hP iTX11 0 31 rfl rfl (by decide) fl_RX11_61 rfl dX11_write_27 ?_
      refine lv_iload_n hx hb dX11_write_30 rfl (lv_at hl 1 rfl) ?_
      refine va_iald hx hb hK.1 hP 16 0 rfl rfl (inK rfl (by omega) (by decide)) dX11_write_31 ?_
      refine lv_topi (fun v7 ev7 => ?_)
      have zf8 : (-1 : Int) ≤ v7.toInt ∧ v7.toInt ≤ 60 := by rw [ev7]; exact (hI.2 31 _)
      refine lv_iconst (v := 1) hx hb dX11_write_32 (by decide) ?_
      refine lv_isub hx hb dX11_write_33 ?_
      refine lv_topi (fun v9 ev9 => ?_)
      have tv9 : v9.toInt = v7.toInt - 1 := by rw [ev9]; exact subT rfl (show (1 : Int32).toInt = 1 by decide) (by omega)
      refine lv_i2l hx hb dX11_write_34 rfl ?_
      refine lv_topl (fun v10 ev10 => ?_)
      have tv10 : v10.toInt = v9.toInt := by rw [ev10]; exact Int32.toInt_toInt64 _
      refine behR (runSP (As := [.long v6, .long 0, .long v10]) (rest := []) ⟨hx, hb, hml, hown, ht⟩ (sX11_in l G cs v6 0 v10 ) okS_RX11_79 ⟨by decide, by decide⟩ hK hP [] rfl hl.1 rfl (Nat.le_of_ble_eq_true rfl) dX11_write_35 ⟨by decide, by decide⟩) hP hS hA (fun r11 H locs hr11 hP hS => ?_)
      have hr11 : (r11.toInt = 1 ∧ 0 ≤ v6.toInt ∧ v6.toInt ≤ v10.toInt) ∨ (r11.toInt = 0 ∧ (v6.toInt < 0 ∨ v10.toInt < v6.toInt)) := hr11
      refine lv_if_ne (tgt := 44) hx hb dX11_write_38 (by decide) (fun c12 => ?_) (fun c12 => ?_)
      · have zc12 := neK rfl (show (0 : Int32).toInt = 0 by decide) c12
        refine lv_aload_n hx hb dX11_write_44 rfl (lv_at hl 0 rfl) ?_
        refine getF (v := .ref (q 33)) hx hb ht hown hK hP iTX11 0 33 rfl rfl (by decide) fl_RX11_67 rfl dX11_write_45 ?_
        refine lv_bipush (v := 60) hx hb dX11_write_48 (by decide) ?_
        refine lv_iload_n hx hb dX11_write_50 rfl (lv_at hl 1 rfl) ?_
        refine lv_imul hx hb dX11_write_51 ?_
        refine lv_topi (fun v13 ev13 => ?_)
        have tv13 : v13.toInt = 60 * a1.toInt := by rw [ev13]; exact mulT (show (60 : Int32).toInt = 60 by decide) rfl (by omega)
        refine lv_iload_n hx hb dX11_write_52 rfl (lv_at hl 2 rfl) ?_
        refine lv_iadd hx hb dX11_write_53 ?_
        refine lv_topi (fun v14 ev14 => ?_)
        have tv14 : v14.toInt = v13.toInt + a2.toInt := by rw [ev14]; exact addT rfl rfl (by omega)
        refine lv_lload_n hx hb dX11_write_54 rfl (lv_at hl 3 rfl) ?_
        refine lv_aload_n hx hb dX11_write_55 rfl (lv_at hl 0 rfl) ?_
        refine getF (v := .ref (q 32)) hx hb ht hown hK hP iTX11 0 32 rfl rfl (by decide) fl_RX11_64 rfl dX11_write_56 ?_
        refine lv_iload_n hx hb dX11_write_59 rfl (lv_at hl 1 rfl) ?_
        refine va_iald hx hb hK.1 hP 17 0 rfl rfl (inK rfl (by omega) (by decide)) dX11_write_60 ?_
        refine lv_topi (fun v15 ev15 => ?_)
        have zf16 : (0 : Int) ≤ v15.toInt ∧ v15.toInt ≤ 3 := by rw [ev15]; exact (hI.2 32 _)
        refine behRL (runSP (As := [.long a3, .int v15]) (rest := [.int v14, .ref (q 33)]) ⟨hx, hb, hml, hown, ht⟩ (sX11_cut l G cs a3 v15 ) okS_RX11_458 ⟨by decide, by decide⟩ hK hP [] rfl hl.1 rfl (Nat.le_of_ble_eq_true rfl) dX11_write_61 ⟨by decide, by decide⟩) hP hS hA (fun r17 H locs hr17 hP hS => ?_)
        refine va_last hx hb hK.1 hP hD hS 18 2 rfl rfl (inK rfl (by omega) (by decide)) dX11_write_64 (fun H locs hP hD hS => ?_)
        obtain ⟨g18, hP, hD⟩ : ∃ g18 : Nat → Int64, va_P G vwCl (mS cs h q F A D (vA B 33 g18)) H ∧ va_D A0 (mS cs h q F A D (vA B 33 g18)) := ⟨_, hP, hD⟩
        refine lv_iconst (v := 0) hx hb dX11_write_65 (by decide) ?_
        exact retDi g18 hx hb hr hlk hP hD hS dX11_write_66 (trivial) (Nat.le_of_ble_eq_true rfl) (Nat.le_of_ble_eq_true rfl)
      · have zc12 := eqK rfl (show (0 : Int32).toInt = 0 by decide) c12
        refine lv_bipush (v := (-7)) hx hb dX11_write_41 (by decide) ?_
        exact retDi (B 33) hx hb hr hlk hP hD hS dX11_write_43 (trivial) (Nat.le_of_ble_eq_true rfl) (Nat.le_of_ble_eq_true rfl)
    · have zc5 := eqK rfl (show (-1 : Int32).toInt = (-1) by decide) c5
      refine lv_bipush (v := (-6)) hx hb dX11_write_20 (by decide) ?_
      exact retDi (B 33) hx hb hr hlk hP hD hS dX11_write_22 (trivial) (Nat.le_of_ble_eq_true rfl) (Nat.le_of_ble_eq_true rfl)
  · have zc2 := eqK rfl (show (0 : Int32).toInt = 0 by decide) c2
    refine lv_bipush (v := (-2)) hx hb dX11_write_7 (by decide) ?_
    exact retDi (B 33) hx hb hr hlk hP hD hS dX11_write_9 (trivial) (Nat.le_of_ble_eq_true rfl) (Nat.le_of_ble_eq_true rfl)

