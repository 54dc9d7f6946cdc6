set_option maxRecDepth 100000 in
set_option maxHeartbeats 8000000 in
theorem sX11_in (l : Launch) (G : va_G) (cs : Nat → ClassId) (a1 : Int64) (a2 : Int64) (a3 : Int64) : SafeR l yX11_in cX11_in 6 (some .boolean) 0 G (TY cs) [.long a1, .long a2, .long a3] [] (fun r : Int32 => (r.toInt = 1 ∧ a2.toInt ≤ a1.toInt ∧ a1.toInt ≤ a3.toInt) ∨ (r.toInt = 0 ∧ (a1.toInt < a2.toInt ∨ a3.toInt < a1.toInt))) := by
  refine mkP (Qc := QRi (fun r : Int32 => (r.toInt = 1 ∧ a2.toInt ≤ a1.toInt ∧ a1.toInt ≤ a3.toInt) ∨ (r.toInt = 0 ∧ (a1.toInt < a2.toInt ∨ a3.toInt < a1.toInt)))) (by decide) (by simp [lg_sl, Value.category]) ?_
  intro p e s m args below meth c ls hx hb hml hr hlk hown ht hK hP hS hl
  have hl : lv_has ls 6 [(0, .long a1), (2, .long a2), (4, .long a3)] := hl
  refine lv_lload_n hx hb dX11_in_0 rfl (lv_at hl 0 rfl) ?_
  refine lv_lload_n hx hb dX11_in_1 rfl (lv_at hl 1 rfl) ?_
  refine W.lcmp hx hb dX11_in_2 ?_
  refine lv_topi (fun v1 ev1 => ?_)
  refine lv_if_lt (tgt := 17) hx hb dX11_in_3 (by decide) (fun c2 => ?_) (fun c2 => ?_)
  · have zc2 := ltK rfl (show (0 : Int32).toInt = 0 by decide) c2
    have yc2 := cmpLT rfl rfl ev1 (by omega)
    refine lv_iconst (v := 0) hx hb dX11_in_17 (by decide) ?_
    exact retRz hx hb hr hlk hS dX11_in_18 (rfl) (show ((0 : Int32).toInt = 1 ∧ a2.toInt ≤ a1.toInt ∧ a1.toInt ≤ a3.toInt) ∨ ((0 : Int32).toInt = 0 ∧ (a1.toInt < a2.toInt ∨ a3.toInt < a1.toInt)) by have kk : (0 : Int32).toInt = 0 := (by decide); omega)
  · have zc2 := nltK rfl (show (0 : Int32).toInt = 0 by decide) c2
    have yc2 := cmpLTn rfl rfl ev1 (by omega)
    refine lv_lload_n hx hb dX11_in_6 rfl (lv_at hl 0 rfl) ?_
    refine lv_lload hx hb dX11_in_7 (lv_at hl 2 rfl) ?_
    refine W.lcmp hx hb dX11_in_9 ?_
    refine lv_topi (fun v3 ev3 => ?_)
    refine lv_if_gt (tgt := 17) hx hb dX11_in_10 (by decide) (fun c4 => ?_) (fun c4 => ?_)
    · have zc4 := ltK (show (0 : Int32).toInt = 0 by decide) rfl c4
      have yc4 := cmpGT rfl rfl ev3 (by omega)
      refine lv_iconst (v := 0) hx hb dX11_in_17 (by decide) ?_
      exact retRz hx hb hr hlk hS dX11_in_18 (rfl) (show ((0 : Int32).toInt = 1 ∧ a2.toInt ≤ a1.toInt ∧ a1.toInt ≤ a3.toInt) ∨ ((0 : Int32).toInt = 0 ∧ (a1.toInt < a2.toInt ∨ a3.toInt < a1.toInt)) by have kk : (0 : Int32).toInt = 0 := (by decide); omega)
    · have zc4 := nltK (show (0 : Int32).toInt = 0 by decide) rfl c4
      have yc4 := cmpGTn rfl rfl ev3 (by omega)
      refine lv_iconst (v := 1) hx hb dX11_in_13 (by decide) ?_
      refine lv_goto (tgt := 18) hx hb dX11_in_14 (by decide) ?_
      exact retRz hx hb hr hlk hS dX11_in_18 (rfl) (show ((1 : Int32).toInt = 1 ∧ a2.toInt ≤ a1.toInt ∧ a1.toInt ≤ a3.toInt) ∨ ((1 : Int32).toInt = 0 ∧ (a1.toInt < a2.toInt ∨ a3.toInt < a1.toInt)) by have kk : (1 : Int32).toInt = 1 := (by decide); omega)

set_option maxRecDepth 100000 in
set_option maxHeartbeats 8000000 in
theorem sX11_bits (l : Launch) (G : va_G) (cs : Nat → ClassId) (a1 : Int32) : SafeR l yX11_bits cX11_bits 3 (some .int) 0 G (TY cs) [.int a1] [] (fun r : Int32 => True) := by
  refine mkP (Qc := QRi (fun r : Int32 => True)) (by decide) (by simp [lg_sl, Value.category]) ?_
  intro p e s m args below meth c ls hx hb hml hr hlk hown ht hK hP hS hl
  have hl : lv_has ls 3 [(0, .int a1)] := hl
  refine lv_iconst (v := 0) hx hb dX11_bits_0 (by decide) ?_
  refine lv_istore_n (lv' := [(1, .int 0), (0, .int a1)]) hx hb dX11_bits_1 rfl hl (by decide) rfl (fun ls hl => ?_)
  refine lv_iconst (v := 0) hx hb dX11_bits_2 (by decide) ?_
  refine lv_istore_n (lv' := [(2, .int 0), (1, .int 0), (0, .int a1)]) hx hb dX11_bits_3 rfl hl (by decide) rfl (fun ls hl => ?_)
  have B4 : ∀ (n : Nat) (x4_1 : Int32) (x4_2 : Int32) (H : Heap) (locs : List Loc) (ls : Array Slot), (8 - x4_2.toInt).toNat < n → (0 : Int) ≤ x4_2.toInt ∧ x4_2.toInt ≤ 8 → va_P G vwCl [] H → va_S (fun q => s.heap.size ≤ q) s.heap H locs → lv_has ls 3 [(0, .int a1), (1, .int x4_1), (2, .int x4_2)] → W p l e (rmk 0 0 0) s m args below meth c H locs 0 0 (MQ below (QRi (fun r : Int32 => True) s.heap.size) args s 0 0 (fun q => s.heap.size ≤ q)) (F0 m 4 ls []) := by
    intro n
    induction n with
    | zero => intro x4_1 x4_2 H locs ls hmeas hx4_2 hP hS hl; exact absurd hmeas (Nat.not_lt_zero _)
    | succ n ih4 =>
      intro x4_1 x4_2 H locs ls hmeas hx4_2 hP hS hl
      refine lv_iload_n hx hb dX11_bits_4 rfl (lv_at hl 2 rfl) ?_
      refine lv_bipush (v := 8) hx hb dX11_bits_5 (by decide) ?_
      refine lv_icmp_ge (tgt := 24) hx hb dX11_bits_7 (by decide) (fun c5001 => ?_) (fun c5001 => ?_)
      · have zc5001 := leK (show (8 : Int32).toInt = 8 by decide) rfl c5001
        refine lv_iload_n hx hb dX11_bits_24 rfl (lv_at hl 1 rfl) ?_
        exact retRi hx hb hr hlk hS dX11_bits_25 (trivial)
      · have zc5001 := nleK (show (8 : Int32).toInt = 8 by decide) rfl c5001
        refine lv_iload_n hx hb dX11_bits_10 rfl (lv_at hl 1 rfl) ?_
        refine lv_iload_n hx hb dX11_bits_11 rfl (lv_at hl 0 rfl) ?_
        refine lv_iload_n hx hb dX11_bits_12 rfl (lv_at hl 2 rfl) ?_
        refine lv_ishr hx hb dX11_bits_13 ?_
        refine lv_topi (fun v5002 ev5002 => ?_)
        refine lv_iconst (v := 1) hx hb dX11_bits_14 (by decide) ?_
        refine lv_iand hx hb dX11_bits_15 ?_
        refine lv_topi (fun v5003 ev5003 => ?_)
        have tv5003 : 0 ≤ v5003.toInt ∧ v5003.toInt ≤ 1 := by rw [ev5003]; exact andT 1 (by decide) (by decide) (by decide)
        refine lv_iadd hx hb dX11_bits_16 ?_
        refine lv_topi (fun v5004 ev5004 => ?_)
        refine lv_istore_n (lv' := [(1, .int v5004), (0, .int a1), (2, .int x4_2)]) hx hb dX11_bits_17 rfl hl (by decide) rfl (fun ls hl => ?_)
        obtain ⟨v5005, ev5005⟩ : ∃ z : Int32, z = x4_2 + 1 := ⟨_, rfl⟩
        have tv5005 : v5005.toInt = x4_2.toInt + 1 := by rw [ev5005]; exact addT rfl (by decide) (by omega)
        refine lv_iinc (v := v5005) (lv' := [(2, .int v5005), (1, .int v5004), (0, .int a1)]) hx hb dX11_bits_18 hl (k := 2) rfl (by rw [ev5005]; rfl) (by decide) rfl (fun ls hl => ?_)
        refine lv_goto (tgt := 4) hx hb dX11_bits_21 (by decide) ?_
        exact ih4 v5004 v5005 H locs ls (by omega) (by omega) hP hS (lv_sub hl [2, 1, 0] rfl)
  exact B4 _ 0 0 s.heap [] ls (Nat.lt_succ_self _) (by decide) hP hS (lv_sub hl [2, 1, 0] rfl)

set_option maxRecDepth 100000 in
set_option maxHeartbeats 8000000 in
theorem sX11_bit (l : Launch) (G : va_G) (cs : Nat → ClassId) (a1 : Int32) (a2 : Int32) : SafeR l yX11_bit cX11_bit 2 (some .int) 0 G (TY cs) [.int a1, .int a2] [] (fun r : Int32 => r = bitE a1 a2 ∧ (0 : Int) ≤ r.toInt ∧ r.toInt ≤ 1) := by
  refine mkP (Qc := QRi (fun r : Int32 => r = bitE a1 a2 ∧ (0 : Int) ≤ r.toInt ∧ r.toInt ≤ 1)) (by decide) (by simp [lg_sl, Value.category]) ?_
  intro p e s m args below meth c ls hx hb hml hr hlk hown ht hK hP hS hl
  have hl : lv_has ls 2 [(0, .int a1), (1, .int a2)] := hl
  refine lv_iload_n hx hb dX11_bit_0 rfl (lv_at hl 0 rfl) ?_
  refine lv_iload_n hx hb dX11_bit_1 rfl (lv_at hl 1 rfl) ?_
  refine lv_ishr hx hb dX11_bit_2 ?_
  refine lv_topi (fun v1 ev1 => ?_)
  refine lv_iconst (v := 1) hx hb dX11_bit_3 (by decide) ?_
  refine lv_iand hx hb dX11_bit_4 ?_
  refine lv_topi (fun v2 ev2 => ?_)
  have tv2 : 0 ≤ v2.toInt ∧ v2.toInt ≤ 1 := by rw [ev2]; exact andT 1 (by decide) (by decide) (by decide)
  exact retRi hx hb hr hlk hS dX11_bit_5 (⟨by rw [ev2, ev1] <;> rfl, by omega⟩)

set_option maxRecDepth 100000 in
set_option maxHeartbeats 8000000 in
theorem sX11_image (l : Launch) (G : va_G) (cs : Nat → ClassId) (h : Nat) (q : Nat → Nat) (F : Nat → Int32) (A : Nat → Nat → Int32) (D : Int64) (B : Nat → Nat → Int64) (hI : IM F A) (a1 : Int32) (hWG : WG (A 1)) (hWI : ∀ k : Nat, k < 3 → WG (im (A 2) k)) : ImpI l yX11_image cX11_image 3 (some .int) 1 0 0 G (TY cs) [.ref h, .int a1] (mS cs h q F A D B) (fun (r : Int32) (u : (Nat → Int32) × (Nat → Int32)) => AI 2 u.1 ∧ AI 3 u.2 ∧ ((∀ k : Nat, k < 3 → WG (im u.1 k)) ∧ ((r.toInt = -2 ∧ (a1.toInt < 0 ∨ 2 < a1.toInt) ∧ u.2 = (A 3)) ∨ (r.toInt = 0 ∧ 0 ≤ a1.toInt ∧ a1.toInt ≤ 2 ∧ u.2 = upd (A 3) a1.toNatClampNeg 1)))) (fun u : (Nat → Int32) × (Nat → Int32) => (mS cs h q F (vA (vA A 2 u.1) 3 u.2) D B)) := by
  refine mkD (Qc := (QDi G (fun (r : Int32) (u : (Nat → Int32) × (Nat → Int32)) => AI 2 u.1 ∧ AI 3 u.2 ∧ ((∀ k : Nat, k < 3 → WG (im u.1 k)) ∧ ((r.toInt = -2 ∧ (a1.toInt < 0 ∨ 2 < a1.toInt) ∧ u.2 = (A 3)) ∨ (r.toInt = 0 ∧ 0 ≤ a1.toInt ∧ a1.toInt ≤ 2 ∧ u.2 = upd (A 3) a1.toNatClampNeg 1)))) (fun u : (Nat → Int32) × (Nat → Int32) => (mS cs h q F (vA (vA A 2 u.1) 3 u.2) D B)))) (by decide) (by simp [lg_sl, Value.category]) ?_
  intro p e s m args below meth c ls A0 hx hb hml hr hlk hown hmn ht hK hP hD hS hA hl
  have hl : lv_has ls 3 [(0, .ref h), (1, .int a1)] := hl
  refine lv_iload_n hx hb dX11_image_0 rfl (lv_at hl 1 rfl) ?_
  refine lv_i2l hx hb dX11_image_1 rfl ?_
  have bb1 := i32b a1
  refine lv_topl (fun v2 ev2 => ?_)
  have tv2 : v2.toInt = a1.toInt := by rw [ev2]; exact Int32.toInt_toInt64 _
  refine lv_lconst (v := 0) hx hb dX11_image_2 (by decide) ?_
  refine lv_ldc2 hx hb hown (ht _ kl_RX11_77) dX11_image_3 ?_
  refine behR (runSP (As := [.long v2, .long 0, .long 2]) (rest := []) ⟨hx, hb, hml, hown, ht⟩ (sX11_in l G cs v2 0 2 ) okS_RX11_79 ⟨by decide, by decide⟩ hK hP [] rfl hl.1 rfl (Nat.le_of_ble_eq_true rfl) dX11_image_6 ⟨by decide, by decide⟩) hP hS hA (fun r3 H locs hr3 hP hS => ?_)
  have kk4 : (0 : Int64).toInt = 0 := by decide
  have kk5 : (2 : Int64).toInt = 2 := by decide
  have hr3 : (r3.toInt = 1 ∧ (0 : Int64).toInt ≤ v2.toInt ∧ v2.toInt ≤ (2 : Int64).toInt) ∨ (r3.toInt = 0 ∧ (v2.toInt < (0 : Int64).toInt ∨ (2 : Int64).toInt < v2.toInt)) := hr3
  refine lv_if_ne (tgt := 15) hx hb dX11_image_9 (by decide) (fun c6 => ?_) (fun c6 => ?_)
  · have zc6 := neK rfl (show (0 : Int32).toInt = 0 by decide) c6
    refine lv_iconst (v := 0) hx hb dX11_image_15 (by decide) ?_
    refine lv_istore_n (lv' := [(2, .int 0), (0, .ref h), (1, .int a1)]) hx hb dX11_image_16 rfl hl (by decide) rfl (fun ls hl => ?_)
    have B17 : ∀ (n : Nat) (x17_2 : Int32) (a2_17 : (Nat → Int32)) (H : Heap) (locs : List Loc) (ls : Array Slot), (144 - x17_2.toInt).toNat < n → (0 : Int) ≤ x17_2.toInt ∧ x17_2.toInt ≤ 144 → AI 2 a2_17 → (IMG (A 1) (A 2) a2_17 a1.toNatClampNeg x17_2.toInt) → va_P G vwCl (mS cs h q F (vA A 2 a2_17) D B) H → va_D A0 (mS cs h q F (vA A 2 a2_17) D B) → va_S A0 s.heap H locs → lv_has ls 3 [(0, .ref h), (1, .int a1), (2, .int x17_2)] → W p l e (rmk 1 0 0) s m args below meth c H locs 0 0 (MQ below ((QDi G (fun (r : Int32) (u : (Nat → Int32) × (Nat → Int32)) => AI 2 u.1 ∧ AI 3 u.2 ∧ ((∀ k : Nat, k < 3 → WG (im u.1 k)) ∧ ((r.toInt = -2 ∧ (a1.toInt < 0 ∨ 2 < a1.toInt) ∧ u.2 = (A 3)) ∨ (r.toInt = 0 ∧ 0 ≤ a1.toInt ∧ a1.toInt ≤ 2 ∧ u.2 = upd (A 3) a1.toNatClampNeg 1)))) (fun u : (Nat → Int32) × (Nat → Int32) => (mS cs h q F (vA (vA A 2 u.1) 3 u.2) D B))) A0) args s 0 0 A0) (F0 m 17 ls []) := by
      intro n
      induction n with
      | zero => intro x17_2 a2_17 H locs ls hmeas hx17_2 ha2_17 hig hP hD hS hl; exact absurd hmeas (Nat.not_lt_zero _)
      | succ n ih17 =>
        intro x17_2 a2_17 H locs ls hmeas hx17_2 ha2_17 hig hP hD hS hl
        refine lv_iload_n hx hb dX11_image_17 rfl (lv_at hl 2 rfl) ?_
        refine lv_sipush (v := 144) hx hb dX11_image_18 (by decide) ?_
        refine lv_icmp_ge (tgt := 48) hx hb dX11_image_21 (by decide) (fun c11001 => ?_) (fun c11001 => ?_)
        · have zc11001 := leK (show (144 : Int32).toInt = 144 by decide) rfl c11001
          refine lv_aload_n hx hb dX11_image_48 rfl (lv_at hl 0 rfl) ?_
          refine getF (v := .ref (q 3)) hx hb ht hown hK hP iTX11 0 3 rfl rfl (by decide) fl_RX11_16 rfl dX11_image_49 ?_
          refine lv_iload_n hx hb dX11_image_52 rfl (lv_at hl 1 rfl) ?_
          refine lv_iconst (v := 1) hx hb dX11_image_53 (by decide) ?_
          refine va_zast hx hb hK.1 hP hD hS 3 3 rfl rfl (inK rfl (by omega) (by decide)) dX11_image_54 (fun H locs hP hD hS => ?_)
          have hP : va_P G vwCl (mS cs h q F (vA (vA A 2 a2_17) 3 (upd (A 3) a1.toNatClampNeg (vp_nar .boolean (1 : Int32)))) D B) H := hP
          have hD : va_D A0 (mS cs h q F (vA (vA A 2 a2_17) 3 (upd (A 3) a1.toNatClampNeg (vp_nar .boolean (1 : Int32)))) D B) := hD
          obtain ⟨g11002, eg11002⟩ : ∃ z : Nat → Int32, z = upd (A 3) a1.toNatClampNeg (vp_nar .boolean (1 : Int32)) := ⟨_, rfl⟩
          rw [← eg11002] at hP hD
          have hg11002 : AI 3 g11002 := by rw [eg11002]; exact AI_upd (fun j => hI.2 3 j) (show (0 : Int) ≤ (vp_nar .boolean (1 : Int32)).toInt ∧ (vp_nar .boolean (1 : Int32)).toInt ≤ 1 by decide)
          refine lv_iconst (v := 0) hx hb dX11_image_55 (by decide) ?_
          exact retDi (a2_17, g11002) hx hb hr hlk hP hD hS dX11_image_56 (⟨ha2_17, hg11002, ⟨IMGw hig (by omega) (fun j => hI.2 1 j) (fun j => hI.2 2 j) hWG hWI, Or.inr ⟨by decide, by omega, by omega, eg11002⟩⟩⟩) (Nat.le_of_ble_eq_true rfl) (Nat.le_of_ble_eq_true rfl)
        · have zc11001 := nleK (show (144 : Int32).toInt = 144 by decide) rfl c11001
          refine lv_aload_n hx hb dX11_image_24 rfl (lv_at hl 0 rfl) ?_
          refine getF (v := .ref (q 2)) hx hb ht hown hK hP iTX11 0 2 rfl rfl (by decide) fl_RX11_13 rfl dX11_image_25 ?_
          refine lv_sipush (v := 144) hx hb dX11_image_28 (by decide) ?_
          refine lv_iload_n hx hb dX11_image_31 rfl (lv_at hl 1 rfl) ?_
          refine lv_imul hx hb dX11_image_32 ?_
          refine lv_topi (fun v11003 ev11003 => ?_)
          have tv11003 : v11003.toInt = 144 * a1.toInt := by rw [ev11003]; exact mulT (show (144 : Int32).toInt = 144 by decide) rfl (by omega)
          refine lv_iload_n hx hb dX11_image_33 rfl (lv_at hl 2 rfl) ?_
          refine lv_iadd hx hb dX11_image_34 ?_
          refine lv_topi (fun v11004 ev11004 => ?_)
          have tv11004 : v11004.toInt = v11003.toInt + x17_2.toInt := by rw [ev11004]; exact addT rfl rfl (by omega)
          refine lv_aload_n hx hb dX11_image_35 rfl (lv_at hl 0 rfl) ?_
          refine getF (v := .ref (q 1)) hx hb ht hown hK hP iTX11 0 1 rfl rfl (by decide) fl_RX11_9 rfl dX11_image_36 ?_
          refine lv_iload_n hx hb dX11_image_39 rfl (lv_at hl 2 rfl) ?_
          refine va_iald hx hb hK.1 hP 1 0 rfl rfl (inK rfl (by omega) (by decide)) dX11_image_40 ?_
          refine lv_topi (fun v11005 ev11005 => ?_)
          have ev11005 : v11005 = (A 1) x17_2.toNatClampNeg := ev11005
          refine va_iast hx hb hK.1 hP hD hS 2 0 rfl rfl (inK rfl (by omega) (by decide)) dX11_image_41 (fun H locs hP hD hS => ?_)
          have hP : va_P G vwCl (mS cs h q F (vA A 2 (upd a2_17 v11004.toNatClampNeg v11005)) D B) H := hP
          have hD : va_D A0 (mS cs h q F (vA A 2 (upd a2_17 v11004.toNatClampNeg v11005)) D B) := hD
          obtain ⟨g11006, eg11006⟩ : ∃ z : Nat → Int32, z = upd a2_17 v11004.toNatClampNeg v11005 := ⟨_, rfl⟩
          rw [← eg11006] at hP hD
          have hg11006 : AI 2 g11006 := by rw [eg11006]; exact AI_upd (fun j => ha2_17 j) (by rw [ev11005]; exact cp_im (fun j => (hI.2 1 j)) (k := a1.toNatClampNeg) (by have y1 := clK (i := v11004) rfl (by omega); have y2 := clK (i := a1) rfl (by omega); have y3 := clK (i := x17_2) rfl (by omega); omega) (by have y1 := clK (i := x17_2) rfl (by omega); omega))
          obtain ⟨v11007, ev11007⟩ : ∃ z : Int32, z = x17_2 + 1 := ⟨_, rfl⟩
          have tv11007 : v11007.toInt = x17_2.toInt + 1 := by rw [ev11007]; exact addT rfl (by decide) (by omega)
          refine lv_iinc (v := v11007) (lv' := [(2, .int v11007), (0, .ref h), (1, .int a1)]) hx hb dX11_image_42 hl (k := 2) rfl (by rw [ev11007]; rfl) (by decide) rfl (fun ls hl => ?_)
          refine lv_goto (tgt := 17) hx hb dX11_image_45 (by decide) ?_
          exact ih17 v11007 g11006 H locs ls (by omega) (by omega) hg11006 (IMGs hig eg11006 (i := x17_2.toNatClampNeg) (by have y1 := clK (i := v11004) rfl (by omega); have y2 := clK (i := a1) rfl (by omega); have y3 := clK (i := x17_2) rfl (by omega); omega) ev11005 (clK rfl (by omega)) (by have y3 := clK (i := x17_2) rfl (by omega); omega) tv11007) hP hD hS (lv_sub hl [1, 2, 0] rfl)
    exact B17 _ 0 (A 2) H locs ls (Nat.lt_succ_self _) (by decide) (fun j => hI.2 2 j) (IMG0 (by decide)) hP hD hS (lv_sub hl [1, 2, 0] rfl)
  · have zc6 := eqK rfl (show (0 : Int32).toInt = 0 by decide) c6
    refine lv_bipush (v := (-2)) hx hb dX11_image_12 (by decide) ?_
    exact retDi ((A 2), (A 3)) hx hb hr hlk hP hD hS dX11_image_14 (⟨fun j => hI.2 2 j, fun j => hI.2 3 j, ⟨hWI, Or.inl ⟨by decide, by omega, rfl⟩⟩⟩) (Nat.le_of_ble_eq_true rfl) (Nat.le_of_ble_eq_true rfl)

set_option maxRecDepth 100000 in
set_option maxHeartbeats 8000000 in
theorem sX11_back (l : Launch) (G : va_G) (cs : Nat → ClassId) (h : Nat) (q : Nat → Nat) (F : Nat → Int32) (A : Nat → Nat → Int32) (D : Int64) (B : Nat → Nat → Int64) (hI : IM F A) (a1 : Int32) (hWG : WG (A 1)) (hWI : ∀ k : Nat, k < 3 → WG (im (A 2) k)) : ImpI l yX11_back cX11_back 3 (some .int) 1 0 0 G (TY cs) [.ref h, .int a1] (mS cs h q F A D B) (fun (r : Int32) (u : (Nat → Int32)) => AI 1 u ∧ (WG u ∧ ((r.toInt = -2 ∧ (a1.toInt < 0 ∨ 2 < a1.toInt)) ∨ (0 ≤ a1.toInt ∧ a1.toInt ≤ 2 ∧ ((A 3) a1.toNatClampNeg).toInt = 0 ∧ r.toInt = -6) ∨ (0 ≤ a1.toInt ∧ a1.toInt ≤ 2 ∧ ¬ ((A 3) a1.toNatClampNeg).toInt = 0 ∧ r.toInt = 0)))) (fun u : (Nat → Int32) => (mS cs h q F (vA A 1 u) D B)) := by
  refine mkD (Qc := (QDi G (fun (r : Int32) (u : (Nat → Int32)) => AI 1 u ∧ (WG u ∧ ((r.toInt = -2 ∧ (a1.toInt < 0 ∨ 2 < a1.toInt)) ∨ (0 ≤ a1.toInt ∧ a1.toInt ≤ 2 ∧ ((A 3) a1.toNatClampNeg).toInt = 0 ∧ r.toInt = -6) ∨ (0 ≤ a1.toInt ∧ a1.toInt ≤ 2 ∧ ¬ ((A 3) a1.toNatClampNeg).toInt = 0 ∧ r.toInt = 0)))) (fun u : (Nat → Int32) => (mS cs h q F (vA A 1 u) D B)))) (by decide) (by simp [lg_sl, Value.category]) ?_
  intro p e s m args below meth c ls A0 hx hb hml hr hlk hown hmn ht hK hP hD hS hA hl
  have hl : lv_has ls 3 [(0, .ref h), (1, .int a1)] := hl
  refine lv_iload_n hx hb dX11_back_0 rfl (lv_at hl 1 rfl) ?_
  refine lv_i2l hx hb dX11_back_1 rfl ?_
  have bb1 := i32b a1
  refine lv_topl (fun v2 ev2 => ?_)
  have tv2 : v2.toInt = a1.toInt := by rw [ev2]; exact Int32.toInt_toInt64 _
  refine lv_lconst (v := 0) hx hb dX11_back_2 (by decide) ?_
  refine lv_ldc2 hx hb hown (ht _ kl_RX11_77) dX11_back_3 ?_
  refine behR (runSP (As := [.long v2, .long 0, .long 2]) (rest := []) ⟨hx, hb, hml, hown, ht⟩ (sX11_in l G cs v2 0 2 ) okS_RX11_79 ⟨by decide, by decide⟩ hK hP [] rfl hl.1 rfl (Nat.le_of_ble_eq_true rfl) dX11_back_6 ⟨by decide, by decide⟩) hP hS hA (fun r3 H locs hr3 hP hS => ?_)
  have kk4 : (0 : Int64).toInt = 0 := by decide
  have kk5 : (2 : Int64).toInt = 2 := by decide
  have hr3 : (r3.toInt = 1 ∧ (0 : Int64).toInt ≤ v2.toInt ∧ v2.toInt ≤ (2 : Int64).toInt) ∨ (r3.toInt = 0 ∧ (v2.toInt < (0 : Int64).toInt ∨ (2 : Int64).toInt < v2.toInt)) := hr3
  refine lv_if_ne (tgt := 15) hx hb dX11_back_9 (by decide) (fun c6 => ?_) (fun c6 => ?_)
  · have zc6 := neK rfl (show (0 : Int32).toInt = 0 by decide) c6
    refine lv_aload_n hx hb dX11_back_15 rfl (lv_at hl 0 rfl) ?_
    refine getF (v := .ref (q 3)) hx hb ht hown hK hP iTX11 0 3 rfl rfl (by decide) fl_RX11_16 rfl dX11_back_16 ?_
    refine lv_iload_n hx hb dX11_back_19 rfl (lv_at hl 1 rfl) ?_
    refine va_zald hx hb hK.1 hP 3 3 rfl rfl (inK rfl (by omega) (by decide)) dX11_back_20 ?_
    refine lv_topi (fun v7 ev7 => ?_)
    have ev7 : v7 = (A 3) a1.toNatClampNeg := ev7
    have zf8 : (0 : Int) ≤ v7.toInt ∧ v7.toInt ≤ 1 := by rw [ev7]; exact (hI.2 3 _)
    have nv7 : v7.toInt = (A 3 a1.toNatClampNeg).toInt := congrArg Int32.toInt ev7
    refine lv_if_ne (tgt := 27) hx hb dX11_back_21 (by decide) (fun c9 => ?_) (fun c9 => ?_)
    · have zc9 := neK rfl (show (0 : Int32).toInt = 0 by decide) c9
      refine lv_iconst (v := 0) hx hb dX11_back_27 (by decide) ?_
      refine lv_istore_n (lv' := [(2, .int 0), (0, .ref h), (1, .int a1)]) hx hb dX11_back_28 rfl hl (by decide) rfl (fun ls hl => ?_)
      have B29 : ∀ (n : Nat) (x29_2 : Int32) (a1_29 : (Nat → Int32)) (H : Heap) (locs : List Loc) (ls : Array Slot), (144 - x29_2.toInt).toNat < n → (0 : Int) ≤ x29_2.toInt ∧ x29_2.toInt ≤ 144 → AI 1 a1_29 → (CPY (im (A 2) a1.toNatClampNeg) a1_29 x29_2.toInt) → va_P G vwCl (mS cs h q F (vA A 1 a1_29) D B) H → va_D A0 (mS cs h q F (vA A 1 a1_29) D B) → va_S A0 s.heap H locs → lv_has ls 3 [(0, .ref h), (1, .int a1), (2, .int x29_2)] → W p l e (rmk 1 0 0) s m args below meth c H locs 0 0 (MQ below ((QDi G (fun (r : Int32) (u : (Nat → Int32)) => AI 1 u ∧ (WG u ∧ ((r.toInt = -2 ∧ (a1.toInt < 0 ∨ 2 < a1.toInt)) ∨ (0 ≤ a1.toInt ∧ a1.toInt ≤ 2 ∧ ((A 3) a1.toNatClampNeg).toInt = 0 ∧ r.toInt = -6) ∨ (0 ≤ a1.toInt ∧ a1.toInt ≤ 2 ∧ ¬ ((A 3) a1.toNatClampNeg).toInt = 0 ∧ r.toInt = 0)))) (fun u : (Nat → Int32) => (mS cs h q F (vA A 1 u) D B))) A0) args s 0 0 A0) (F0 m 29 ls []) := by
        intro n
        induction n with
        | zero => intro x29_2 a1_29 H locs ls hmeas hx29_2 ha1_29 hcp hP hD hS hl; exact absurd hmeas (Nat.not_lt_zero _)
        | succ n ih29 =>
          intro x29_2 a1_29 H locs ls hmeas hx29_2 ha1_29 hcp hP hD hS hl
          refine lv_iload_n hx hb dX11_back_29 rfl (lv_at hl 2 rfl) ?_
          refine lv_sipush (v := 144) hx hb dX11_back_30 (by decide) ?_
          refine lv_icmp_ge (tgt := 60) hx hb dX11_back_33 (by decide) (fun c18001 => ?_) (fun c18001 => ?_)
          · have zc18001 := leK (show (144 : Int32).toInt = 144 by decide) rfl c18001
            refine lv_iconst (v := 0) hx hb dX11_back_60 (by decide) ?_
            exact retDi a1_29 hx hb hr hlk hP hD hS dX11_back_61 (⟨ha1_29, ⟨WGcp hcp (by omega) (im6 (fun j => hI.2 2 j) _) (hWI _ (by have y1 := clK (i := a1) rfl (by omega); omega)), (by have kk : (0 : Int32).toInt = 0 := (by decide); omega)⟩⟩) (Nat.le_of_ble_eq_true rfl) (Nat.le_of_ble_eq_true rfl)
          · have zc18001 := nleK (show (144 : Int32).toInt = 144 by decide) rfl c18001
            refine lv_aload_n hx hb dX11_back_36 rfl (lv_at hl 0 rfl) ?_
            refine getF (v := .ref (q 1)) hx hb ht hown hK hP iTX11 0 1 rfl rfl (by decide) fl_RX11_9 rfl dX11_back_37 ?_
            refine lv_iload_n hx hb dX11_back_40 rfl (lv_at hl 2 rfl) ?_
            refine lv_aload_n hx hb dX11_back_41 rfl (lv_at hl 0 rfl) ?_
            refine getF (v := .ref (q 2)) hx hb ht hown hK hP iTX11 0 2 rfl rfl (by decide) fl_RX11_13 rfl dX11_back_42 ?_
            refine lv_sipush (v := 144) hx hb dX11_back_45 (by decide) ?_
            refine lv_iload_n hx hb dX11_back_48 rfl (lv_at hl 1 rfl) ?_
            refine lv_imul hx hb dX11_back_49 ?_
            refine lv_topi (fun v18002 ev18002 => ?_)
            have tv18002 : v18002.toInt = 144 * a1.toInt := by rw [ev18002]; exact mulT (show (144 : Int32).toInt = 144 by decide) rfl (by omega)
            refine lv_iload_n hx hb dX11_back_50 rfl (lv_at hl 2 rfl) ?_
            refine lv_iadd hx hb dX11_back_51 ?_
            refine lv_topi (fun v18003 ev18003 => ?_)
            have tv18003 : v18003.toInt = v18002.toInt + x29_2.toInt := by rw [ev18003]; exact addT rfl rfl (by omega)
            refine va_iald hx hb hK.1 hP 2 0 rfl rfl (inK rfl (by omega) (by decide)) dX11_back_52 ?_
            refine lv_topi (fun v18004 ev18004 => ?_)
            have ev18004 : v18004 = (A 2) v18003.toNatClampNeg := ev18004
            refine va_iast hx hb hK.1 hP hD hS 1 0 rfl rfl (inK rfl (by omega) (by decide)) dX11_back_53 (fun H locs hP hD hS => ?_)
            have hP : va_P G vwCl (mS cs h q F (vA A 1 (upd a1_29 x29_2.toNatClampNeg v18004)) D B) H := hP
            have hD : va_D A0 (mS cs h q F (vA A 1 (upd a1_29 x29_2.toNatClampNeg v18004)) D B) := hD
            obtain ⟨g18005, eg18005⟩ : ∃ z : Nat → Int32, z = upd a1_29 x29_2.toNatClampNeg v18004 := ⟨_, rfl⟩
            rw [← eg18005] at hP hD
            have hg18005 : AI 1 g18005 := by rw [eg18005]; exact AI_upd (fun j => ha1_29 j) (by rw [ev18004]; exact cp_mi (fun j => (hI.2 2 j)) (k := a1.toNatClampNeg) (by have y1 := clK (i := v18003) rfl (by omega); have y2 := clK (i := a1) rfl (by omega); have y3 := clK (i := x29_2) rfl (by omega); omega) (by have y1 := clK (i := x29_2) rfl (by omega); omega))
            obtain ⟨v18006, ev18006⟩ : ∃ z : Int32, z = x29_2 + 1 := ⟨_, rfl⟩
            have tv18006 : v18006.toInt = x29_2.toInt + 1 := by rw [ev18006]; exact addT rfl (by decide) (by omega)
            refine lv_iinc (v := v18006) (lv' := [(2, .int v18006), (0, .ref h), (1, .int a1)]) hx hb dX11_back_54 hl (k := 2) rfl (by rw [ev18006]; rfl) (by decide) rfl (fun ls hl => ?_)
            refine lv_goto (tgt := 29) hx hb dX11_back_57 (by decide) ?_
            exact ih29 v18006 g18005 H locs ls (by omega) (by omega) hg18005 (CPYs hcp eg18005 (by rw [ev18004]; exact congrArg (A 2) (by have y1 := clK (i := v18003) rfl (by omega); have y2 := clK (i := a1) rfl (by omega); have y3 := clK (i := x29_2) rfl (by omega); omega)) (clK rfl (by omega)) tv18006) hP hD hS (lv_sub hl [1, 2, 0] rfl)
      exact B29 _ 0 (A 1) H locs ls (Nat.lt_succ_self _) (by decide) (fun j => hI.2 1 j) (CPY0 (by decide)) hP hD hS (lv_sub hl [1, 2, 0] rfl)
    · have zc9 := eqK rfl (show (0 : Int32).toInt = 0 by decide) c9
      refine lv_bipush (v := (-6)) hx hb dX11_back_24 (by decide) ?_
      exact retDi (A 1) hx hb hr hlk hP hD hS dX11_back_26 (⟨fun j => hI.2 1 j, ⟨hWG, (by have kk : (-6 : Int32).toInt = -6 := (by decide); omega)⟩⟩) (Nat.le_of_ble_eq_true rfl) (Nat.le_of_ble_eq_true rfl)
  · have zc6 := eqK rfl (show (0 : Int32).toInt = 0 by decide) c6
    refine lv_bipush (v := (-2)) hx hb dX11_back_12 (by decide) ?_
    exact retDi (A 1) hx hb hr hlk hP hD hS dX11_back_14 (⟨fun j => hI.2 1 j, ⟨hWG, (by have kk : (-2 : Int32).toInt = -2 := (by decide); omega)⟩⟩) (Nat.le_of_ble_eq_true rfl) (Nat.le_of_ble_eq_true rfl)

set_option maxRecDepth 100000 in
set_option maxHeartbeats 8000000 in
theorem sX11_isHouse (l : Launch) (G : va_G) (cs : Nat → ClassId) (h : Nat) (q : Nat → Nat) (F : Nat → Int32) (A : Nat → Nat → Int32) (D : Int64) (B : Nat → Nat → Int64) (hI : IM F A) : SafeR l yX11_isHouse cX11_isHouse 1 (some .boolean) 0 G (TY cs) [.ref h] (mS cs h q F A D B) (fun r : Int32 => (0 : Int) ≤ r.toInt ∧ r.toInt ≤ 1) := by
  refine mkP (Qc := QRi (fun r : Int32 => (0 : Int) ≤ r.toInt ∧ r.toInt ≤ 1)) (by decide) (by simp [lg_sl, Value.category]) ?_
  intro p e s m args below meth c ls hx hb hml hr hlk hown ht hK hP hS hl
  have hl : lv_has ls 1 [(0, .ref h)] := hl
  refine lv_aload_n hx hb dX11_isHouse_0 rfl (lv_at hl 0 rfl) ?_
  refine getF (v := .ref (q 1)) hx hb ht hown hK hP iTX11 0 1 rfl rfl (by decide) fl_RX11_9 rfl dX11_isHouse_1 ?_
  refine lv_bipush (v := 6) hx hb dX11_isHouse_4 (by decide) ?_
  refine va_iald hx hb hK.1 hP 1 0 rfl rfl (show ¬ (_ ∨ _) by decide) dX11_isHouse_6 ?_
  refine W.eq (g2 := F0 m 7 ls [.int (A 1 6)]) rfl ?_
  refine lv_if_le (tgt := 14) hx hb dX11_isHouse_7 (by decide) (fun c1 => ?_) (fun c1 => ?_)
  · have zc1 := leK rfl (show (0 : Int32).toInt = 0 by decide) c1
    refine lv_iconst (v := 0) hx hb dX11_isHouse_14 (by decide) ?_
    exact retRz hx hb hr hlk hS dX11_isHouse_15 (rfl) (show (0 : Int) ≤ (0 : Int32).toInt ∧ (0 : Int32).toInt ≤ 1 by have kk : (0 : Int32).toInt = 0 := (by decide); omega)
  · have zc1 := nleK rfl (show (0 : Int32).toInt = 0 by decide) c1
    refine lv_iconst (v := 1) hx hb dX11_isHouse_10 (by decide) ?_
    refine lv_goto (tgt := 15) hx hb dX11_isHouse_11 (by decide) ?_
    exact retRz hx hb hr hlk hS dX11_isHouse_15 (rfl) (show (0 : Int) ≤ (1 : Int32).toInt ∧ (1 : Int32).toInt ≤ 1 by have kk : (1 : Int32).toInt = 1 := (by decide); omega)

set_option maxRecDepth 100000 in
set_option maxHeartbeats 8000000 in
theorem sX11_isRoom (l : Launch) (G : va_G) (cs : Nat → ClassId) (h : Nat) (q : Nat → Nat) (F : Nat → Int32) (A : Nat → Nat → Int32) (D : Int64) (B : Nat → Nat → Int64) (hI : IM F A) (a1 : Int64) : SafeR l yX11_isRoom cX11_isRoom 3 (some .boolean) 1 G (TY cs) [.ref h, .long a1] (mS cs h q F A D B) (fun r : Int32 => (r.toInt = 1 ∧ 0 ≤ a1.toInt ∧ a1.toInt < (A 1 4).toInt ∧ a1.toInt ≤ 6 ∧ (A 1 4).toInt ≤ 7) ∨ r.toInt = 0) := by
  refine mkP (Qc := QRi (fun r : Int32 => (r.toInt = 1 ∧ 0 ≤ a1.toInt ∧ a1.toInt < (A 1 4).toInt ∧ a1.toInt ≤ 6 ∧ (A 1 4).toInt ≤ 7) ∨ r.toInt = 0)) (by decide) (by simp [lg_sl, Value.category]) ?_
  intro p e s m args below meth c ls hx hb hml hr hlk hown ht hK hP hS hl
  have hl : lv_has ls 3 [(0, .ref h), (1, .long a1)] := hl
  refine lv_lload_n hx hb dX11_isRoom_0 rfl (lv_at hl 1 rfl) ?_
  refine lv_lconst (v := 0) hx hb dX11_isRoom_1 (by decide) ?_
  refine lv_aload_n hx hb dX11_isRoom_2 rfl (lv_at hl 0 rfl) ?_
  refine getF (v := .ref (q 1)) hx hb ht hown hK hP iTX11 0 1 rfl rfl (by decide) fl_RX11_9 rfl dX11_isRoom_3 ?_
  refine lv_iconst (v := 4) hx hb dX11_isRoom_6 (by decide) ?_
  refine va_iald hx hb hK.1 hP 1 0 rfl rfl (show ¬ (_ ∨ _) by decide) dX11_isRoom_7 ?_
  refine W.eq (g2 := F0 m 8 ls [.int (A 1 4), .long 0, .long a1]) rfl ?_
  have zf1 : (0 : Int) ≤ (A 1 4).toInt ∧ (A 1 4).toInt ≤ 7 := (hI.2 1 4)
  refine lv_iconst (v := 1) hx hb dX11_isRoom_8 (by decide) ?_
  refine lv_isub hx hb dX11_isRoom_9 ?_
  refine lv_topi (fun v2 ev2 => ?_)
  have tv2 : v2.toInt = (A 1 4).toInt - 1 := by rw [ev2]; exact subT rfl (show (1 : Int32).toInt = 1 by decide) (by omega)
  refine lv_i2l hx hb dX11_isRoom_10 rfl ?_
  refine lv_topl (fun v3 ev3 => ?_)
  have tv3 : v3.toInt = v2.toInt := by rw [ev3]; exact Int32.toInt_toInt64 _
  refine behR (runSP (As := [.long a1, .long 0, .long v3]) (rest := []) ⟨hx, hb, hml, hown, ht⟩ (sX11_in l G cs a1 0 v3 ) okS_RX11_79 ⟨by decide, by decide⟩ hK hP [] rfl hl.1 rfl (Nat.le_of_ble_eq_true rfl) dX11_isRoom_11 ⟨by decide, by decide⟩) hP hS (fun _ h => h) (fun r4 H locs hr4 hP hS => ?_)
  have kk5 : (0 : Int64).toInt = 0 := by decide
  have hr4 : (r4.toInt = 1 ∧ (0 : Int64).toInt ≤ a1.toInt ∧ a1.toInt ≤ v3.toInt) ∨ (r4.toInt = 0 ∧ (a1.toInt < (0 : Int64).toInt ∨ v3.toInt < a1.toInt)) := hr4
  exact retRz hx hb hr hlk hS dX11_isRoom_14 (narZ (by omega)) (show (r4.toInt = 1 ∧ 0 ≤ a1.toInt ∧ a1.toInt < (A 1 4).toInt ∧ a1.toInt ≤ 6 ∧ (A 1 4).toInt ≤ 7) ∨ r4.toInt = 0 by omega)

set_option maxRecDepth 100000 in
set_option maxHeartbeats 8000000 in
theorem sX11_isRoomOrNone (l : Launch) (G : va_G) (cs : Nat → ClassId) (h : Nat) (q : Nat → Nat) (F : Nat → Int32) (A : Nat → Nat → Int32) (D : Int64) (B : Nat → Nat → Int64) (hI : IM F A) (a1 : Int64) : SafeR l yX11_isRoomOrNone cX11_isRoomOrNone 3 (some .boolean) 2 G (TY cs) [.ref h, .long a1] (mS cs h q F A D B) (fun r : Int32 => (r.toInt = 1 ∧ -1 ≤ a1.toInt ∧ a1.toInt ≤ 6) ∨ r.toInt = 0) := by
  refine mkP (Qc := QRi (fun r : Int32 => (r.toInt = 1 ∧ -1 ≤ a1.toInt ∧ a1.toInt ≤ 6) ∨ r.toInt = 0)) (by decide) (by simp [lg_sl, Value.category]) ?_
  intro p e s m args below meth c ls hx hb hml hr hlk hown ht hK hP hS hl
  have hl : lv_has ls 3 [(0, .ref h), (1, .long a1)] := hl
  refine lv_aload_n hx hb dX11_isRoomOrNone_0 rfl (lv_at hl 0 rfl) ?_
  refine behR (runVP (As := []) (rest := []) ⟨hx, hb, hml, hown, ht⟩ (sX11_isHouse l G cs h q F A D B hI  ) okV_RX11_83 ⟨by decide, by decide⟩ hK hP [0, 1, 2, 3, 4, 5, 6, 7, 8, 9, 10, 11, 12, 13, 14, 15, 16, 17, 18, 19] rfl 0 rfl rfl hl.1 rfl (Nat.le_of_ble_eq_true rfl) dX11_isRoomOrNone_1 ⟨by decide, by decide⟩) hP hS (fun _ h => h) (fun r1 H locs hr1 hP hS => ?_)
  have hr1 : (0 : Int) ≤ r1.toInt ∧ r1.toInt ≤ 1 := hr1
  have B15 : ∀ (H : Heap) (locs : List Loc) (ls : Array Slot), va_P G vwCl (mS cs h q F A D B) H → va_S (fun q => s.heap.size ≤ q) s.heap H locs → lv_has ls 3 [(0, .ref h), (1, .long a1)] → W p l e (rmk 2 0 0) s m args below meth c H locs 0 0 (MQ below (QRi (fun r : Int32 => (r.toInt = 1 ∧ -1 ≤ a1.toInt ∧ a1.toInt ≤ 6) ∨ r.toInt = 0) s.heap.size) args s 0 0 (fun q => s.heap.size ≤ q)) (F0 m 15 ls []) := by
    intro H locs ls hP hS hl
    refine lv_aload_n hx hb dX11_isRoomOrNone_15 rfl (lv_at hl 0 rfl) ?_
    refine lv_lload_n hx hb dX11_isRoomOrNone_16 rfl (lv_at hl 1 rfl) ?_
    refine behR (runVP (As := [.long a1]) (rest := []) ⟨hx, hb, hml, hown, ht⟩ (sX11_isRoom l G cs h q F A D B hI a1 ) okV_RX11_89 ⟨by decide, by decide⟩ hK hP [0, 1, 2, 3, 4, 5, 6, 7, 8, 9, 10, 11, 12, 13, 14, 15, 16, 17, 18, 19] rfl 0 rfl rfl hl.1 rfl (Nat.le_of_ble_eq_true rfl) dX11_isRoomOrNone_17 ⟨by decide, by decide⟩) hP hS (fun _ h => h) (fun r8001 H locs hr8001 hP hS => ?_)
    have hr8001 : (r8001.toInt = 1 ∧ 0 ≤ a1.toInt ∧ a1.toInt < (A 1 4).toInt ∧ a1.toInt ≤ 6 ∧ (A 1 4).toInt ≤ 7) ∨ r8001.toInt = 0 := hr8001
    refine lv_if_eq (tgt := 27) hx hb dX11_isRoomOrNone_20 (by decide) (fun c8002 => ?_) (fun c8002 => ?_)
    · have zc8002 := eqK rfl (show (0 : Int32).toInt = 0 by decide) c8002
      refine lv_iconst (v := 0) hx hb dX11_isRoomOrNone_27 (by decide) ?_
      exact retRz hx hb hr hlk hS dX11_isRoomOrNone_28 (rfl) (show ((0 : Int32).toInt = 1 ∧ -1 ≤ a1.toInt ∧ a1.toInt ≤ 6) ∨ (0 : Int32).toInt = 0 by have kk : (0 : Int32).toInt = 0 := (by decide); omega)
    · have zc8002 := neK rfl (show (0 : Int32).toInt = 0 by decide) c8002
      refine lv_iconst (v := 1) hx hb dX11_isRoomOrNone_23 (by decide) ?_
      refine lv_goto (tgt := 28) hx hb dX11_isRoomOrNone_24 (by decide) ?_
      exact retRz hx hb hr hlk hS dX11_isRoomOrNone_28 (rfl) (show ((1 : Int32).toInt = 1 ∧ -1 ≤ a1.toInt ∧ a1.toInt ≤ 6) ∨ (1 : Int32).toInt = 0 by have kk : (1 : Int32).toInt = 1 := (by decide); omega)
  refine lv_if_eq (tgt := 15) hx hb dX11_isRoomOrNone_4 (by decide) (fun c2 => ?_) (fun c2 => ?_)
  · have zc2 := eqK rfl (show (0 : Int32).toInt = 0 by decide) c2
    exact B15 H locs ls hP hS (lv_sub hl [0, 1] rfl)
  · have zc2 := neK rfl (show (0 : Int32).toInt = 0 by decide) c2
    refine lv_lload_n hx hb dX11_isRoomOrNone_7 rfl (lv_at hl 1 rfl) ?_
    refine lv_ldc2 hx hb hown (ht _ kl_RX11_87) dX11_isRoomOrNone_8 ?_
    refine W.lcmp hx hb dX11_isRoomOrNone_11 ?_
    refine lv_topi (fun v3 ev3 => ?_)
    refine lv_if_eq (tgt := 23) hx hb dX11_isRoomOrNone_12 (by decide) (fun c4 => ?_) (fun c4 => ?_)
    · have zc4 := eqK rfl (show (0 : Int32).toInt = 0 by decide) c4
      have yc4 := cmpEQ rfl (show (-1 : Int64).toInt = (-1) by decide) ev3 (by omega)
      refine lv_iconst (v := 1) hx hb dX11_isRoomOrNone_23 (by decide) ?_
      refine lv_goto (tgt := 28) hx hb dX11_isRoomOrNone_24 (by decide) ?_
      exact retRz hx hb hr hlk hS dX11_isRoomOrNone_28 (rfl) (show ((1 : Int32).toInt = 1 ∧ -1 ≤ a1.toInt ∧ a1.toInt ≤ 6) ∨ (1 : Int32).toInt = 0 by have kk : (1 : Int32).toInt = 1 := (by decide); omega)
    · have zc4 := neK rfl (show (0 : Int32).toInt = 0 by decide) c4
      have yc4 := cmpEQn rfl (show (-1 : Int64).toInt = (-1) by decide) ev3 (by omega)
      exact B15 H locs ls hP hS (lv_sub hl [0, 1] rfl)

