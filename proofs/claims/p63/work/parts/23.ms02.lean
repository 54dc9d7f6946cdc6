set_option maxRecDepth 100000 in
set_option maxHeartbeats 8000000 in
theorem sX11_callIn (l : Launch) (G : va_G) (cs : Nat → ClassId) (h : Nat) (q : Nat → Nat) (F : Nat → Int32) (A : Nat → Nat → Int32) (D : Int64) (B : Nat → Nat → Int64) (hI : IM F A) (a1 : Int32) (a2 : Int32) (ha1 : (-1 : Int) ≤ a1.toInt ∧ a1.toInt ≤ 6) (ha2 : (0 : Int) ≤ a2.toInt ∧ a2.toInt ≤ 9) : ImpI l yX11_callIn cX11_callIn 4 (some .int) 3 0 0 G (TY cs) [.ref h, .int a1, .int a2] (mS cs h q F A D B) (fun (r : Int32) (u : Int32 × (Nat → Int32)) => True) (fun u : Int32 × (Nat → Int32) => (mS cs h q (upd F 18 u.1) (vA A 15 u.2) D B)) := by
  refine mkD (Qc := (QDi G (fun (r : Int32) (u : Int32 × (Nat → Int32)) => True) (fun u : Int32 × (Nat → Int32) => (mS cs h q (upd F 18 u.1) (vA A 15 u.2) D B)))) (by decide) (by simp [lg_sl, Value.category]) ?_
  intro p e s m args below meth c ls A0 hx hb hml hr hlk hown hmn ht hK hP hD hS hA hl
  have hl : lv_has ls 4 [(0, .ref h), (1, .int a1), (2, .int a2)] := hl
  refine lv_iload_n hx hb dX11_callIn_0 rfl (lv_at hl 1 rfl) ?_
  refine lv_iconst (v := (-1)) hx hb dX11_callIn_1 (by decide) ?_
  refine lv_icmp_ne (tgt := 7) hx hb dX11_callIn_2 (by decide) (fun c1 => ?_) (fun c1 => ?_)
  · have zc1 := neK rfl (show (-1 : Int32).toInt = (-1) by decide) c1
    refine lv_aload_n hx hb dX11_callIn_7 rfl (lv_at hl 0 rfl) ?_
    refine lv_iload_n hx hb dX11_callIn_8 rfl (lv_at hl 1 rfl) ?_
    refine lv_iload_n hx hb dX11_callIn_9 rfl (lv_at hl 2 rfl) ?_
    refine behR (runVP (As := [.int a1, .int a2]) (rest := []) ⟨hx, hb, hml, hown, ht⟩ (sX11_wouldFind l G cs h q F A D B hI a1 a2 (by omega) (by omega)) okV_RX11_252 ⟨by decide, by decide⟩ hK hP [0, 1, 2, 3, 4, 5, 6, 7, 8, 9, 10, 11, 12, 13, 14, 15, 16, 17, 18, 19] rfl 0 rfl rfl hl.1 rfl (Nat.le_of_ble_eq_true rfl) dX11_callIn_10 ⟨by decide, by decide⟩) hP hS hA (fun r2 H locs hr2 hP hS => ?_)
    refine lv_istore_n (lv' := [(3, .int r2), (0, .ref h), (1, .int a1), (2, .int a2)]) hx hb dX11_callIn_13 rfl hl (by decide) rfl (fun ls hl => ?_)
    refine lv_aload_n hx hb dX11_callIn_14 rfl (lv_at hl 1 rfl) ?_
    refine getF (v := .ref (q 15)) hx hb ht hown hK hP iTX11 0 15 rfl rfl (by decide) fl_RX11_34 rfl dX11_callIn_15 ?_
    refine lv_iload_n hx hb dX11_callIn_18 rfl (lv_at hl 2 rfl) ?_
    refine lv_dup2_11 hx hb dX11_callIn_19 rfl rfl ?_
    refine va_iald hx hb hK.1 hP 7 0 rfl rfl (inK rfl (by omega) (by decide)) dX11_callIn_20 ?_
    refine lv_topi (fun v3 ev3 => ?_)
    refine lv_iload_n hx hb dX11_callIn_21 rfl (lv_at hl 0 rfl) ?_
    refine lv_isub hx hb dX11_callIn_22 ?_
    refine lv_topi (fun v4 ev4 => ?_)
    refine va_iast hx hb hK.1 hP hD hS 7 0 rfl rfl (inK rfl (by omega) (by decide)) dX11_callIn_23 (fun H locs hP hD hS => ?_)
    obtain ⟨g5, hP, hD⟩ : ∃ g5 : Nat → Int32, va_P G vwCl (mS cs h q F (vA A 15 g5) D B) H ∧ va_D A0 (mS cs h q F (vA A 15 g5) D B) := ⟨upd (A 15) a1.toNatClampNeg v4, hP, hD⟩
    refine lv_aload_n hx hb dX11_callIn_24 rfl (lv_at hl 1 rfl) ?_
    refine lv_dup hx hb dX11_callIn_25 rfl ?_
    refine getF (v := .int (F 18)) hx hb ht hown hK hP iTX11 0 18 rfl rfl (by decide) fl_RX11_249 rfl dX11_callIn_26 ?_
    refine lv_iload_n hx hb dX11_callIn_29 rfl (lv_at hl 0 rfl) ?_
    refine lv_iadd hx hb dX11_callIn_30 ?_
    refine lv_topi (fun v6 ev6 => ?_)
    refine putD hx hb ht hown hK hP hD hS iTX11 tyX11 tyX11_ok nmX11 0 18 rfl rfl (by decide) fl_RX11_249 rfl rfl rfl (Nat.le_of_ble_eq_true rfl) dX11_callIn_31 (fun H locs hP hD hS => ?_)
    have hP : va_P G vwCl (mS cs h q (upd F 18 v6) (vA A 15 g5) D B) H := hP
    have hD : va_D A0 (mS cs h q (upd F 18 v6) (vA A 15 g5) D B) := hD
    refine lv_iload_n hx hb dX11_callIn_34 rfl (lv_at hl 0 rfl) ?_
    exact retDi (v6, g5) hx hb hr hlk hP hD hS dX11_callIn_35 (trivial) (Nat.le_of_ble_eq_true rfl) (Nat.le_of_ble_eq_true rfl)
  · have zc1 := eqK rfl (show (-1 : Int32).toInt = (-1) by decide) c1
    refine lv_iconst (v := 0) hx hb dX11_callIn_5 (by decide) ?_
    exact retDi ((F 18), (A 15)) hx hb hr hlk hP hD hS dX11_callIn_6 (trivial) (Nat.le_of_ble_eq_true rfl) (Nat.le_of_ble_eq_true rfl)

set_option maxRecDepth 100000 in
set_option maxHeartbeats 8000000 in
theorem sX11_goMinute (l : Launch) (G : va_G) (cs : Nat → ClassId) (h : Nat) (q : Nat → Nat) (F : Nat → Int32) (A : Nat → Nat → Int32) (D : Int64) (B : Nat → Nat → Int64) (hI : IM F A) (a1 : Int32) : ImpW l yX11_goMinute cX11_goMinute 6 1 0 0 G (TY cs) [.ref h, .int a1] (mS cs h q F A D B) (fun u : (Nat → Int32) × (Nat → Int32) => True) (fun u : (Nat → Int32) × (Nat → Int32) => (mS cs h q F (vA (vA A 15 u.1) 16 u.2) D B)) := by
  refine mkD (Qc := (QDw G (fun u : (Nat → Int32) × (Nat → Int32) => True) (fun u : (Nat → Int32) × (Nat → Int32) => (mS cs h q F (vA (vA A 15 u.1) 16 u.2) D B)))) (by decide) (by simp [lg_sl, Value.category]) ?_
  intro p e s m args below meth c ls A0 hx hb hml hr hlk hown hmn ht hK hP hD hS hA hl
  have hl : lv_has ls 6 [(0, .ref h), (1, .int a1)] := hl
  refine lv_iconst (v := 0) hx hb dX11_goMinute_0 (by decide) ?_
  refine lv_istore_n (lv' := [(2, .int 0), (0, .ref h), (1, .int a1)]) hx hb dX11_goMinute_1 rfl hl (by decide) rfl (fun ls hl => ?_)
  have B2 : ∀ (n : Nat) (x2_2 : Int32) (a15_2 : (Nat → Int32)) (a16_2 : (Nat → Int32)) (H : Heap) (locs : List Loc) (ls : Array Slot), (7 - x2_2.toInt).toNat < n → (0 : Int) ≤ x2_2.toInt ∧ x2_2.toInt ≤ 7 → va_P G vwCl (mS cs h q F (vA (vA A 15 a15_2) 16 a16_2) D B) H → va_D A0 (mS cs h q F (vA (vA A 15 a15_2) 16 a16_2) D B) → va_S A0 s.heap H locs → lv_has ls 6 [(0, .ref h), (1, .int a1), (2, .int x2_2)] → W p l e (rmk 1 0 0) s m args below meth c H locs 0 0 (MQ below ((QDw G (fun u : (Nat → Int32) × (Nat → Int32) => True) (fun u : (Nat → Int32) × (Nat → Int32) => (mS cs h q F (vA (vA A 15 u.1) 16 u.2) D B))) A0) args s 0 0 A0) (F0 m 2 ls []) := by
    intro n
    induction n with
    | zero => intro x2_2 a15_2 a16_2 H locs ls hmeas hx2_2 hP hD hS hl; exact absurd hmeas (Nat.not_lt_zero _)
    | succ n ih2 =>
      intro x2_2 a15_2 a16_2 H locs ls hmeas hx2_2 hP hD hS hl
      refine lv_iload_n hx hb dX11_goMinute_2 rfl (lv_at hl 2 rfl) ?_
      refine lv_bipush (v := 7) hx hb dX11_goMinute_3 (by decide) ?_
      refine lv_icmp_ge (tgt := 21) hx hb dX11_goMinute_5 (by decide) (fun c3001 => ?_) (fun c3001 => ?_)
      · have zc3001 := leK (show (7 : Int32).toInt = 7 by decide) rfl c3001
        refine lv_iconst (v := 0) hx hb dX11_goMinute_21 (by decide) ?_
        refine lv_istore_n (lv' := [(2, .int 0), (0, .ref h), (1, .int a1)]) hx hb dX11_goMinute_22 rfl hl (by decide) rfl (fun ls hl => ?_)
        have B23 : ∀ (n : Nat) (x23_2 : Int32) (a15_23 : (Nat → Int32)) (a16_23 : (Nat → Int32)) (H : Heap) (locs : List Loc) (ls : Array Slot), (7 - x23_2.toInt).toNat < n → (0 : Int) ≤ x23_2.toInt ∧ x23_2.toInt ≤ 7 → va_P G vwCl (mS cs h q F (vA (vA A 15 a15_23) 16 a16_23) D B) H → va_D A0 (mS cs h q F (vA (vA A 15 a15_23) 16 a16_23) D B) → va_S A0 s.heap H locs → lv_has ls 6 [(0, .ref h), (1, .int a1), (2, .int x23_2)] → W p l e (rmk 1 0 0) s m args below meth c H locs 0 0 (MQ below ((QDw G (fun u : (Nat → Int32) × (Nat → Int32) => True) (fun u : (Nat → Int32) × (Nat → Int32) => (mS cs h q F (vA (vA A 15 u.1) 16 u.2) D B))) A0) args s 0 0 A0) (F0 m 23 ls []) := by
          intro n
          induction n with
          | zero => intro x23_2 a15_23 a16_23 H locs ls hmeas hx23_2 hP hD hS hl; exact absurd hmeas (Nat.not_lt_zero _)
          | succ n ih23 =>
            intro x23_2 a15_23 a16_23 H locs ls hmeas hx23_2 hP hD hS hl
            refine lv_iload_n hx hb dX11_goMinute_23 rfl (lv_at hl 2 rfl) ?_
            refine lv_aload_n hx hb dX11_goMinute_24 rfl (lv_at hl 0 rfl) ?_
            refine getF (v := .ref (q 1)) hx hb ht hown hK hP iTX11 0 1 rfl rfl (by decide) fl_RX11_9 rfl dX11_goMinute_25 ?_
            refine lv_iconst (v := 4) hx hb dX11_goMinute_28 (by decide) ?_
            refine va_iald hx hb hK.1 hP 1 0 rfl rfl (show ¬ (_ ∨ _) by decide) dX11_goMinute_29 ?_
            refine W.eq (g2 := F0 m 30 ls [.int (A 1 4), .int x23_2]) rfl ?_
            have zf15001 : (0 : Int) ≤ (A 1 4).toInt ∧ (A 1 4).toInt ≤ 7 := (hI.2 1 4)
            refine lv_icmp_ge (tgt := 138) hx hb dX11_goMinute_30 (by decide) (fun c15002 => ?_) (fun c15002 => ?_)
            · have zc15002 := leK rfl rfl c15002
              refine lv_iconst (v := 0) hx hb dX11_goMinute_138 (by decide) ?_
              refine lv_istore_n (lv' := [(2, .int 0), (0, .ref h), (1, .int a1)]) hx hb dX11_goMinute_139 rfl hl (by decide) rfl (fun ls hl => ?_)
              have B140 : ∀ (n : Nat) (x140_2 : Int32) (a15_140 : (Nat → Int32)) (a16_140 : (Nat → Int32)) (H : Heap) (locs : List Loc) (ls : Array Slot), (7 - x140_2.toInt).toNat < n → (0 : Int) ≤ x140_2.toInt ∧ x140_2.toInt ≤ 7 → va_P G vwCl (mS cs h q F (vA (vA A 15 a15_140) 16 a16_140) D B) H → va_D A0 (mS cs h q F (vA (vA A 15 a15_140) 16 a16_140) D B) → va_S A0 s.heap H locs → lv_has ls 6 [(0, .ref h), (2, .int x140_2)] → W p l e (rmk 1 0 0) s m args below meth c H locs 0 0 (MQ below ((QDw G (fun u : (Nat → Int32) × (Nat → Int32) => True) (fun u : (Nat → Int32) × (Nat → Int32) => (mS cs h q F (vA (vA A 15 u.1) 16 u.2) D B))) A0) args s 0 0 A0) (F0 m 140 ls []) := by
                intro n
                induction n with
                | zero => intro x140_2 a15_140 a16_140 H locs ls hmeas hx140_2 hP hD hS hl; exact absurd hmeas (Nat.not_lt_zero _)
                | succ n ih140 =>
                  intro x140_2 a15_140 a16_140 H locs ls hmeas hx140_2 hP hD hS hl
                  refine lv_iload_n hx hb dX11_goMinute_140 rfl (lv_at hl 1 rfl) ?_
                  refine lv_bipush (v := 7) hx hb dX11_goMinute_141 (by decide) ?_
                  refine lv_icmp_ge (tgt := 167) hx hb dX11_goMinute_143 (by decide) (fun c86001 => ?_) (fun c86001 => ?_)
                  · have zc86001 := leK (show (7 : Int32).toInt = 7 by decide) rfl c86001
                    exact retDw (a15_140, a16_140) hx hb hr hlk hP hD hS dX11_goMinute_167 (trivial) (Nat.le_of_ble_eq_true rfl) (Nat.le_of_ble_eq_true rfl)
                  · have zc86001 := nleK (show (7 : Int32).toInt = 7 by decide) rfl c86001
                    refine lv_aload_n hx hb dX11_goMinute_146 rfl (lv_at hl 0 rfl) ?_
                    refine getF (v := .ref (q 15)) hx hb ht hown hK hP iTX11 0 15 rfl rfl (by decide) fl_RX11_34 rfl dX11_goMinute_147 ?_
                    refine lv_iload_n hx hb dX11_goMinute_150 rfl (lv_at hl 1 rfl) ?_
                    refine lv_dup2_11 hx hb dX11_goMinute_151 rfl rfl ?_
                    refine va_iald hx hb hK.1 hP 7 0 rfl rfl (inK rfl (by omega) (by decide)) dX11_goMinute_152 ?_
                    refine lv_topi (fun v86002 ev86002 => ?_)
                    refine lv_aload_n hx hb dX11_goMinute_153 rfl (lv_at hl 0 rfl) ?_
                    refine getF (v := .ref (q 16)) hx hb ht hown hK hP iTX11 0 16 rfl rfl (by decide) fl_RX11_37 rfl dX11_goMinute_154 ?_
                    refine lv_iload_n hx hb dX11_goMinute_157 rfl (lv_at hl 1 rfl) ?_
                    refine va_iald hx hb hK.1 hP 8 0 rfl rfl (inK rfl (by omega) (by decide)) dX11_goMinute_158 ?_
                    refine lv_topi (fun v86003 ev86003 => ?_)
                    refine lv_iadd hx hb dX11_goMinute_159 ?_
                    refine lv_topi (fun v86004 ev86004 => ?_)
                    refine va_iast hx hb hK.1 hP hD hS 7 0 rfl rfl (inK rfl (by omega) (by decide)) dX11_goMinute_160 (fun H locs hP hD hS => ?_)
                    obtain ⟨g86005, hP, hD⟩ : ∃ g86005 : Nat → Int32, va_P G vwCl (mS cs h q F (vA (vA A 15 g86005) 16 a16_140) D B) H ∧ va_D A0 (mS cs h q F (vA (vA A 15 g86005) 16 a16_140) D B) := ⟨upd a15_140 x140_2.toNatClampNeg v86004, hP, hD⟩
                    obtain ⟨v86006, ev86006⟩ : ∃ z : Int32, z = x140_2 + 1 := ⟨_, rfl⟩
                    have tv86006 : v86006.toInt = x140_2.toInt + 1 := by rw [ev86006]; exact addT rfl (by decide) (by omega)
                    refine lv_iinc (v := v86006) (lv' := [(2, .int v86006), (0, .ref h)]) hx hb dX11_goMinute_161 hl (k := 1) rfl (by rw [ev86006]; rfl) (by decide) rfl (fun ls hl => ?_)
                    refine lv_goto (tgt := 140) hx hb dX11_goMinute_164 (by decide) ?_
                    exact ih140 v86006 g86005 a16_140 H locs ls (by omega) (by omega) hP hD hS (lv_sub hl [1, 0] rfl)
              exact B140 _ 0 a15_23 a16_23 H locs ls (Nat.lt_succ_self _) (by decide) hP hD hS (lv_sub hl [1, 0] rfl)
            · have zc15002 := nleK rfl rfl c15002
              refine lv_aload_n hx hb dX11_goMinute_33 rfl (lv_at hl 0 rfl) ?_
              refine lv_iload_n hx hb dX11_goMinute_34 rfl (lv_at hl 2 rfl) ?_
              refine lv_iconst (v := 3) hx hb dX11_goMinute_35 (by decide) ?_
              refine behR (runVP (As := [.int x23_2, .int 3]) (rest := []) ⟨hx, hb, hml, hown, ht⟩ (sX11_of l G cs h q F (vA (vA A 15 a15_23) 16 a16_23) D B (IM_arr (k := 16) (IM_arr (k := 15) hI (fun _ => i32b _)) (fun _ => i32b _)) x23_2 3 (by omega) (by decide)) okV_RX11_227 ⟨by decide, by decide⟩ hK hP [0, 1, 2, 3, 4, 5, 6, 7, 8, 9, 10, 11, 12, 13, 14, 15, 16, 17, 18, 19] rfl 0 rfl rfl hl.1 rfl (Nat.le_of_ble_eq_true rfl) dX11_goMinute_36 ⟨by decide, by decide⟩) hP hS hA (fun r15003 H locs hr15003 hP hS => ?_)
              have kk15004 : (3 : Int32).toInt = 3 := by decide
              have hr15003 : (0 : Int) ≤ r15003.toInt ∧ r15003.toInt ≤ 999 ∧ ((3 : Int32).toInt = 3 → r15003.toInt ≤ 127) ∧ ((3 : Int32).toInt = 2 → r15003.toInt ≤ 99) := hr15003
              refine behR (runSP (As := [.int r15003]) (rest := []) ⟨hx, hb, hml, hown, ht⟩ (sX11_bits l G cs r15003 ) okS_RX11_255 ⟨by decide, by decide⟩ hK hP [] rfl hl.1 rfl (Nat.le_of_ble_eq_true rfl) dX11_goMinute_39 ⟨by decide, by decide⟩) hP hS hA (fun r15005 H locs hr15005 hP hS => ?_)
              refine lv_istore_n (lv' := [(3, .int r15005), (0, .ref h), (1, .int a1), (2, .int x23_2)]) hx hb dX11_goMinute_42 rfl hl (by decide) rfl (fun ls hl => ?_)
              refine lv_iload_n hx hb dX11_goMinute_43 rfl (lv_at hl 0 rfl) ?_
              have B132 : ∀ (a15_132 : (Nat → Int32)) (a16_132 : (Nat → Int32)) (H : Heap) (locs : List Loc) (ls : Array Slot), va_P G vwCl (mS cs h q F (vA (vA A 15 a15_132) 16 a16_132) D B) H → va_D A0 (mS cs h q F (vA (vA A 15 a15_132) 16 a16_132) D B) → va_S A0 s.heap H locs → lv_has ls 6 [(0, .ref h), (1, .int a1), (2, .int x23_2)] → W p l e (rmk 1 0 0) s m args below meth c H locs 0 0 (MQ below ((QDw G (fun u : (Nat → Int32) × (Nat → Int32) => True) (fun u : (Nat → Int32) × (Nat → Int32) => (mS cs h q F (vA (vA A 15 u.1) 16 u.2) D B))) A0) args s 0 0 A0) (F0 m 132 ls []) := by
                intro a15_132 a16_132 H locs ls hP hD hS hl
                obtain ⟨v82001, ev82001⟩ : ∃ z : Int32, z = x23_2 + 1 := ⟨_, rfl⟩
                have tv82001 : v82001.toInt = x23_2.toInt + 1 := by rw [ev82001]; exact addT rfl (by decide) (by omega)
                refine lv_iinc (v := v82001) (lv' := [(2, .int v82001), (0, .ref h), (1, .int a1)]) hx hb dX11_goMinute_132 hl (k := 2) rfl (by rw [ev82001]; rfl) (by decide) rfl (fun ls hl => ?_)
                refine lv_goto (tgt := 23) hx hb dX11_goMinute_135 (by decide) ?_
                exact ih23 v82001 a15_132 a16_132 H locs ls (by omega) (by omega) hP hD hS (lv_sub hl [1, 2, 0] rfl)
              refine lv_if_eq (tgt := 132) hx hb dX11_goMinute_44 (by decide) (fun c15006 => ?_) (fun c15006 => ?_)
              · have zc15006 := eqK rfl (show (0 : Int32).toInt = 0 by decide) c15006
                exact B132 a15_23 a16_23 H locs ls hP hD hS (lv_sub hl [1, 2, 3] rfl)
              · have zc15006 := neK rfl (show (0 : Int32).toInt = 0 by decide) c15006
                refine lv_iload_n hx hb dX11_goMinute_47 rfl (lv_at hl 3 rfl) ?_
                refine lv_iload_n hx hb dX11_goMinute_48 rfl (lv_at hl 2 rfl) ?_
                refine lv_icmp_ne (tgt := 55) hx hb dX11_goMinute_49 (by decide) (fun c15007 => ?_) (fun c15007 => ?_)
                · have zc15007 := neK rfl rfl c15007
                  refine lv_aload_n hx hb dX11_goMinute_55 rfl (lv_at hl 1 rfl) ?_
                  refine getF (v := .ref (q 15)) hx hb ht hown hK hP iTX11 0 15 rfl rfl (by decide) fl_RX11_34 rfl dX11_goMinute_56 ?_
                  refine lv_iload_n hx hb dX11_goMinute_59 rfl (lv_at hl 3 rfl) ?_
                  refine va_iald hx hb hK.1 hP 7 0 rfl rfl (inK rfl (by omega) (by decide)) dX11_goMinute_60 ?_
                  refine lv_topi (fun v15008 ev15008 => ?_)
                  refine lv_aload_n hx hb dX11_goMinute_61 rfl (lv_at hl 1 rfl) ?_
                  refine getF (v := .ref (q 1)) hx hb ht hown hK hP iTX11 0 1 rfl rfl (by decide) fl_RX11_9 rfl dX11_goMinute_62 ?_
                  refine lv_iconst (v := 0) hx hb dX11_goMinute_65 (by decide) ?_
                  refine va_iald hx hb hK.1 hP 1 0 rfl rfl (show ¬ (_ ∨ _) by decide) dX11_goMinute_66 ?_
                  refine W.eq (g2 := F0 m 67 ls [.int (A 1 0), .int v15008]) rfl ?_
                  refine lv_imul hx hb dX11_goMinute_67 ?_
                  refine lv_topi (fun v15009 ev15009 => ?_)
                  refine lv_bipush (v := 100) hx hb dX11_goMinute_68 (by decide) ?_
                  refine lv_idiv hx hb dX11_goMinute_70 (by decide) ?_
                  refine lv_topi (fun v15010 ev15010 => ?_)
                  refine lv_iload_n hx hb dX11_goMinute_71 rfl (lv_at hl 0 rfl) ?_
                  refine lv_idiv hx hb dX11_goMinute_72 (n0K rfl (by omega)) ?_
                  refine lv_topi (fun v15011 ev15011 => ?_)
                  refine lv_istore (lv' := [(4, .int v15011), (3, .int r15005), (0, .ref h), (1, .int a1), (2, .int x23_2)]) hx hb dX11_goMinute_73 hl (by decide) rfl (fun ls hl => ?_)
                  refine lv_aload_n hx hb dX11_goMinute_75 rfl (lv_at hl 2 rfl) ?_
                  refine getF (v := .ref (q 16)) hx hb ht hown hK hP iTX11 0 16 rfl rfl (by decide) fl_RX11_37 rfl dX11_goMinute_76 ?_
                  refine lv_iload_n hx hb dX11_goMinute_79 rfl (lv_at hl 4 rfl) ?_
                  refine lv_dup2_11 hx hb dX11_goMinute_80 rfl rfl ?_
                  refine va_iald hx hb hK.1 hP 8 0 rfl rfl (inK rfl (by omega) (by decide)) dX11_goMinute_81 ?_
                  refine lv_topi (fun v15012 ev15012 => ?_)
                  refine lv_iload hx hb dX11_goMinute_82 (lv_at hl 0 rfl) ?_
                  refine lv_iload_n hx hb dX11_goMinute_84 rfl (lv_at hl 1 rfl) ?_
                  refine lv_imul hx hb dX11_goMinute_85 ?_
                  refine lv_topi (fun v15013 ev15013 => ?_)
                  refine lv_isub hx hb dX11_goMinute_86 ?_
                  refine lv_topi (fun v15014 ev15014 => ?_)
                  refine va_iast hx hb hK.1 hP hD hS 8 0 rfl rfl (inK rfl (by omega) (by decide)) dX11_goMinute_87 (fun H locs hP hD hS => ?_)
                  obtain ⟨g15015, hP, hD⟩ : ∃ g15015 : Nat → Int32, va_P G vwCl (mS cs h q F (vA (vA A 15 a15_23) 16 g15015) D B) H ∧ va_D A0 (mS cs h q F (vA (vA A 15 a15_23) 16 g15015) D B) := ⟨upd a16_23 x23_2.toNatClampNeg v15014, hP, hD⟩
                  refine lv_iconst (v := 0) hx hb dX11_goMinute_88 (by decide) ?_
                  refine lv_istore (lv' := [(5, .int 0), (4, .int v15011), (3, .int r15005), (0, .ref h), (1, .int a1), (2, .int x23_2)]) hx hb dX11_goMinute_89 hl (by decide) rfl (fun ls hl => ?_)
                  have B91 : ∀ (n : Nat) (x91_5 : Int32) (a15_91 : (Nat → Int32)) (a16_91 : (Nat → Int32)) (H : Heap) (locs : List Loc) (ls : Array Slot), (7 - x91_5.toInt).toNat < n → (0 : Int) ≤ x91_5.toInt ∧ x91_5.toInt ≤ 7 → va_P G vwCl (mS cs h q F (vA (vA A 15 a15_91) 16 a16_91) D B) H → va_D A0 (mS cs h q F (vA (vA A 15 a15_91) 16 a16_91) D B) → va_S A0 s.heap H locs → lv_has ls 6 [(0, .ref h), (1, .int a1), (2, .int x23_2), (4, .int v15011), (5, .int x91_5)] → W p l e (rmk 1 0 0) s m args below meth c H locs 0 0 (MQ below ((QDw G (fun u : (Nat → Int32) × (Nat → Int32) => True) (fun u : (Nat → Int32) × (Nat → Int32) => (mS cs h q F (vA (vA A 15 u.1) 16 u.2) D B))) A0) args s 0 0 A0) (F0 m 91 ls []) := by
                    intro n
                    induction n with
                    | zero => intro x91_5 a15_91 a16_91 H locs ls hmeas hx91_5 hP hD hS hl; exact absurd hmeas (Nat.not_lt_zero _)
                    | succ n ih91 =>
                      intro x91_5 a15_91 a16_91 H locs ls hmeas hx91_5 hP hD hS hl
                      refine lv_iload hx hb dX11_goMinute_91 (lv_at hl 4 rfl) ?_
                      refine lv_aload_n hx hb dX11_goMinute_93 rfl (lv_at hl 0 rfl) ?_
                      refine getF (v := .ref (q 1)) hx hb ht hown hK hP iTX11 0 1 rfl rfl (by decide) fl_RX11_9 rfl dX11_goMinute_94 ?_
                      refine lv_iconst (v := 4) hx hb dX11_goMinute_97 (by decide) ?_
                      refine va_iald hx hb hK.1 hP 1 0 rfl rfl (show ¬ (_ ∨ _) by decide) dX11_goMinute_98 ?_
                      refine W.eq (g2 := F0 m 99 ls [.int (A 1 4), .int x91_5]) rfl ?_
                      have zf59001 : (0 : Int) ≤ (A 1 4).toInt ∧ (A 1 4).toInt ≤ 7 := (hI.2 1 4)
                      refine lv_icmp_ge (tgt := 132) hx hb dX11_goMinute_99 (by decide) (fun c59002 => ?_) (fun c59002 => ?_)
                      · have zc59002 := leK rfl rfl c59002
                        exact B132 a15_91 a16_91 H locs ls hP hD hS (lv_sub hl [0, 1, 2] rfl)
                      · have zc59002 := nleK rfl rfl c59002
                        refine lv_aload_n hx hb dX11_goMinute_102 rfl (lv_at hl 0 rfl) ?_
                        refine getF (v := .ref (q 16)) hx hb ht hown hK hP iTX11 0 16 rfl rfl (by decide) fl_RX11_37 rfl dX11_goMinute_103 ?_
                        refine lv_iload hx hb dX11_goMinute_106 (lv_at hl 4 rfl) ?_
                        refine lv_dup2_11 hx hb dX11_goMinute_108 rfl rfl ?_
                        refine va_iald hx hb hK.1 hP 8 0 rfl rfl (inK rfl (by omega) (by decide)) dX11_goMinute_109 ?_
                        refine lv_topi (fun v59003 ev59003 => ?_)
                        refine lv_aload_n hx hb dX11_goMinute_110 rfl (lv_at hl 0 rfl) ?_
                        refine lv_iload_n hx hb dX11_goMinute_111 rfl (lv_at hl 2 rfl) ?_
                        refine lv_iconst (v := 3) hx hb dX11_goMinute_112 (by decide) ?_
                        refine behR (runVP (As := [.int x23_2, .int 3]) (rest := [.int v59003, .int x91_5, .ref (q 16)]) ⟨hx, hb, hml, hown, ht⟩ (sX11_of l G cs h q F (vA (vA A 15 a15_91) 16 a16_91) D B (IM_arr (k := 16) (IM_arr (k := 15) hI (fun _ => i32b _)) (fun _ => i32b _)) x23_2 3 (by omega) (by decide)) okV_RX11_227 ⟨by decide, by decide⟩ hK hP [0, 1, 2, 3, 4, 5, 6, 7, 8, 9, 10, 11, 12, 13, 14, 15, 16, 17, 18, 19] rfl 0 rfl rfl hl.1 rfl (Nat.le_of_ble_eq_true rfl) dX11_goMinute_113 ⟨by decide, by decide⟩) hP hS hA (fun r59004 H locs hr59004 hP hS => ?_)
                        have kk59005 : (3 : Int32).toInt = 3 := by decide
                        have hr59004 : (0 : Int) ≤ r59004.toInt ∧ r59004.toInt ≤ 999 ∧ ((3 : Int32).toInt = 3 → r59004.toInt ≤ 127) ∧ ((3 : Int32).toInt = 2 → r59004.toInt ≤ 99) := hr59004
                        refine lv_iload hx hb dX11_goMinute_116 (lv_at hl 4 rfl) ?_
                        refine behR (runSP (As := [.int r59004, .int x91_5]) (rest := [.int v59003, .int x91_5, .ref (q 16)]) ⟨hx, hb, hml, hown, ht⟩ (sX11_bit l G cs r59004 x91_5 ) okS_RX11_258 ⟨by decide, by decide⟩ hK hP [] rfl hl.1 rfl (Nat.le_of_ble_eq_true rfl) dX11_goMinute_118 ⟨by decide, by decide⟩) hP hS hA (fun r59006 H locs hr59006 hP hS => ?_)
                        have hr59006 : (0 : Int) ≤ r59006.toInt ∧ r59006.toInt ≤ 1 := hr59006
                        refine lv_iload hx hb dX11_goMinute_121 (lv_at hl 3 rfl) ?_
                        refine lv_imul hx hb dX11_goMinute_123 ?_
                        refine lv_topi (fun v59007 ev59007 => ?_)
                        refine lv_iadd hx hb dX11_goMinute_124 ?_
                        refine lv_topi (fun v59008 ev59008 => ?_)
                        refine va_iast hx hb hK.1 hP hD hS 8 0 rfl rfl (inK rfl (by omega) (by decide)) dX11_goMinute_125 (fun H locs hP hD hS => ?_)
                        obtain ⟨g59009, hP, hD⟩ : ∃ g59009 : Nat → Int32, va_P G vwCl (mS cs h q F (vA (vA A 15 a15_91) 16 g59009) D B) H ∧ va_D A0 (mS cs h q F (vA (vA A 15 a15_91) 16 g59009) D B) := ⟨upd a16_91 x91_5.toNatClampNeg v59008, hP, hD⟩
                        obtain ⟨v59010, ev59010⟩ : ∃ z : Int32, z = x91_5 + 1 := ⟨_, rfl⟩
                        have tv59010 : v59010.toInt = x91_5.toInt + 1 := by rw [ev59010]; exact addT rfl (by decide) (by omega)
                        refine lv_iinc (v := v59010) (lv' := [(5, .int v59010), (0, .ref h), (1, .int a1), (2, .int x23_2), (4, .int v15011)]) hx hb dX11_goMinute_126 hl (k := 4) rfl (by rw [ev59010]; rfl) (by decide) rfl (fun ls hl => ?_)
                        refine lv_goto (tgt := 91) hx hb dX11_goMinute_129 (by decide) ?_
                        exact ih91 v59010 a15_91 g59009 H locs ls (by omega) (by omega) hP hD hS (lv_sub hl [1, 2, 3, 4, 0] rfl)
                  exact B91 _ 0 a15_23 g15015 H locs ls (Nat.lt_succ_self _) (by decide) hP hD hS (lv_sub hl [3, 4, 5, 1, 0] rfl)
                · have zc15007 := eqK rfl rfl c15007
                  refine lv_goto (tgt := 132) hx hb dX11_goMinute_52 (by decide) ?_
                  exact B132 a15_23 a16_23 H locs ls hP hD hS (lv_sub hl [1, 2, 3] rfl)
        exact B23 _ 0 a15_2 a16_2 H locs ls (Nat.lt_succ_self _) (by decide) hP hD hS (lv_sub hl [1, 2, 0] rfl)
      · have zc3001 := nleK (show (7 : Int32).toInt = 7 by decide) rfl c3001
        refine lv_aload_n hx hb dX11_goMinute_8 rfl (lv_at hl 0 rfl) ?_
        refine getF (v := .ref (q 16)) hx hb ht hown hK hP iTX11 0 16 rfl rfl (by decide) fl_RX11_37 rfl dX11_goMinute_9 ?_
        refine lv_iload_n hx hb dX11_goMinute_12 rfl (lv_at hl 2 rfl) ?_
        refine lv_iconst (v := 0) hx hb dX11_goMinute_13 (by decide) ?_
        refine va_iast hx hb hK.1 hP hD hS 8 0 rfl rfl (inK rfl (by omega) (by decide)) dX11_goMinute_14 (fun H locs hP hD hS => ?_)
        obtain ⟨g3002, hP, hD⟩ : ∃ g3002 : Nat → Int32, va_P G vwCl (mS cs h q F (vA (vA A 15 a15_2) 16 g3002) D B) H ∧ va_D A0 (mS cs h q F (vA (vA A 15 a15_2) 16 g3002) D B) := ⟨upd a16_2 x2_2.toNatClampNeg (0 : Int32), hP, hD⟩
        obtain ⟨v3003, ev3003⟩ : ∃ z : Int32, z = x2_2 + 1 := ⟨_, rfl⟩
        have tv3003 : v3003.toInt = x2_2.toInt + 1 := by rw [ev3003]; exact addT rfl (by decide) (by omega)
        refine lv_iinc (v := v3003) (lv' := [(2, .int v3003), (0, .ref h), (1, .int a1)]) hx hb dX11_goMinute_15 hl (k := 2) rfl (by rw [ev3003]; rfl) (by decide) rfl (fun ls hl => ?_)
        refine lv_goto (tgt := 2) hx hb dX11_goMinute_18 (by decide) ?_
        exact ih2 v3003 a15_2 g3002 H locs ls (by omega) (by omega) hP hD hS (lv_sub hl [1, 2, 0] rfl)
  exact B2 _ 0 (A 15) (A 16) s.heap [] ls (Nat.lt_succ_self _) (by decide) hP hD hS (lv_sub hl [1, 2, 0] rfl)

set_option maxRecDepth 100000 in
set_option maxHeartbeats 8000000 in
theorem sX11_asItIs (l : Launch) (G : va_G) (cs : Nat → ClassId) (h : Nat) (q : Nat → Nat) (F : Nat → Int32) (A : Nat → Nat → Int32) (D : Int64) (B : Nat → Nat → Int64) (hI : IM F A) : ImpW l yX11_asItIs cX11_asItIs 2 4 0 0 G (TY cs) [.ref h] (mS cs h q F A D B) (fun u : Int32 × Int32 × (Nat → Int32) × (Nat → Int32) => True) (fun u : Int32 × Int32 × (Nat → Int32) × (Nat → Int32) => (mS cs h q (upd (upd F 17 u.1) 18 u.2.1) (vA (vA A 15 u.2.2.1) 16 u.2.2.2) D B)) := by
  refine mkD (Qc := (QDw G (fun u : Int32 × Int32 × (Nat → Int32) × (Nat → Int32) => True) (fun u : Int32 × Int32 × (Nat → Int32) × (Nat → Int32) => (mS cs h q (upd (upd F 17 u.1) 18 u.2.1) (vA (vA A 15 u.2.2.1) 16 u.2.2.2) D B)))) (by decide) (by simp [lg_sl, Value.category]) ?_
  intro p e s m args below meth c ls A0 hx hb hml hr hlk hown hmn ht hK hP hD hS hA hl
  have hl : lv_has ls 2 [(0, .ref h)] := hl
  refine lv_aload_n hx hb dX11_asItIs_0 rfl (lv_at hl 0 rfl) ?_
  refine behDw (wr := []) (runVD (As := []) (rest := []) ⟨hx, hb, hml, hown, ht⟩ (sX11_beAtFirst l G cs h q F A D B hI  ) okV_RX11_261 ⟨by decide, by decide⟩ hK hP hD [0, 1, 2, 3, 4, 5, 6, 7, 8, 9, 10, 11, 12, 13, 14, 15, 16, 17, 18, 19] rfl (by decide) rfl 0 rfl rfl hl.1 rfl (Nat.le_of_ble_eq_true rfl) dX11_asItIs_1 ⟨(Nat.le_of_ble_eq_true rfl), (Nat.le_of_ble_eq_true rfl)⟩) hP hD hS hA [0, 1, 2, 3, 4, 5, 6, 7, 8, 9, 10, 11, 12, 13, 14, 15, 16, 17, 18, 19] [] rfl rfl (by decide) (by decide) (fun u H locs hu hP hD hS => ?_)
  obtain ⟨x1, x2, g3⟩ := u
  have hr4 := hu
  have hP : va_P G vwCl (mS cs h q (upd (upd F 17 x1) 18 x2) (vA A 15 g3) D B) H := hP
  have hD : va_D A0 (mS cs h q (upd (upd F 17 x1) 18 x2) (vA A 15 g3) D B) := hD
  refine lv_iconst (v := 0) hx hb dX11_asItIs_4 (by decide) ?_
  refine lv_istore_n (lv' := [(1, .int 0), (0, .ref h)]) hx hb dX11_asItIs_5 rfl hl (by decide) rfl (fun ls hl => ?_)
  have B6 : ∀ (n : Nat) (x6_1 : Int32) (f17_6 : Int32) (f18_6 : Int32) (a15_6 : (Nat → Int32)) (a16_6 : (Nat → Int32)) (H : Heap) (locs : List Loc) (ls : Array Slot), (60 - x6_1.toInt).toNat < n → (0 : Int) ≤ x6_1.toInt ∧ x6_1.toInt ≤ 60 → va_P G vwCl (mS cs h q (upd (upd F 17 f17_6) 18 f18_6) (vA (vA A 15 a15_6) 16 a16_6) D B) H → va_D A0 (mS cs h q (upd (upd F 17 f17_6) 18 f18_6) (vA (vA A 15 a15_6) 16 a16_6) D B) → va_S A0 s.heap H locs → lv_has ls 2 [(0, .ref h), (1, .int x6_1)] → W p l e (rmk 4 0 0) s m args below meth c H locs 0 0 (MQ below ((QDw G (fun u : Int32 × Int32 × (Nat → Int32) × (Nat → Int32) => True) (fun u : Int32 × Int32 × (Nat → Int32) × (Nat → Int32) => (mS cs h q (upd (upd F 17 u.1) 18 u.2.1) (vA (vA A 15 u.2.2.1) 16 u.2.2.2) D B))) A0) args s 0 0 A0) (F0 m 6 ls []) := by
    intro n
    induction n with
    | zero => intro x6_1 f17_6 f18_6 a15_6 a16_6 H locs ls hmeas hx6_1 hP hD hS hl; exact absurd hmeas (Nat.not_lt_zero _)
    | succ n ih6 =>
      intro x6_1 f17_6 f18_6 a15_6 a16_6 H locs ls hmeas hx6_1 hP hD hS hl
      refine lv_iload_n hx hb dX11_asItIs_6 rfl (lv_at hl 1 rfl) ?_
      refine lv_aload_n hx hb dX11_asItIs_7 rfl (lv_at hl 0 rfl) ?_
      refine getF (v := .ref (q 1)) hx hb ht hown hK hP iTX11 0 1 rfl rfl (by decide) fl_RX11_9 rfl dX11_asItIs_8 ?_
      refine lv_bipush (v := 7) hx hb dX11_asItIs_11 (by decide) ?_
      refine va_iald hx hb hK.1 hP 1 0 rfl rfl (show ¬ (_ ∨ _) by decide) dX11_asItIs_13 ?_
      refine W.eq (g2 := F0 m 14 ls [.int (A 1 7), .int x6_1]) rfl ?_
      have zf5001 : (0 : Int) ≤ (A 1 7).toInt ∧ (A 1 7).toInt ≤ 60 := (hI.2 1 7)
      refine lv_icmp_ge (tgt := 43) hx hb dX11_asItIs_14 (by decide) (fun c5002 => ?_) (fun c5002 => ?_)
      · have zc5002 := leK rfl rfl c5002
        exact retDw (f17_6, f18_6, a15_6, a16_6) hx hb hr hlk hP hD hS dX11_asItIs_43 (trivial) (Nat.le_of_ble_eq_true rfl) (Nat.le_of_ble_eq_true rfl)
      · have zc5002 := nleK rfl rfl c5002
        refine lv_aload_n hx hb dX11_asItIs_17 rfl (lv_at hl 0 rfl) ?_
        refine lv_aload_n hx hb dX11_asItIs_18 rfl (lv_at hl 0 rfl) ?_
        refine getF (v := .ref (q 1)) hx hb ht hown hK hP iTX11 0 1 rfl rfl (by decide) fl_RX11_9 rfl dX11_asItIs_19 ?_
        refine lv_bipush (v := 84) hx hb dX11_asItIs_22 (by decide) ?_
        refine lv_iload_n hx hb dX11_asItIs_24 rfl (lv_at hl 1 rfl) ?_
        refine lv_iadd hx hb dX11_asItIs_25 ?_
        refine lv_topi (fun v5003 ev5003 => ?_)
        have tv5003 : v5003.toInt = 84 + x6_1.toInt := by rw [ev5003]; exact addT (show (84 : Int32).toInt = 84 by decide) rfl (by omega)
        refine va_iald hx hb hK.1 hP 1 0 rfl rfl (inK rfl (by omega) (by decide)) dX11_asItIs_26 ?_
        refine lv_topi (fun v5004 ev5004 => ?_)
        have zf5005 : (-1 : Int) ≤ v5004.toInt ∧ v5004.toInt ≤ 6 := by rw [ev5004]; exact w84 (k := 1) (fun j => (hI.2 1 j)) ⟨rfl, rfl⟩ (by have zz := clK (i := v5003) rfl (by omega); omega)
        refine lv_iconst (v := 0) hx hb dX11_asItIs_27 (by decide) ?_
        refine behDi (wr := []) (runVD (As := [.int v5004, .int 0]) (rest := []) ⟨hx, hb, hml, hown, ht⟩ (sX11_callIn l G cs h q (upd (upd F 17 f17_6) 18 f18_6) (vA (vA A 15 a15_6) 16 a16_6) D B (IM_arr (k := 16) (IM_arr (k := 15) (IM_put (k := 18) (IM_put (k := 17) hI (i32b _)) (i32b _)) (fun _ => i32b _)) (fun _ => i32b _)) v5004 0 (by omega) (by decide)) okV_RX11_264 ⟨by decide, by decide⟩ hK hP hD [0, 1, 2, 3, 4, 5, 6, 7, 8, 9, 10, 11, 12, 13, 14, 15, 16, 17, 18, 19] rfl (by decide) rfl 0 rfl rfl hl.1 rfl (Nat.le_of_ble_eq_true rfl) dX11_asItIs_28 ⟨(Nat.le_of_ble_eq_true rfl), (Nat.le_of_ble_eq_true rfl)⟩) hP hD hS hA [0, 1, 2, 3, 4, 5, 6, 7, 8, 9, 10, 11, 12, 13, 14, 15, 16, 17, 18, 19] [] rfl rfl (by decide) (by decide) (fun r9 u H locs hu hP hD hS => ?_)
        obtain ⟨x5006, g5007⟩ := u
        obtain ⟨r5008, rfl⟩ : ∃ z, z = r9 := ⟨_, rfl⟩
        have hr5008 := hu
        have hP : va_P G vwCl (mS cs h q (upd (upd F 17 f17_6) 18 x5006) (vA (vA A 15 g5007) 16 a16_6) D B) H := hP
        have hD : va_D A0 (mS cs h q (upd (upd F 17 f17_6) 18 x5006) (vA (vA A 15 g5007) 16 a16_6) D B) := hD
        refine lv_pop hx hb dX11_asItIs_31 rfl ?_
        refine lv_aload_n hx hb dX11_asItIs_32 rfl (lv_at hl 0 rfl) ?_
        refine lv_iconst (v := (-1)) hx hb dX11_asItIs_33 (by decide) ?_
        refine behDw (wr := []) (runVD (As := [.int (-1)]) (rest := []) ⟨hx, hb, hml, hown, ht⟩ (sX11_goMinute l G cs h q (upd (upd F 17 f17_6) 18 x5006) (vA (vA A 15 g5007) 16 a16_6) D B (IM_arr (k := 16) (IM_arr (k := 15) (IM_put (k := 18) (IM_put (k := 17) hI (i32b _)) (i32b _)) (fun _ => i32b _)) (fun _ => i32b _)) (-1) ) okV_RX11_267 ⟨by decide, by decide⟩ hK hP hD [0, 1, 2, 3, 4, 5, 6, 7, 8, 9, 10, 11, 12, 13, 14, 15, 16, 17, 18, 19] rfl (by decide) rfl 0 rfl rfl hl.1 rfl (Nat.le_of_ble_eq_true rfl) dX11_asItIs_34 ⟨(Nat.le_of_ble_eq_true rfl), (Nat.le_of_ble_eq_true rfl)⟩) hP hD hS hA [0, 1, 2, 3, 4, 5, 6, 7, 8, 9, 10, 11, 12, 13, 14, 15, 16, 17, 18, 19] [] rfl rfl (by decide) (by decide) (fun u H locs hu hP hD hS => ?_)
        obtain ⟨g5009, g5010⟩ := u
        have hr5011 := hu
        have hP : va_P G vwCl (mS cs h q (upd (upd F 17 f17_6) 18 x5006) (vA (vA A 15 g5009) 16 g5010) D B) H := hP
        have hD : va_D A0 (mS cs h q (upd (upd F 17 f17_6) 18 x5006) (vA (vA A 15 g5009) 16 g5010) D B) := hD
        obtain ⟨v5012, ev5012⟩ : ∃ z : Int32, z = x6_1 + 1 := ⟨_, rfl⟩
        have tv5012 : v5012.toInt = x6_1.toInt + 1 := by rw [ev5012]; exact addT rfl (by decide) (by omega)
        refine lv_iinc (v := v5012) (lv' := [(1, .int v5012), (0, .ref h)]) hx hb dX11_asItIs_37 hl (k := 1) rfl (by rw [ev5012]; rfl) (by decide) rfl (fun ls hl => ?_)
        refine lv_goto (tgt := 6) hx hb dX11_asItIs_40 (by decide) ?_
        exact ih6 v5012 f17_6 x5006 g5009 g5010 H locs ls (by omega) (by omega) hP hD hS (lv_sub hl [1, 0] rfl)
  exact B6 _ 0 x1 x2 g3 (A 16) H locs ls (Nat.lt_succ_self _) (by decide) hP hD hS (lv_sub hl [1, 0] rfl)

set_option maxRecDepth 100000 in
set_option maxHeartbeats 8000000 in
theorem sX11_inHouse (l : Launch) (G : va_G) (cs : Nat → ClassId) (h : Nat) (q : Nat → Nat) (F : Nat → Int32) (A : Nat → Nat → Int32) (D : Int64) (B : Nat → Nat → Int64) (hI : IM F A) : SafeR l yX11_inHouse cX11_inHouse 3 (some .int) 0 G (TY cs) [.ref h] (mS cs h q F A D B) (fun r : Int32 => True) := by
  refine mkP (Qc := QRi (fun r : Int32 => True)) (by decide) (by simp [lg_sl, Value.category]) ?_
  intro p e s m args below meth c ls hx hb hml hr hlk hown ht hK hP hS hl
  have hl : lv_has ls 3 [(0, .ref h)] := hl
  refine lv_iconst (v := 0) hx hb dX11_inHouse_0 (by decide) ?_
  refine lv_istore_n (lv' := [(1, .int 0), (0, .ref h)]) hx hb dX11_inHouse_1 rfl hl (by decide) rfl (fun ls hl => ?_)
  refine lv_iconst (v := 0) hx hb dX11_inHouse_2 (by decide) ?_
  refine lv_istore_n (lv' := [(2, .int 0), (1, .int 0), (0, .ref h)]) hx hb dX11_inHouse_3 rfl hl (by decide) rfl (fun ls hl => ?_)
  have B4 : ∀ (n : Nat) (x4_1 : Int32) (x4_2 : Int32) (H : Heap) (locs : List Loc) (ls : Array Slot), (7 - x4_2.toInt).toNat < n → (0 : Int) ≤ x4_2.toInt ∧ x4_2.toInt ≤ 7 → va_P G vwCl (mS cs h q F A D B) H → va_S (fun q => s.heap.size ≤ q) s.heap H locs → lv_has ls 3 [(0, .ref h), (1, .int x4_1), (2, .int x4_2)] → W p l e (rmk 0 0 0) s m args below meth c H locs 0 0 (MQ below (QRi (fun r : Int32 => True) s.heap.size) args s 0 0 (fun q => s.heap.size ≤ q)) (F0 m 4 ls []) := by
    intro n
    induction n with
    | zero => intro x4_1 x4_2 H locs ls hmeas hx4_2 hP hS hl; exact absurd hmeas (Nat.not_lt_zero _)
    | succ n ih4 =>
      intro x4_1 x4_2 H locs ls hmeas hx4_2 hP hS hl
      refine lv_iload_n hx hb dX11_inHouse_4 rfl (lv_at hl 2 rfl) ?_
      refine lv_aload_n hx hb dX11_inHouse_5 rfl (lv_at hl 0 rfl) ?_
      refine getF (v := .ref (q 1)) hx hb ht hown hK hP iTX11 0 1 rfl rfl (by decide) fl_RX11_9 rfl dX11_inHouse_6 ?_
      refine lv_iconst (v := 4) hx hb dX11_inHouse_9 (by decide) ?_
      refine va_iald hx hb hK.1 hP 1 0 rfl rfl (show ¬ (_ ∨ _) by decide) dX11_inHouse_10 ?_
      refine W.eq (g2 := F0 m 11 ls [.int (A 1 4), .int x4_2]) rfl ?_
      have zf5001 : (0 : Int) ≤ (A 1 4).toInt ∧ (A 1 4).toInt ≤ 7 := (hI.2 1 4)
      refine lv_icmp_ge (tgt := 29) hx hb dX11_inHouse_11 (by decide) (fun c5002 => ?_) (fun c5002 => ?_)
      · have zc5002 := leK rfl rfl c5002
        refine lv_iload_n hx hb dX11_inHouse_29 rfl (lv_at hl 1 rfl) ?_
        exact retRi hx hb hr hlk hS dX11_inHouse_30 (trivial)
      · have zc5002 := nleK rfl rfl c5002
        refine lv_iload_n hx hb dX11_inHouse_14 rfl (lv_at hl 1 rfl) ?_
        refine lv_aload_n hx hb dX11_inHouse_15 rfl (lv_at hl 0 rfl) ?_
        refine getF (v := .ref (q 15)) hx hb ht hown hK hP iTX11 0 15 rfl rfl (by decide) fl_RX11_34 rfl dX11_inHouse_16 ?_
        refine lv_iload_n hx hb dX11_inHouse_19 rfl (lv_at hl 2 rfl) ?_
        refine va_iald hx hb hK.1 hP 7 0 rfl rfl (inK rfl (by omega) (by decide)) dX11_inHouse_20 ?_
        refine lv_topi (fun v5003 ev5003 => ?_)
        refine lv_iadd hx hb dX11_inHouse_21 ?_
        refine lv_topi (fun v5004 ev5004 => ?_)
        refine lv_istore_n (lv' := [(1, .int v5004), (0, .ref h), (2, .int x4_2)]) hx hb dX11_inHouse_22 rfl hl (by decide) rfl (fun ls hl => ?_)
        obtain ⟨v5005, ev5005⟩ : ∃ z : Int32, z = x4_2 + 1 := ⟨_, rfl⟩
        have tv5005 : v5005.toInt = x4_2.toInt + 1 := by rw [ev5005]; exact addT rfl (by decide) (by omega)
        refine lv_iinc (v := v5005) (lv' := [(2, .int v5005), (1, .int v5004), (0, .ref h)]) hx hb dX11_inHouse_23 hl (k := 2) rfl (by rw [ev5005]; rfl) (by decide) rfl (fun ls hl => ?_)
        refine lv_goto (tgt := 4) hx hb dX11_inHouse_26 (by decide) ?_
        exact ih4 v5004 v5005 H locs ls (by omega) (by omega) hP hS (lv_sub hl [2, 1, 0] rfl)
  exact B4 _ 0 0 s.heap [] ls (Nat.lt_succ_self _) (by decide) hP hS (lv_sub hl [2, 1, 0] rfl)

set_option maxRecDepth 100000 in
set_option maxHeartbeats 8000000 in
theorem sX11_inMillion (l : Launch) (G : va_G) (cs : Nat → ClassId) (h : Nat) (q : Nat → Nat) (F : Nat → Int32) (A : Nat → Nat → Int32) (D : Int64) (B : Nat → Nat → Int64) (hI : IM F A) (a1 : Int32) : SafeR l yX11_inMillion cX11_inMillion 3 (some .int) 1 G (TY cs) [.ref h, .int a1] (mS cs h q F A D B) (fun r : Int32 => True) := by
  refine mkP (Qc := QRi (fun r : Int32 => True)) (by decide) (by simp [lg_sl, Value.category]) ?_
  intro p e s m args below meth c ls hx hb hml hr hlk hown ht hK hP hS hl
  have hl : lv_has ls 3 [(0, .ref h), (1, .int a1)] := hl
  refine lv_aload_n hx hb dX11_inMillion_0 rfl (lv_at hl 0 rfl) ?_
  refine behR (runVP (As := []) (rest := []) ⟨hx, hb, hml, hown, ht⟩ (sX11_inHouse l G cs h q F A D B hI  ) okV_RX11_270 ⟨by decide, by decide⟩ hK hP [0, 1, 2, 3, 4, 5, 6, 7, 8, 9, 10, 11, 12, 13, 14, 15, 16, 17, 18, 19] rfl 0 rfl rfl hl.1 rfl (Nat.le_of_ble_eq_true rfl) dX11_inMillion_1 ⟨by decide, by decide⟩) hP hS (fun _ h => h) (fun r1 H locs hr1 hP hS => ?_)
  refine lv_aload_n hx hb dX11_inMillion_4 rfl (lv_at hl 0 rfl) ?_
  refine getF (v := .int (F 17)) hx hb ht hown hK hP iTX11 0 17 rfl rfl (by decide) fl_RX11_246 rfl dX11_inMillion_5 ?_
  refine lv_iadd hx hb dX11_inMillion_8 ?_
  refine lv_topi (fun v2 ev2 => ?_)
  refine lv_istore_n (lv' := [(2, .int v2), (0, .ref h), (1, .int a1)]) hx hb dX11_inMillion_9 rfl hl (by decide) rfl (fun ls hl => ?_)
  refine lv_iload_n hx hb dX11_inMillion_10 rfl (lv_at hl 0 rfl) ?_
  refine lv_if_ne (tgt := 18) hx hb dX11_inMillion_11 (by decide) (fun c3 => ?_) (fun c3 => ?_)
  · have zc3 := neK rfl (show (0 : Int32).toInt = 0 by decide) c3
    refine lv_iload_n hx hb dX11_inMillion_18 rfl (lv_at hl 2 rfl) ?_
    refine lv_i2l hx hb dX11_inMillion_19 rfl ?_
    have bb4 := i32b a1
    refine lv_topl (fun v5 ev5 => ?_)
    have tv5 : v5.toInt = a1.toInt := by rw [ev5]; exact Int32.toInt_toInt64 _
    refine lv_ldc2 hx hb hown (ht _ kl_RX11_273) dX11_inMillion_20 ?_
    refine lv_lmul hx hb dX11_inMillion_23 ?_
    refine lv_topl (fun v6 ev6 => ?_)
    have tv6 : v6.toInt = v5.toInt * 1000000 := by rw [ev6]; exact mulL rfl (show (1000000 : Int64).toInt = 1000000 by decide) (by omega)
    refine lv_iload_n hx hb dX11_inMillion_24 rfl (lv_at hl 0 rfl) ?_
    refine lv_i2l hx hb dX11_inMillion_25 rfl ?_
    have bb7 := i32b v2
    refine lv_topl (fun v8 ev8 => ?_)
    have tv8 : v8.toInt = v2.toInt := by rw [ev8]; exact Int32.toInt_toInt64 _
    refine lv_ldiv hx hb dX11_inMillion_26 (n0L rfl (by omega)) ?_
    refine lv_topl (fun v9 ev9 => ?_)
    refine lv_l2i hx hb dX11_inMillion_27 rfl ?_
    refine lv_topi (fun v10 ev10 => ?_)
    exact retRi hx hb hr hlk hS dX11_inMillion_28 (trivial)
  · have zc3 := eqK rfl (show (0 : Int32).toInt = 0 by decide) c3
    refine lv_iconst (v := 0) hx hb dX11_inMillion_14 (by decide) ?_
    refine lv_goto (tgt := 28) hx hb dX11_inMillion_15 (by decide) ?_
    exact retRi hx hb hr hlk hS dX11_inMillion_28 (trivial)

set_option maxRecDepth 100000 in
set_option maxHeartbeats 8000000 in
theorem sX11_parts (l : Launch) (G : va_G) (cs : Nat → ClassId) (h : Nat) (q : Nat → Nat) (F : Nat → Int32) (A : Nat → Nat → Int32) (D : Int64) (B : Nat → Nat → Int64) (hI : IM F A) (a1 : Int32) : ImpI l yX11_parts cX11_parts 2 (some .int) 5 0 0 G (TY cs) [.ref h, .int a1] (mS cs h q F A D B) (fun (r : Int32) (u : Int32 × Int32 × (Nat → Int32) × (Nat → Int32)) => True) (fun u : Int32 × Int32 × (Nat → Int32) × (Nat → Int32) => (mS cs h q (upd (upd F 17 u.1) 18 u.2.1) (vA (vA A 15 u.2.2.1) 16 u.2.2.2) D B)) := by
  refine mkD (Qc := (QDi G (fun (r : Int32) (u : Int32 × Int32 × (Nat → Int32) × (Nat → Int32)) => True) (fun u : Int32 × Int32 × (Nat → Int32) × (Nat → Int32) => (mS cs h q (upd (upd F 17 u.1) 18 u.2.1) (vA (vA A 15 u.2.2.1) 16 u.2.2.2) D B)))) (by decide) (by simp [lg_sl, Value.category]) ?_
  intro p e s m args below meth c ls A0 hx hb hml hr hlk hown hmn ht hK hP hD hS hA hl
  have hl : lv_has ls 2 [(0, .ref h), (1, .int a1)] := hl
  refine lv_aload_n hx hb dX11_parts_0 rfl (lv_at hl 0 rfl) ?_
  refine lv_iload_n hx hb dX11_parts_1 rfl (lv_at hl 1 rfl) ?_
  refine lv_i2l hx hb dX11_parts_2 rfl ?_
  have bb1 := i32b a1
  refine lv_topl (fun v2 ev2 => ?_)
  have tv2 : v2.toInt = a1.toInt := by rw [ev2]; exact Int32.toInt_toInt64 _
  refine behR (runVP (As := [.long v2]) (rest := []) ⟨hx, hb, hml, hown, ht⟩ (sX11_isRoomOrNone l G cs h q F A D B hI v2 ) okV_RX11_275 ⟨by decide, by decide⟩ hK hP [0, 1, 2, 3, 4, 5, 6, 7, 8, 9, 10, 11, 12, 13, 14, 15, 16, 17, 18, 19] rfl 0 rfl rfl hl.1 rfl (Nat.le_of_ble_eq_true rfl) dX11_parts_3 ⟨by decide, by decide⟩) hP hS hA (fun r3 H locs hr3 hP hS => ?_)
  have hr3 : (r3.toInt = 1 ∧ -1 ≤ v2.toInt ∧ v2.toInt ≤ 6) ∨ r3.toInt = 0 := hr3
  refine lv_if_ne (tgt := 12) hx hb dX11_parts_6 (by decide) (fun c4 => ?_) (fun c4 => ?_)
  · have zc4 := neK rfl (show (0 : Int32).toInt = 0 by decide) c4
    refine lv_aload_n hx hb dX11_parts_12 rfl (lv_at hl 0 rfl) ?_
    refine behDw (wr := []) (runVD (As := []) (rest := []) ⟨hx, hb, hml, hown, ht⟩ (sX11_asItIs l G cs h q F A D B hI  ) okV_RX11_278 ⟨by decide, by decide⟩ hK hP hD [0, 1, 2, 3, 4, 5, 6, 7, 8, 9, 10, 11, 12, 13, 14, 15, 16, 17, 18, 19] rfl (by decide) rfl 0 rfl rfl hl.1 rfl (Nat.le_of_ble_eq_true rfl) dX11_parts_13 ⟨(Nat.le_of_ble_eq_true rfl), (Nat.le_of_ble_eq_true rfl)⟩) hP hD hS hA [0, 1, 2, 3, 4, 5, 6, 7, 8, 9, 10, 11, 12, 13, 14, 15, 16, 17, 18, 19] [] rfl rfl (by decide) (by decide) (fun u H locs hu hP hD hS => ?_)
    obtain ⟨x5, x6, g7, g8⟩ := u
    have hr9 := hu
    have hP : va_P G vwCl (mS cs h q (upd (upd F 17 x5) 18 x6) (vA (vA A 15 g7) 16 g8) D B) H := hP
    have hD : va_D A0 (mS cs h q (upd (upd F 17 x5) 18 x6) (vA (vA A 15 g7) 16 g8) D B) := hD
    refine lv_iload_n hx hb dX11_parts_16 rfl (lv_at hl 1 rfl) ?_
    refine lv_iconst (v := (-1)) hx hb dX11_parts_17 (by decide) ?_
    refine lv_icmp_ne (tgt := 28) hx hb dX11_parts_18 (by decide) (fun c10 => ?_) (fun c10 => ?_)
    · have zc10 := neK rfl (show (-1 : Int32).toInt = (-1) by decide) c10
      refine lv_aload_n hx hb dX11_parts_28 rfl (lv_at hl 0 rfl) ?_
      refine getF (v := .ref (q 15)) hx hb ht hown hK hP iTX11 0 15 rfl rfl (by decide) fl_RX11_34 rfl dX11_parts_29 ?_
      refine lv_iload_n hx hb dX11_parts_32 rfl (lv_at hl 1 rfl) ?_
      refine va_iald hx hb hK.1 hP 7 0 rfl rfl (inK rfl (by omega) (by decide)) dX11_parts_33 ?_
      refine lv_topi (fun v11 ev11 => ?_)
      exact retDi (x5, x6, g7, g8) hx hb hr hlk hP hD hS dX11_parts_34 (trivial) (Nat.le_of_ble_eq_true rfl) (Nat.le_of_ble_eq_true rfl)
    · have zc10 := eqK rfl (show (-1 : Int32).toInt = (-1) by decide) c10
      refine lv_aload_n hx hb dX11_parts_21 rfl (lv_at hl 0 rfl) ?_
      refine getF (v := .int x5) hx hb ht hown hK hP iTX11 0 17 rfl rfl (by decide) fl_RX11_246 rfl dX11_parts_22 ?_
      refine lv_goto (tgt := 34) hx hb dX11_parts_25 (by decide) ?_
      exact retDi (x5, x6, g7, g8) hx hb hr hlk hP hD hS dX11_parts_34 (trivial) (Nat.le_of_ble_eq_true rfl) (Nat.le_of_ble_eq_true rfl)
  · have zc4 := eqK rfl (show (0 : Int32).toInt = 0 by decide) c4
    refine lv_bipush (v := (-2)) hx hb dX11_parts_9 (by decide) ?_
    exact retDi ((F 17), (F 18), (A 15), (A 16)) hx hb hr hlk hP hD hS dX11_parts_11 (trivial) (Nat.le_of_ble_eq_true rfl) (Nat.le_of_ble_eq_true rfl)

set_option maxRecDepth 100000 in
set_option maxHeartbeats 8000000 in
theorem sX11_found (l : Launch) (G : va_G) (cs : Nat → ClassId) (h : Nat) (q : Nat → Nat) (F : Nat → Int32) (A : Nat → Nat → Int32) (D : Int64) (B : Nat → Nat → Int64) (hI : IM F A) : ImpI l yX11_found cX11_found 1 (some .int) 5 0 0 G (TY cs) [.ref h] (mS cs h q F A D B) (fun (r : Int32) (u : Int32 × Int32 × (Nat → Int32) × (Nat → Int32)) => True) (fun u : Int32 × Int32 × (Nat → Int32) × (Nat → Int32) => (mS cs h q (upd (upd F 17 u.1) 18 u.2.1) (vA (vA A 15 u.2.2.1) 16 u.2.2.2) D B)) := by
  refine mkD (Qc := (QDi G (fun (r : Int32) (u : Int32 × Int32 × (Nat → Int32) × (Nat → Int32)) => True) (fun u : Int32 × Int32 × (Nat → Int32) × (Nat → Int32) => (mS cs h q (upd (upd F 17 u.1) 18 u.2.1) (vA (vA A 15 u.2.2.1) 16 u.2.2.2) D B)))) (by decide) (by simp [lg_sl, Value.category]) ?_
  intro p e s m args below meth c ls A0 hx hb hml hr hlk hown hmn ht hK hP hD hS hA hl
  have hl : lv_has ls 1 [(0, .ref h)] := hl
  refine lv_aload_n hx hb dX11_found_0 rfl (lv_at hl 0 rfl) ?_
  refine behR (runVP (As := []) (rest := []) ⟨hx, hb, hml, hown, ht⟩ (sX11_isHouse l G cs h q F A D B hI  ) okV_RX11_83 ⟨by decide, by decide⟩ hK hP [0, 1, 2, 3, 4, 5, 6, 7, 8, 9, 10, 11, 12, 13, 14, 15, 16, 17, 18, 19] rfl 0 rfl rfl hl.1 rfl (Nat.le_of_ble_eq_true rfl) dX11_found_1 ⟨by decide, by decide⟩) hP hS hA (fun r1 H locs hr1 hP hS => ?_)
  have hr1 : (0 : Int) ≤ r1.toInt ∧ r1.toInt ≤ 1 := hr1
  refine lv_if_ne (tgt := 10) hx hb dX11_found_4 (by decide) (fun c2 => ?_) (fun c2 => ?_)
  · have zc2 := neK rfl (show (0 : Int32).toInt = 0 by decide) c2
    refine lv_aload_n hx hb dX11_found_10 rfl (lv_at hl 0 rfl) ?_
    refine behDw (wr := []) (runVD (As := []) (rest := []) ⟨hx, hb, hml, hown, ht⟩ (sX11_asItIs l G cs h q F A D B hI  ) okV_RX11_278 ⟨by decide, by decide⟩ hK hP hD [0, 1, 2, 3, 4, 5, 6, 7, 8, 9, 10, 11, 12, 13, 14, 15, 16, 17, 18, 19] rfl (by decide) rfl 0 rfl rfl hl.1 rfl (Nat.le_of_ble_eq_true rfl) dX11_found_11 ⟨(Nat.le_of_ble_eq_true rfl), (Nat.le_of_ble_eq_true rfl)⟩) hP hD hS hA [0, 1, 2, 3, 4, 5, 6, 7, 8, 9, 10, 11, 12, 13, 14, 15, 16, 17, 18, 19] [] rfl rfl (by decide) (by decide) (fun u H locs hu hP hD hS => ?_)
    obtain ⟨x3, x4, g5, g6⟩ := u
    have hr7 := hu
    have hP : va_P G vwCl (mS cs h q (upd (upd F 17 x3) 18 x4) (vA (vA A 15 g5) 16 g6) D B) H := hP
    have hD : va_D A0 (mS cs h q (upd (upd F 17 x3) 18 x4) (vA (vA A 15 g5) 16 g6) D B) := hD
    refine lv_aload_n hx hb dX11_found_14 rfl (lv_at hl 0 rfl) ?_
    refine getF (v := .int x4) hx hb ht hown hK hP iTX11 0 18 rfl rfl (by decide) fl_RX11_249 rfl dX11_found_15 ?_
    exact retDi (x3, x4, g5, g6) hx hb hr hlk hP hD hS dX11_found_18 (trivial) (Nat.le_of_ble_eq_true rfl) (Nat.le_of_ble_eq_true rfl)
  · have zc2 := eqK rfl (show (0 : Int32).toInt = 0 by decide) c2
    refine lv_bipush (v := (-2)) hx hb dX11_found_7 (by decide) ?_
    exact retDi ((F 17), (F 18), (A 15), (A 16)) hx hb hr hlk hP hD hS dX11_found_9 (trivial) (Nat.le_of_ble_eq_true rfl) (Nat.le_of_ble_eq_true rfl)

set_option maxRecDepth 100000 in
set_option maxHeartbeats 8000000 in
theorem sX11_likely (l : Launch) (G : va_G) (cs : Nat → ClassId) (h : Nat) (q : Nat → Nat) (F : Nat → Int32) (A : Nat → Nat → Int32) (D : Int64) (B : Nat → Nat → Int64) (hI : IM F A) : ImpI l yX11_likely cX11_likely 3 (some .int) 5 0 0 G (TY cs) [.ref h] (mS cs h q F A D B) (fun (r : Int32) (u : Int32 × Int32 × (Nat → Int32) × (Nat → Int32)) => True) (fun u : Int32 × Int32 × (Nat → Int32) × (Nat → Int32) => (mS cs h q (upd (upd F 17 u.1) 18 u.2.1) (vA (vA A 15 u.2.2.1) 16 u.2.2.2) D B)) := by
  refine mkD (Qc := (QDi G (fun (r : Int32) (u : Int32 × Int32 × (Nat → Int32) × (Nat → Int32)) => True) (fun u : Int32 × Int32 × (Nat → Int32) × (Nat → Int32) => (mS cs h q (upd (upd F 17 u.1) 18 u.2.1) (vA (vA A 15 u.2.2.1) 16 u.2.2.2) D B)))) (by decide) (by simp [lg_sl, Value.category]) ?_
  intro p e s m args below meth c ls A0 hx hb hml hr hlk hown hmn ht hK hP hD hS hA hl
  have hl : lv_has ls 3 [(0, .ref h)] := hl
  refine lv_aload_n hx hb dX11_likely_0 rfl (lv_at hl 0 rfl) ?_
  refine behR (runVP (As := []) (rest := []) ⟨hx, hb, hml, hown, ht⟩ (sX11_isHouse l G cs h q F A D B hI  ) okV_RX11_83 ⟨by decide, by decide⟩ hK hP [0, 1, 2, 3, 4, 5, 6, 7, 8, 9, 10, 11, 12, 13, 14, 15, 16, 17, 18, 19] rfl 0 rfl rfl hl.1 rfl (Nat.le_of_ble_eq_true rfl) dX11_likely_1 ⟨by decide, by decide⟩) hP hS hA (fun r1 H locs hr1 hP hS => ?_)
  have hr1 : (0 : Int) ≤ r1.toInt ∧ r1.toInt ≤ 1 := hr1
  refine lv_if_ne (tgt := 10) hx hb dX11_likely_4 (by decide) (fun c2 => ?_) (fun c2 => ?_)
  · have zc2 := neK rfl (show (0 : Int32).toInt = 0 by decide) c2
    refine lv_aload_n hx hb dX11_likely_10 rfl (lv_at hl 0 rfl) ?_
    refine behDw (wr := []) (runVD (As := []) (rest := []) ⟨hx, hb, hml, hown, ht⟩ (sX11_asItIs l G cs h q F A D B hI  ) okV_RX11_278 ⟨by decide, by decide⟩ hK hP hD [0, 1, 2, 3, 4, 5, 6, 7, 8, 9, 10, 11, 12, 13, 14, 15, 16, 17, 18, 19] rfl (by decide) rfl 0 rfl rfl hl.1 rfl (Nat.le_of_ble_eq_true rfl) dX11_likely_11 ⟨(Nat.le_of_ble_eq_true rfl), (Nat.le_of_ble_eq_true rfl)⟩) hP hD hS hA [0, 1, 2, 3, 4, 5, 6, 7, 8, 9, 10, 11, 12, 13, 14, 15, 16, 17, 18, 19] [] rfl rfl (by decide) (by decide) (fun u H locs hu hP hD hS => ?_)
    obtain ⟨x3, x4, g5, g6⟩ := u
    have hr7 := hu
    have hP : va_P G vwCl (mS cs h q (upd (upd F 17 x3) 18 x4) (vA (vA A 15 g5) 16 g6) D B) H := hP
    have hD : va_D A0 (mS cs h q (upd (upd F 17 x3) 18 x4) (vA (vA A 15 g5) 16 g6) D B) := hD
    refine lv_iconst (v := (-1)) hx hb dX11_likely_14 (by decide) ?_
    refine lv_istore_n (lv' := [(1, .int (-1)), (0, .ref h)]) hx hb dX11_likely_15 rfl hl (by decide) rfl (fun ls hl => ?_)
    refine lv_iconst (v := 0) hx hb dX11_likely_16 (by decide) ?_
    refine lv_istore_n (lv' := [(2, .int 0), (1, .int (-1)), (0, .ref h)]) hx hb dX11_likely_17 rfl hl (by decide) rfl (fun ls hl => ?_)
    have B18 : ∀ (n : Nat) (x18_1 : Int32) (x18_2 : Int32) (f17_18 : Int32) (f18_18 : Int32) (a15_18 : (Nat → Int32)) (a16_18 : (Nat → Int32)) (H : Heap) (locs : List Loc) (ls : Array Slot), (7 - x18_2.toInt).toNat < n → (-1 : Int) ≤ x18_1.toInt ∧ x18_1.toInt ≤ 6 → (0 : Int) ≤ x18_2.toInt ∧ x18_2.toInt ≤ 7 → va_P G vwCl (mS cs h q (upd (upd F 17 f17_18) 18 f18_18) (vA (vA A 15 a15_18) 16 a16_18) D B) H → va_D A0 (mS cs h q (upd (upd F 17 f17_18) 18 f18_18) (vA (vA A 15 a15_18) 16 a16_18) D B) → va_S A0 s.heap H locs → lv_has ls 3 [(0, .ref h), (1, .int x18_1), (2, .int x18_2)] → W p l e (rmk 5 0 0) s m args below meth c H locs 0 0 (MQ below ((QDi G (fun (r : Int32) (u : Int32 × Int32 × (Nat → Int32) × (Nat → Int32)) => True) (fun u : Int32 × Int32 × (Nat → Int32) × (Nat → Int32) => (mS cs h q (upd (upd F 17 u.1) 18 u.2.1) (vA (vA A 15 u.2.2.1) 16 u.2.2.2) D B))) A0) args s 0 0 A0) (F0 m 18 ls []) := by
      intro n
      induction n with
      | zero => intro x18_1 x18_2 f17_18 f18_18 a15_18 a16_18 H locs ls hmeas hx18_1 hx18_2 hP hD hS hl; exact absurd hmeas (Nat.not_lt_zero _)
      | succ n ih18 =>
        intro x18_1 x18_2 f17_18 f18_18 a15_18 a16_18 H locs ls hmeas hx18_1 hx18_2 hP hD hS hl
        refine lv_iload_n hx hb dX11_likely_18 rfl (lv_at hl 2 rfl) ?_
        refine lv_aload_n hx hb dX11_likely_19 rfl (lv_at hl 0 rfl) ?_
        refine getF (v := .ref (q 1)) hx hb ht hown hK hP iTX11 0 1 rfl rfl (by decide) fl_RX11_9 rfl dX11_likely_20 ?_
        refine lv_iconst (v := 4) hx hb dX11_likely_23 (by decide) ?_
        refine va_iald hx hb hK.1 hP 1 0 rfl rfl (show ¬ (_ ∨ _) by decide) dX11_likely_24 ?_
        refine W.eq (g2 := F0 m 25 ls [.int (A 1 4), .int x18_2]) rfl ?_
        have zf12001 : (0 : Int) ≤ (A 1 4).toInt ∧ (A 1 4).toInt ≤ 7 := (hI.2 1 4)
        refine lv_icmp_ge (tgt := 60) hx hb dX11_likely_25 (by decide) (fun c12002 => ?_) (fun c12002 => ?_)
        · have zc12002 := leK rfl rfl c12002
          refine lv_iload_n hx hb dX11_likely_60 rfl (lv_at hl 1 rfl) ?_
          exact retDi (f17_18, f18_18, a15_18, a16_18) hx hb hr hlk hP hD hS dX11_likely_61 (trivial) (Nat.le_of_ble_eq_true rfl) (Nat.le_of_ble_eq_true rfl)
        · have zc12002 := nleK rfl rfl c12002
          refine lv_iload_n hx hb dX11_likely_28 rfl (lv_at hl 1 rfl) ?_
          refine lv_iconst (v := (-1)) hx hb dX11_likely_29 (by decide) ?_
          have B53 : ∀ (s53_0 : Int32) (f17_53 : Int32) (f18_53 : Int32) (a15_53 : (Nat → Int32)) (a16_53 : (Nat → Int32)) (H : Heap) (locs : List Loc) (ls : Array Slot), (0 : Int) ≤ s53_0.toInt ∧ s53_0.toInt ≤ 6 → va_P G vwCl (mS cs h q (upd (upd F 17 f17_53) 18 f18_53) (vA (vA A 15 a15_53) 16 a16_53) D B) H → va_D A0 (mS cs h q (upd (upd F 17 f17_53) 18 f18_53) (vA (vA A 15 a15_53) 16 a16_53) D B) → va_S A0 s.heap H locs → lv_has ls 3 [(0, .ref h), (2, .int x18_2)] → W p l e (rmk 5 0 0) s m args below meth c H locs 0 0 (MQ below ((QDi G (fun (r : Int32) (u : Int32 × Int32 × (Nat → Int32) × (Nat → Int32)) => True) (fun u : Int32 × Int32 × (Nat → Int32) × (Nat → Int32) => (mS cs h q (upd (upd F 17 u.1) 18 u.2.1) (vA (vA A 15 u.2.2.1) 16 u.2.2.2) D B))) A0) args s 0 0 A0) (F0 m 53 ls [.int s53_0]) := by
            intro s53_0 f17_53 f18_53 a15_53 a16_53 H locs ls hs53_0 hP hD hS hl
            refine lv_istore_n (lv' := [(1, .int s53_0), (0, .ref h), (2, .int x18_2)]) hx hb dX11_likely_53 rfl hl (by decide) rfl (fun ls hl => ?_)
            obtain ⟨v33001, ev33001⟩ : ∃ z : Int32, z = x18_2 + 1 := ⟨_, rfl⟩
            have tv33001 : v33001.toInt = x18_2.toInt + 1 := by rw [ev33001]; exact addT rfl (by decide) (by omega)
            refine lv_iinc (v := v33001) (lv' := [(2, .int v33001), (1, .int s53_0), (0, .ref h)]) hx hb dX11_likely_54 hl (k := 2) rfl (by rw [ev33001]; rfl) (by decide) rfl (fun ls hl => ?_)
            refine lv_goto (tgt := 18) hx hb dX11_likely_57 (by decide) ?_
            exact ih18 s53_0 v33001 f17_53 f18_53 a15_53 a16_53 H locs ls (by omega) (by omega) (by omega) hP hD hS (lv_sub hl [2, 1, 0] rfl)
          have B48 : ∀ (f17_48 : Int32) (f18_48 : Int32) (a15_48 : (Nat → Int32)) (a16_48 : (Nat → Int32)) (H : Heap) (locs : List Loc) (ls : Array Slot), va_P G vwCl (mS cs h q (upd (upd F 17 f17_48) 18 f18_48) (vA (vA A 15 a15_48) 16 a16_48) D B) H → va_D A0 (mS cs h q (upd (upd F 17 f17_48) 18 f18_48) (vA (vA A 15 a15_48) 16 a16_48) D B) → va_S A0 s.heap H locs → lv_has ls 3 [(0, .ref h), (2, .int x18_2)] → W p l e (rmk 5 0 0) s m args below meth c H locs 0 0 (MQ below ((QDi G (fun (r : Int32) (u : Int32 × Int32 × (Nat → Int32) × (Nat → Int32)) => True) (fun u : Int32 × Int32 × (Nat → Int32) × (Nat → Int32) => (mS cs h q (upd (upd F 17 u.1) 18 u.2.1) (vA (vA A 15 u.2.2.1) 16 u.2.2.2) D B))) A0) args s 0 0 A0) (F0 m 48 ls []) := by
            intro f17_48 f18_48 a15_48 a16_48 H locs ls hP hD hS hl
            refine lv_iload_n hx hb dX11_likely_48 rfl (lv_at hl 1 rfl) ?_
            refine lv_goto (tgt := 53) hx hb dX11_likely_49 (by decide) ?_
            exact B53 x18_2 f17_48 f18_48 a15_48 a16_48 H locs ls (by omega) hP hD hS (lv_sub hl [0, 1] rfl)
          refine lv_icmp_eq (tgt := 48) hx hb dX11_likely_30 (by decide) (fun c12003 => ?_) (fun c12003 => ?_)
          · have zc12003 := eqK rfl (show (-1 : Int32).toInt = (-1) by decide) c12003
            exact B48 f17_18 f18_18 a15_18 a16_18 H locs ls hP hD hS (lv_sub hl [0, 2] rfl)
          · have zc12003 := neK rfl (show (-1 : Int32).toInt = (-1) by decide) c12003
            refine lv_aload_n hx hb dX11_likely_33 rfl (lv_at hl 0 rfl) ?_
            refine getF (v := .ref (q 15)) hx hb ht hown hK hP iTX11 0 15 rfl rfl (by decide) fl_RX11_34 rfl dX11_likely_34 ?_
            refine lv_iload_n hx hb dX11_likely_37 rfl (lv_at hl 2 rfl) ?_
            refine va_iald hx hb hK.1 hP 7 0 rfl rfl (inK rfl (by omega) (by decide)) dX11_likely_38 ?_
            refine lv_topi (fun v12004 ev12004 => ?_)
            refine lv_aload_n hx hb dX11_likely_39 rfl (lv_at hl 0 rfl) ?_
            refine getF (v := .ref (q 15)) hx hb ht hown hK hP iTX11 0 15 rfl rfl (by decide) fl_RX11_34 rfl dX11_likely_40 ?_
            refine lv_iload_n hx hb dX11_likely_43 rfl (lv_at hl 1 rfl) ?_
            refine va_iald hx hb hK.1 hP 7 0 rfl rfl (inK rfl (by omega) (by decide)) dX11_likely_44 ?_
            refine lv_topi (fun v12005 ev12005 => ?_)
            refine lv_icmp_le (tgt := 52) hx hb dX11_likely_45 (by decide) (fun c12006 => ?_) (fun c12006 => ?_)
            · have zc12006 := leK rfl rfl c12006
              refine lv_iload_n hx hb dX11_likely_52 rfl (lv_at hl 1 rfl) ?_
              exact B53 x18_1 f17_18 f18_18 a15_18 a16_18 H locs ls (by omega) hP hD hS (lv_sub hl [0, 2] rfl)
            · have zc12006 := nleK rfl rfl c12006
              exact B48 f17_18 f18_18 a15_18 a16_18 H locs ls hP hD hS (lv_sub hl [0, 2] rfl)
    exact B18 _ (-1) 0 x3 x4 g5 g6 H locs ls (Nat.lt_succ_self _) (by decide) (by decide) hP hD hS (lv_sub hl [2, 1, 0] rfl)
  · have zc2 := eqK rfl (show (0 : Int32).toInt = 0 by decide) c2
    refine lv_bipush (v := (-2)) hx hb dX11_likely_7 (by decide) ?_
    exact retDi ((F 17), (F 18), (A 15), (A 16)) hx hb hr hlk hP hD hS dX11_likely_9 (trivial) (Nat.le_of_ble_eq_true rfl) (Nat.le_of_ble_eq_true rfl)

set_option maxRecDepth 100000 in
set_option maxHeartbeats 8000000 in
theorem sX11_here (l : Launch) (G : va_G) (cs : Nat → ClassId) (h : Nat) (q : Nat → Nat) (F : Nat → Int32) (A : Nat → Nat → Int32) (D : Int64) (B : Nat → Nat → Int64) (hI : IM F A) : ImpI l yX11_here cX11_here 1 (some .int) 5 0 0 G (TY cs) [.ref h] (mS cs h q F A D B) (fun (r : Int32) (u : Int32 × Int32 × (Nat → Int32) × (Nat → Int32)) => True) (fun u : Int32 × Int32 × (Nat → Int32) × (Nat → Int32) => (mS cs h q (upd (upd F 17 u.1) 18 u.2.1) (vA (vA A 15 u.2.2.1) 16 u.2.2.2) D B)) := by
  refine mkD (Qc := (QDi G (fun (r : Int32) (u : Int32 × Int32 × (Nat → Int32) × (Nat → Int32)) => True) (fun u : Int32 × Int32 × (Nat → Int32) × (Nat → Int32) => (mS cs h q (upd (upd F 17 u.1) 18 u.2.1) (vA (vA A 15 u.2.2.1) 16 u.2.2.2) D B)))) (by decide) (by simp [lg_sl, Value.category]) ?_
  intro p e s m args below meth c ls A0 hx hb hml hr hlk hown hmn ht hK hP hD hS hA hl
  have hl : lv_has ls 1 [(0, .ref h)] := hl
  refine lv_aload_n hx hb dX11_here_0 rfl (lv_at hl 0 rfl) ?_
  refine behR (runVP (As := []) (rest := []) ⟨hx, hb, hml, hown, ht⟩ (sX11_isHouse l G cs h q F A D B hI  ) okV_RX11_83 ⟨by decide, by decide⟩ hK hP [0, 1, 2, 3, 4, 5, 6, 7, 8, 9, 10, 11, 12, 13, 14, 15, 16, 17, 18, 19] rfl 0 rfl rfl hl.1 rfl (Nat.le_of_ble_eq_true rfl) dX11_here_1 ⟨by decide, by decide⟩) hP hS hA (fun r1 H locs hr1 hP hS => ?_)
  have hr1 : (0 : Int) ≤ r1.toInt ∧ r1.toInt ≤ 1 := hr1
  refine lv_if_ne (tgt := 10) hx hb dX11_here_4 (by decide) (fun c2 => ?_) (fun c2 => ?_)
  · have zc2 := neK rfl (show (0 : Int32).toInt = 0 by decide) c2
    refine lv_aload_n hx hb dX11_here_10 rfl (lv_at hl 0 rfl) ?_
    refine behDw (wr := []) (runVD (As := []) (rest := []) ⟨hx, hb, hml, hown, ht⟩ (sX11_asItIs l G cs h q F A D B hI  ) okV_RX11_278 ⟨by decide, by decide⟩ hK hP hD [0, 1, 2, 3, 4, 5, 6, 7, 8, 9, 10, 11, 12, 13, 14, 15, 16, 17, 18, 19] rfl (by decide) rfl 0 rfl rfl hl.1 rfl (Nat.le_of_ble_eq_true rfl) dX11_here_11 ⟨(Nat.le_of_ble_eq_true rfl), (Nat.le_of_ble_eq_true rfl)⟩) hP hD hS hA [0, 1, 2, 3, 4, 5, 6, 7, 8, 9, 10, 11, 12, 13, 14, 15, 16, 17, 18, 19] [] rfl rfl (by decide) (by decide) (fun u H locs hu hP hD hS => ?_)
    obtain ⟨x3, x4, g5, g6⟩ := u
    have hr7 := hu
    have hP : va_P G vwCl (mS cs h q (upd (upd F 17 x3) 18 x4) (vA (vA A 15 g5) 16 g6) D B) H := hP
    have hD : va_D A0 (mS cs h q (upd (upd F 17 x3) 18 x4) (vA (vA A 15 g5) 16 g6) D B) := hD
    refine lv_aload_n hx hb dX11_here_14 rfl (lv_at hl 0 rfl) ?_
    refine lv_aload_n hx hb dX11_here_15 rfl (lv_at hl 0 rfl) ?_
    refine behR (runVP (As := []) (rest := [.ref h]) ⟨hx, hb, hml, hown, ht⟩ (sX11_inHouse l G cs h q (upd (upd F 17 x3) 18 x4) (vA (vA A 15 g5) 16 g6) D B (IM_arr (k := 16) (IM_arr (k := 15) (IM_put (k := 18) (IM_put (k := 17) hI (i32b _)) (i32b _)) (fun _ => i32b _)) (fun _ => i32b _))  ) okV_RX11_270 ⟨by decide, by decide⟩ hK hP [0, 1, 2, 3, 4, 5, 6, 7, 8, 9, 10, 11, 12, 13, 14, 15, 16, 17, 18, 19] rfl 0 rfl rfl hl.1 rfl (Nat.le_of_ble_eq_true rfl) dX11_here_16 ⟨by decide, by decide⟩) hP hS hA (fun r8 H locs hr8 hP hS => ?_)
    refine behR (runVP (As := [.int r8]) (rest := []) ⟨hx, hb, hml, hown, ht⟩ (sX11_inMillion l G cs h q (upd (upd F 17 x3) 18 x4) (vA (vA A 15 g5) 16 g6) D B (IM_arr (k := 16) (IM_arr (k := 15) (IM_put (k := 18) (IM_put (k := 17) hI (i32b _)) (i32b _)) (fun _ => i32b _)) (fun _ => i32b _)) r8 ) okV_RX11_281 ⟨by decide, by decide⟩ hK hP [0, 1, 2, 3, 4, 5, 6, 7, 8, 9, 10, 11, 12, 13, 14, 15, 16, 17, 18, 19] rfl 0 rfl rfl hl.1 rfl (Nat.le_of_ble_eq_true rfl) dX11_here_19 ⟨by decide, by decide⟩) hP hS hA (fun r9 H locs hr9 hP hS => ?_)
    exact retDi (x3, x4, g5, g6) hx hb hr hlk hP hD hS dX11_here_22 (trivial) (Nat.le_of_ble_eq_true rfl) (Nat.le_of_ble_eq_true rfl)
  · have zc2 := eqK rfl (show (0 : Int32).toInt = 0 by decide) c2
    refine lv_bipush (v := (-2)) hx hb dX11_here_7 (by decide) ?_
    exact retDi ((F 17), (F 18), (A 15), (A 16)) hx hb hr hlk hP hD hS dX11_here_9 (trivial) (Nat.le_of_ble_eq_true rfl) (Nat.le_of_ble_eq_true rfl)

set_option maxRecDepth 100000 in
set_option maxHeartbeats 8000000 in
theorem sX11_chance (l : Launch) (G : va_G) (cs : Nat → ClassId) (h : Nat) (q : Nat → Nat) (F : Nat → Int32) (A : Nat → Nat → Int32) (D : Int64) (B : Nat → Nat → Int64) (hI : IM F A) (a1 : Int32) : ImpI l yX11_chance cX11_chance 2 (some .int) 5 0 0 G (TY cs) [.ref h, .int a1] (mS cs h q F A D B) (fun (r : Int32) (u : Int32 × Int32 × (Nat → Int32) × (Nat → Int32)) => True) (fun u : Int32 × Int32 × (Nat → Int32) × (Nat → Int32) => (mS cs h q (upd (upd F 17 u.1) 18 u.2.1) (vA (vA A 15 u.2.2.1) 16 u.2.2.2) D B)) := by
  refine mkD (Qc := (QDi G (fun (r : Int32) (u : Int32 × Int32 × (Nat → Int32) × (Nat → Int32)) => True) (fun u : Int32 × Int32 × (Nat → Int32) × (Nat → Int32) => (mS cs h q (upd (upd F 17 u.1) 18 u.2.1) (vA (vA A 15 u.2.2.1) 16 u.2.2.2) D B)))) (by decide) (by simp [lg_sl, Value.category]) ?_
  intro p e s m args below meth c ls A0 hx hb hml hr hlk hown hmn ht hK hP hD hS hA hl
  have hl : lv_has ls 2 [(0, .ref h), (1, .int a1)] := hl
  refine lv_aload_n hx hb dX11_chance_0 rfl (lv_at hl 0 rfl) ?_
  refine lv_iload_n hx hb dX11_chance_1 rfl (lv_at hl 1 rfl) ?_
  refine lv_i2l hx hb dX11_chance_2 rfl ?_
  have bb1 := i32b a1
  refine lv_topl (fun v2 ev2 => ?_)
  have tv2 : v2.toInt = a1.toInt := by rw [ev2]; exact Int32.toInt_toInt64 _
  refine behR (runVP (As := [.long v2]) (rest := []) ⟨hx, hb, hml, hown, ht⟩ (sX11_isRoomOrNone l G cs h q F A D B hI v2 ) okV_RX11_275 ⟨by decide, by decide⟩ hK hP [0, 1, 2, 3, 4, 5, 6, 7, 8, 9, 10, 11, 12, 13, 14, 15, 16, 17, 18, 19] rfl 0 rfl rfl hl.1 rfl (Nat.le_of_ble_eq_true rfl) dX11_chance_3 ⟨by decide, by decide⟩) hP hS hA (fun r3 H locs hr3 hP hS => ?_)
  have hr3 : (r3.toInt = 1 ∧ -1 ≤ v2.toInt ∧ v2.toInt ≤ 6) ∨ r3.toInt = 0 := hr3
  refine lv_if_ne (tgt := 12) hx hb dX11_chance_6 (by decide) (fun c4 => ?_) (fun c4 => ?_)
  · have zc4 := neK rfl (show (0 : Int32).toInt = 0 by decide) c4
    refine lv_aload_n hx hb dX11_chance_12 rfl (lv_at hl 0 rfl) ?_
    refine behDw (wr := []) (runVD (As := []) (rest := []) ⟨hx, hb, hml, hown, ht⟩ (sX11_asItIs l G cs h q F A D B hI  ) okV_RX11_278 ⟨by decide, by decide⟩ hK hP hD [0, 1, 2, 3, 4, 5, 6, 7, 8, 9, 10, 11, 12, 13, 14, 15, 16, 17, 18, 19] rfl (by decide) rfl 0 rfl rfl hl.1 rfl (Nat.le_of_ble_eq_true rfl) dX11_chance_13 ⟨(Nat.le_of_ble_eq_true rfl), (Nat.le_of_ble_eq_true rfl)⟩) hP hD hS hA [0, 1, 2, 3, 4, 5, 6, 7, 8, 9, 10, 11, 12, 13, 14, 15, 16, 17, 18, 19] [] rfl rfl (by decide) (by decide) (fun u H locs hu hP hD hS => ?_)
    obtain ⟨x5, x6, g7, g8⟩ := u
    have hr9 := hu
    have hP : va_P G vwCl (mS cs h q (upd (upd F 17 x5) 18 x6) (vA (vA A 15 g7) 16 g8) D B) H := hP
    have hD : va_D A0 (mS cs h q (upd (upd F 17 x5) 18 x6) (vA (vA A 15 g7) 16 g8) D B) := hD
    refine lv_aload_n hx hb dX11_chance_16 rfl (lv_at hl 0 rfl) ?_
    refine lv_iload_n hx hb dX11_chance_17 rfl (lv_at hl 1 rfl) ?_
    refine lv_iconst (v := (-1)) hx hb dX11_chance_18 (by decide) ?_
    refine lv_icmp_ne (tgt := 29) hx hb dX11_chance_19 (by decide) (fun c10 => ?_) (fun c10 => ?_)
    · have zc10 := neK rfl (show (-1 : Int32).toInt = (-1) by decide) c10
      refine lv_aload_n hx hb dX11_chance_29 rfl (lv_at hl 0 rfl) ?_
      refine getF (v := .ref (q 15)) hx hb ht hown hK hP iTX11 0 15 rfl rfl (by decide) fl_RX11_34 rfl dX11_chance_30 ?_
      refine lv_iload_n hx hb dX11_chance_33 rfl (lv_at hl 1 rfl) ?_
      refine va_iald hx hb hK.1 hP 7 0 rfl rfl (inK rfl (by omega) (by decide)) dX11_chance_34 ?_
      refine lv_topi (fun v11 ev11 => ?_)
      refine behR (runVP (As := [.int v11]) (rest := []) ⟨hx, hb, hml, hown, ht⟩ (sX11_inMillion l G cs h q (upd (upd F 17 x5) 18 x6) (vA (vA A 15 g7) 16 g8) D B (IM_arr (k := 16) (IM_arr (k := 15) (IM_put (k := 18) (IM_put (k := 17) hI (i32b _)) (i32b _)) (fun _ => i32b _)) (fun _ => i32b _)) v11 ) okV_RX11_281 ⟨by decide, by decide⟩ hK hP [0, 1, 2, 3, 4, 5, 6, 7, 8, 9, 10, 11, 12, 13, 14, 15, 16, 17, 18, 19] rfl 0 rfl rfl hl.1 rfl (Nat.le_of_ble_eq_true rfl) dX11_chance_35 ⟨by decide, by decide⟩) hP hS hA (fun r12 H locs hr12 hP hS => ?_)
      exact retDi (x5, x6, g7, g8) hx hb hr hlk hP hD hS dX11_chance_38 (trivial) (Nat.le_of_ble_eq_true rfl) (Nat.le_of_ble_eq_true rfl)
    · have zc10 := eqK rfl (show (-1 : Int32).toInt = (-1) by decide) c10
      refine lv_aload_n hx hb dX11_chance_22 rfl (lv_at hl 0 rfl) ?_
      refine getF (v := .int x5) hx hb ht hown hK hP iTX11 0 17 rfl rfl (by decide) fl_RX11_246 rfl dX11_chance_23 ?_
      refine lv_goto (tgt := 35) hx hb dX11_chance_26 (by decide) ?_
      refine behR (runVP (As := [.int x5]) (rest := []) ⟨hx, hb, hml, hown, ht⟩ (sX11_inMillion l G cs h q (upd (upd F 17 x5) 18 x6) (vA (vA A 15 g7) 16 g8) D B (IM_arr (k := 16) (IM_arr (k := 15) (IM_put (k := 18) (IM_put (k := 17) hI (i32b _)) (i32b _)) (fun _ => i32b _)) (fun _ => i32b _)) x5 ) okV_RX11_281 ⟨by decide, by decide⟩ hK hP [0, 1, 2, 3, 4, 5, 6, 7, 8, 9, 10, 11, 12, 13, 14, 15, 16, 17, 18, 19] rfl 0 rfl rfl hl.1 rfl (Nat.le_of_ble_eq_true rfl) dX11_chance_35 ⟨by decide, by decide⟩) hP hS hA (fun r13 H locs hr13 hP hS => ?_)
      exact retDi (x5, x6, g7, g8) hx hb hr hlk hP hD hS dX11_chance_38 (trivial) (Nat.le_of_ble_eq_true rfl) (Nat.le_of_ble_eq_true rfl)
  · have zc4 := eqK rfl (show (0 : Int32).toInt = 0 by decide) c4
    refine lv_bipush (v := (-2)) hx hb dX11_chance_9 (by decide) ?_
    exact retDi ((F 17), (F 18), (A 15), (A 16)) hx hb hr hlk hP hD hS dX11_chance_11 (trivial) (Nat.le_of_ble_eq_true rfl) (Nat.le_of_ble_eq_true rfl)

set_option maxRecDepth 100000 in
set_option maxHeartbeats 8000000 in
theorem sX11_undo (l : Launch) (G : va_G) (cs : Nat → ClassId) (h : Nat) (q : Nat → Nat) (F : Nat → Int32) (A : Nat → Nat → Int32) (D : Int64) (B : Nat → Nat → Int64) (hI : IM F A) : ImpI l yX11_undo cX11_undo 1 (some .int) 1 0 0 G (TY cs) [.ref h] (mS cs h q F A D B) (fun (r : Int32) (u : (Nat → Int32)) => AI 1 u ∧ (True)) (fun u : (Nat → Int32) => (mS cs h q F (vA A 1 u) D B)) := by
  refine mkD (Qc := (QDi G (fun (r : Int32) (u : (Nat → Int32)) => AI 1 u ∧ (True)) (fun u : (Nat → Int32) => (mS cs h q F (vA A 1 u) D B)))) (by decide) (by simp [lg_sl, Value.category]) ?_
  intro p e s m args below meth c ls A0 hx hb hml hr hlk hown hmn ht hK hP hD hS hA hl
  have hl : lv_has ls 1 [(0, .ref h)] := hl
  refine lv_aload_n hx hb dX11_undo_0 rfl (lv_at hl 0 rfl) ?_
  refine behR (runVP (As := []) (rest := []) ⟨hx, hb, hml, hown, ht⟩ (sX11_isHouse l G cs h q F A D B hI  ) okV_RX11_83 ⟨by decide, by decide⟩ hK hP [0, 1, 2, 3, 4, 5, 6, 7, 8, 9, 10, 11, 12, 13, 14, 15, 16, 17, 18, 19] rfl 0 rfl rfl hl.1 rfl (Nat.le_of_ble_eq_true rfl) dX11_undo_1 ⟨by decide, by decide⟩) hP hS hA (fun r1 H locs hr1 hP hS => ?_)
  have hr1 : (0 : Int) ≤ r1.toInt ∧ r1.toInt ≤ 1 := hr1
  refine lv_if_ne (tgt := 10) hx hb dX11_undo_4 (by decide) (fun c2 => ?_) (fun c2 => ?_)
  · have zc2 := neK rfl (show (0 : Int32).toInt = 0 by decide) c2
    refine lv_aload_n hx hb dX11_undo_10 rfl (lv_at hl 0 rfl) ?_
    refine getF (v := .ref (q 1)) hx hb ht hown hK hP iTX11 0 1 rfl rfl (by decide) fl_RX11_9 rfl dX11_undo_11 ?_
    refine lv_bipush (v := 7) hx hb dX11_undo_14 (by decide) ?_
    refine va_iald hx hb hK.1 hP 1 0 rfl rfl (show ¬ (_ ∨ _) by decide) dX11_undo_16 ?_
    refine W.eq (g2 := F0 m 17 ls [.int (A 1 7)]) rfl ?_
    have zf3 : (0 : Int) ≤ (A 1 7).toInt ∧ (A 1 7).toInt ≤ 60 := (hI.2 1 7)
    refine lv_if_ne (tgt := 23) hx hb dX11_undo_17 (by decide) (fun c4 => ?_) (fun c4 => ?_)
    · have zc4 := neK rfl (show (0 : Int32).toInt = 0 by decide) c4
      refine lv_aload_n hx hb dX11_undo_23 rfl (lv_at hl 0 rfl) ?_
      refine getF (v := .ref (q 1)) hx hb ht hown hK hP iTX11 0 1 rfl rfl (by decide) fl_RX11_9 rfl dX11_undo_24 ?_
      refine lv_bipush (v := 7) hx hb dX11_undo_27 (by decide) ?_
      refine lv_dup2_11 hx hb dX11_undo_29 rfl rfl ?_
      refine va_iald hx hb hK.1 hP 1 0 rfl rfl (show ¬ (_ ∨ _) by decide) dX11_undo_30 ?_
      refine W.eq (g2 := F0 m 31 ls [.int (A 1 7), .int 7, .ref (q 1)]) rfl ?_
      have zf5 : (0 : Int) ≤ (A 1 7).toInt ∧ (A 1 7).toInt ≤ 60 := (hI.2 1 7)
      refine lv_iconst (v := 1) hx hb dX11_undo_31 (by decide) ?_
      refine lv_isub hx hb dX11_undo_32 ?_
      refine lv_topi (fun v6 ev6 => ?_)
      have tv6 : v6.toInt = (A 1 7).toInt - 1 := by rw [ev6]; exact subT rfl (show (1 : Int32).toInt = 1 by decide) (by omega)
      refine va_iast hx hb hK.1 hP hD hS 1 0 rfl rfl (show ¬ (_ ∨ _) by decide) dX11_undo_33 (fun H locs hP hD hS => ?_)
      have hP : va_P G vwCl (mS cs h q F (vA A 1 (upd (A 1) (7 : Int32).toNatClampNeg v6)) D B) H := hP
      have hD : va_D A0 (mS cs h q F (vA A 1 (upd (A 1) (7 : Int32).toNatClampNeg v6)) D B) := hD
      obtain ⟨g7, eg7⟩ : ∃ z : Nat → Int32, z = upd (A 1) (7 : Int32).toNatClampNeg v6 := ⟨_, rfl⟩
      rw [← eg7] at hP hD
      have hg7 : AI 1 g7 := by rw [eg7]; exact AI_upd (fun j => hI.2 1 j) (show (0 : Int) ≤ v6.toInt ∧ v6.toInt ≤ 60 by omega)
      refine lv_aload_n hx hb dX11_undo_34 rfl (lv_at hl 0 rfl) ?_
      refine getF (v := .ref (q 1)) hx hb ht hown hK hP iTX11 0 1 rfl rfl (by decide) fl_RX11_9 rfl dX11_undo_35 ?_
      refine lv_bipush (v := 7) hx hb dX11_undo_38 (by decide) ?_
      refine va_iald hx hb hK.1 hP 1 0 rfl rfl (show ¬ (_ ∨ _) by decide) dX11_undo_40 ?_
      refine W.eq (g2 := F0 m 41 ls [.int (g7 7)]) rfl ?_
      have zf8 : (0 : Int) ≤ (g7 7).toInt ∧ (g7 7).toInt ≤ 60 := (hg7 7)
      exact retDi g7 hx hb hr hlk hP hD hS dX11_undo_41 (⟨hg7, trivial⟩) (Nat.le_of_ble_eq_true rfl) (Nat.le_of_ble_eq_true rfl)
    · have zc4 := eqK rfl (show (0 : Int32).toInt = 0 by decide) c4
      refine lv_bipush (v := (-5)) hx hb dX11_undo_20 (by decide) ?_
      exact retDi (A 1) hx hb hr hlk hP hD hS dX11_undo_22 (⟨fun j => hI.2 1 j, trivial⟩) (Nat.le_of_ble_eq_true rfl) (Nat.le_of_ble_eq_true rfl)
  · have zc2 := eqK rfl (show (0 : Int32).toInt = 0 by decide) c2
    refine lv_bipush (v := (-2)) hx hb dX11_undo_7 (by decide) ?_
    exact retDi (A 1) hx hb hr hlk hP hD hS dX11_undo_9 (⟨fun j => hI.2 1 j, trivial⟩) (Nat.le_of_ble_eq_true rfl) (Nat.le_of_ble_eq_true rfl)

set_option maxRecDepth 100000 in
set_option maxHeartbeats 8000000 in
theorem sX11_anew (l : Launch) (G : va_G) (cs : Nat → ClassId) (h : Nat) (q : Nat → Nat) (F : Nat → Int32) (A : Nat → Nat → Int32) (D : Int64) (B : Nat → Nat → Int64) (hI : IM F A) : ImpI l yX11_anew cX11_anew 2 (some .int) 1 0 0 G (TY cs) [.ref h] (mS cs h q F A D B) (fun (r : Int32) (u : (Nat → Int32)) => AI 1 u ∧ (True)) (fun u : (Nat → Int32) => (mS cs h q F (vA A 1 u) D B)) := by
  refine mkD (Qc := (QDi G (fun (r : Int32) (u : (Nat → Int32)) => AI 1 u ∧ (True)) (fun u : (Nat → Int32) => (mS cs h q F (vA A 1 u) D B)))) (by decide) (by simp [lg_sl, Value.category]) ?_
  intro p e s m args below meth c ls A0 hx hb hml hr hlk hown hmn ht hK hP hD hS hA hl
  have hl : lv_has ls 2 [(0, .ref h)] := hl
  refine lv_aload_n hx hb dX11_anew_0 rfl (lv_at hl 0 rfl) ?_
  refine behR (runVP (As := []) (rest := []) ⟨hx, hb, hml, hown, ht⟩ (sX11_isHouse l G cs h q F A D B hI  ) okV_RX11_83 ⟨by decide, by decide⟩ hK hP [0, 1, 2, 3, 4, 5, 6, 7, 8, 9, 10, 11, 12, 13, 14, 15, 16, 17, 18, 19] rfl 0 rfl rfl hl.1 rfl (Nat.le_of_ble_eq_true rfl) dX11_anew_1 ⟨by decide, by decide⟩) hP hS hA (fun r1 H locs hr1 hP hS => ?_)
  have hr1 : (0 : Int) ≤ r1.toInt ∧ r1.toInt ≤ 1 := hr1
  refine lv_if_ne (tgt := 10) hx hb dX11_anew_4 (by decide) (fun c2 => ?_) (fun c2 => ?_)
  · have zc2 := neK rfl (show (0 : Int32).toInt = 0 by decide) c2
    refine lv_aload_n hx hb dX11_anew_10 rfl (lv_at hl 0 rfl) ?_
    refine getF (v := .ref (q 1)) hx hb ht hown hK hP iTX11 0 1 rfl rfl (by decide) fl_RX11_9 rfl dX11_anew_11 ?_
    refine lv_bipush (v := 7) hx hb dX11_anew_14 (by decide) ?_
    refine va_iald hx hb hK.1 hP 1 0 rfl rfl (show ¬ (_ ∨ _) by decide) dX11_anew_16 ?_
    refine W.eq (g2 := F0 m 17 ls [.int (A 1 7)]) rfl ?_
    have zf3 : (0 : Int) ≤ (A 1 7).toInt ∧ (A 1 7).toInt ≤ 60 := (hI.2 1 7)
    refine lv_istore_n (lv' := [(1, .int (A 1 7)), (0, .ref h)]) hx hb dX11_anew_17 rfl hl (by decide) rfl (fun ls hl => ?_)
    refine lv_aload_n hx hb dX11_anew_18 rfl (lv_at hl 1 rfl) ?_
    refine getF (v := .ref (q 1)) hx hb ht hown hK hP iTX11 0 1 rfl rfl (by decide) fl_RX11_9 rfl dX11_anew_19 ?_
    refine lv_bipush (v := 7) hx hb dX11_anew_22 (by decide) ?_
    refine lv_iconst (v := 0) hx hb dX11_anew_24 (by decide) ?_
    refine va_iast hx hb hK.1 hP hD hS 1 0 rfl rfl (show ¬ (_ ∨ _) by decide) dX11_anew_25 (fun H locs hP hD hS => ?_)
    have hP : va_P G vwCl (mS cs h q F (vA A 1 (upd (A 1) (7 : Int32).toNatClampNeg (0 : Int32))) D B) H := hP
    have hD : va_D A0 (mS cs h q F (vA A 1 (upd (A 1) (7 : Int32).toNatClampNeg (0 : Int32))) D B) := hD
    obtain ⟨g4, eg4⟩ : ∃ z : Nat → Int32, z = upd (A 1) (7 : Int32).toNatClampNeg (0 : Int32) := ⟨_, rfl⟩
    rw [← eg4] at hP hD
    have hg4 : AI 1 g4 := by rw [eg4]; exact AI_upd (fun j => hI.2 1 j) (by decide)
    refine lv_iload_n hx hb dX11_anew_26 rfl (lv_at hl 0 rfl) ?_
    exact retDi g4 hx hb hr hlk hP hD hS dX11_anew_27 (⟨hg4, trivial⟩) (Nat.le_of_ble_eq_true rfl) (Nat.le_of_ble_eq_true rfl)
  · have zc2 := eqK rfl (show (0 : Int32).toInt = 0 by decide) c2
    refine lv_bipush (v := (-2)) hx hb dX11_anew_7 (by decide) ?_
    exact retDi (A 1) hx hb hr hlk hP hD hS dX11_anew_9 (⟨fun j => hI.2 1 j, trivial⟩) (Nat.le_of_ble_eq_true rfl) (Nat.le_of_ble_eq_true rfl)

