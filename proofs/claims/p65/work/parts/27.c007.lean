set_option maxRecDepth 100000 in
set_option maxHeartbeats 16000000 in
theorem sX6_fail (l : Launch) (G : va_G) (cs : Nat → ClassId) (adt : Nat) (qt : Nat → Nat) (Ft : Nat → Int32) (At : Nat → Nat → Int32) (Bt : Nat → Nat → Int64) (Dt : Int64) (hIt : IX6 Ft At) (qtp : Nat → Nat) (Ftp : Nat → Int32) (Atp : Nat → Nat → Int32) (Btp : Nat → Nat → Int64) (Dtp : Int64) (hItp : IX9 Ftp Atp) (a1 : Int32) : ∀ sz : Nat, Met l yX6_fail (wk yX6_fail cX6_fail 2 (some .boolean)) (rmk 0 0 0) (PreD G (TY cs) [.ref adt, .int a1] ((uX6 cs adt qt Ft At Bt Dt) ++ (uX9 cs (qt 0) qtp Ftp Atp Btp Dtp)) sz) ((QDi G (fun (r : Int32) (u : Int32 × Int32) => r.toInt = 0) (fun u : Int32 × Int32 => ((wX6 cs adt qt (upd (upd Ft 5 u.1) 6 u.2) At Bt Dt) ++ (uX9 cs (qt 0) qtp Ftp Atp Btp Dtp)))) (va_A ((uX6 cs adt qt Ft At Bt Dt) ++ (uX9 cs (qt 0) qtp Ftp Atp Btp Dtp)) sz)) 0 0 (va_A ((uX6 cs adt qt Ft At Bt Dt) ++ (uX9 cs (qt 0) qtp Ftp Atp Btp Dtp)) sz) := by
  refine mkD (Qc := (QDi G (fun (r : Int32) (u : Int32 × Int32) => r.toInt = 0) (fun u : Int32 × Int32 => ((wX6 cs adt qt (upd (upd Ft 5 u.1) 6 u.2) At Bt Dt) ++ (uX9 cs (qt 0) qtp Ftp Atp Btp Dtp))))) (by decide) (by simp [lg_sl, Value.category]) ?_
  intro p e s m args below meth c ls A0 hx hb hml hr hlk hown hmn ht hK hP hD hS hA hl
  have hl : lv_has ls 2 [(0, .ref adt), (1, .int a1)] := hl
  refine lv_aload_n hx hb dX6_fail_0 rfl (lv_at hl 0 rfl) ?_
  refine lv_iload_n hx hb dX6_fail_1 rfl (lv_at hl 1 rfl) ?_
  refine putD hx hb ht hown hK hP hD hS iTX6 tyX6 tyX6_ok nmX6 0 5 rfl rfl (by decide) fl_RX6_27 rfl rfl rfl (Nat.le_of_ble_eq_true rfl) dX6_fail_2 (fun H locs hP hD hS => ?_)
  have hP : va_P G vwCl ((uX6 cs adt qt (upv 5 a1 Ft) At Bt Dt) ++ (uX9 cs (qt 0) qtp Ftp Atp Btp Dtp)) H := hP
  have hD : va_D A0 ((uX6 cs adt qt (upv 5 a1 Ft) At Bt Dt) ++ (uX9 cs (qt 0) qtp Ftp Atp Btp Dtp)) := hD
  refine lv_aload_n hx hb dX6_fail_5 rfl (lv_at hl 0 rfl) ?_
  refine lv_aload_n hx hb dX6_fail_6 rfl (lv_at hl 0 rfl) ?_
  refine getF (v := .int (Ft 3)) hx hb ht hown hK hP iTX6 0 3 rfl rfl (by decide) fl_RX6_150 rfl dX6_fail_7 ?_
  have zf1 : (0 : Int) ≤ (Ft 3).toInt ∧ (Ft 3).toInt ≤ 900 := hIt.1 3
  refine putD hx hb ht hown hK hP hD hS iTX6 tyX6 tyX6_ok nmX6 0 6 rfl rfl (by decide) fl_RX6_18 rfl rfl rfl (Nat.le_of_ble_eq_true rfl) dX6_fail_10 (fun H locs hP hD hS => ?_)
  have hP : va_P G vwCl ((uX6 cs adt qt (upv 6 (Ft 3) (upv 5 a1 Ft)) At Bt Dt) ++ (uX9 cs (qt 0) qtp Ftp Atp Btp Dtp)) H := hP
  have hD : va_D A0 ((uX6 cs adt qt (upv 6 (Ft 3) (upv 5 a1 Ft)) At Bt Dt) ++ (uX9 cs (qt 0) qtp Ftp Atp Btp Dtp)) := hD
  refine lv_iconst (v := 0) hx hb dX6_fail_13 (by decide) ?_
  exact retDz (a1, (Ft 3)) hx hb hr hlk hP hD hS dX6_fail_14 (rfl) (show (0 : Int32).toInt = 0 by have kk : (0 : Int32).toInt = 0 := (by decide); omega) (Nat.le_of_ble_eq_true rfl) (Nat.le_of_ble_eq_true rfl)

set_option maxRecDepth 100000 in
set_option maxHeartbeats 16000000 in
theorem sX6_isWord (l : Launch) (G : va_G) (cs : Nat → ClassId) (sd : Nat → Nat × Nat) (adt : Nat) (qt : Nat → Nat) (Ft : Nat → Int32) (At : Nat → Nat → Int32) (Bt : Nat → Nat → Int64) (Dt : Int64) (hIt : IX6 Ft At) (qtp : Nat → Nat) (Ftp : Nat → Int32) (Atp : Nat → Nat → Int32) (Btp : Nat → Nat → Int64) (Dtp : Int64) (hItp : IX9 Ftp Atp) (i : Nat) (hi : i < 15) : ∀ sz : Nat, Met l yX6_isWord (wk yX6_isWord cX6_isWord 3 (some .boolean)) (rmk 4 0 0) (PrePS SRR sd G (TY cs) [.ref adt, .ref ((sd i).1)] ((uX6 cs adt qt Ft At Bt Dt) ++ (uX9 cs (qt 0) qtp Ftp Atp Btp Dtp)) sz) (QRi (fun r : Int32 => (0 : Int) ≤ r.toInt ∧ r.toInt ≤ 1) sz) 0 0 (fun q => sz ≤ q) := by
  refine mkPS (Qc := QRi (fun r : Int32 => (0 : Int) ≤ r.toInt ∧ r.toInt ≤ 1)) (by decide) (by simp [lg_sl, Value.category]) ?_
  intro p e s m args below meth c ls hx hb hml hr hlk hown ht hK hP hS hQ hl
  have hl : lv_has ls 3 [(0, .ref adt), (1, .ref ((sd i).1))] := hl
  refine lv_aload_n hx hb dX6_isWord_0 rfl (lv_at hl 0 rfl) ?_
  refine getF (v := .int (Ft 2)) hx hb ht hown hK hP iTX6 0 2 rfl rfl (by decide) fl_RX6_36 rfl dX6_isWord_1 ?_
  have zf1 : (0 : Int) ≤ (Ft 2).toInt ∧ (Ft 2).toInt ≤ 4 := hIt.1 2
  refine lv_iconst (v := 1) hx hb dX6_isWord_4 (by decide) ?_
  refine lv_icmp_ne (tgt := 24) hx hb dX6_isWord_5 (by decide) (fun c2 => ?_) (fun c2 => ?_)
  · have zc2 := neK rfl (show (1 : Int32).toInt = 1 by decide) c2
    refine lv_iconst (v := 0) hx hb dX6_isWord_24 (by decide) ?_
    exact retRz hx hb hr hlk hS dX6_isWord_25 (rfl) (show (0 : Int) ≤ (0 : Int32).toInt ∧ (0 : Int32).toInt ≤ 1 by have kk : (0 : Int32).toInt = 0 := (by decide); omega)
  · have zc2 := eqK rfl (show (1 : Int32).toInt = 1 by decide) c2
    refine lv_aload_n hx hb dX6_isWord_8 rfl (lv_at hl 0 rfl) ?_
    refine getF (v := .int (Ft 1)) hx hb ht hown hK hP iTX6 0 1 rfl rfl (by decide) fl_RX6_30 rfl dX6_isWord_9 ?_
    have zf3 : (0 : Int) ≤ (Ft 1).toInt ∧ (Ft 1).toInt ≤ 900 := hIt.1 1
    refine lv_aload_n hx hb dX6_isWord_12 rfl (lv_at hl 0 rfl) ?_
    refine getF (v := .int (Ft 3)) hx hb ht hown hK hP iTX6 0 3 rfl rfl (by decide) fl_RX6_150 rfl dX6_isWord_13 ?_
    have zf4 : (0 : Int) ≤ (Ft 3).toInt ∧ (Ft 3).toInt ≤ 900 := hIt.1 3
    refine lv_isub hx hb dX6_isWord_16 ?_
    refine lv_topi (fun v5 ev5 => ?_)
    have tv5 : v5.toInt = (Ft 1).toInt - (Ft 3).toInt := by rw [ev5]; exact subT rfl rfl (by omega)
    refine lv_aload_n hx hb dX6_isWord_17 rfl (lv_at hl 1 rfl) ?_
    refine behR (runVS (As := []) (rest := [.int v5]) ⟨hx, hb, hml, hown, ht⟩ (sJ0_length_8abf5 l G cs SRR sd i hi) okV_RX6_153 ⟨by decide, by decide⟩ hK hQ hS (fun _ h => h) hi hl.1 rfl (Nat.le_of_ble_eq_true rfl) dX6_isWord_18 ⟨by decide, by decide⟩) hP hS (fun _ h => h) (fun r6 H locs hr6 hP hS => ?_)
    have hr6 : r6.toInt = ((lenS.getD i 0 : Nat) : Int) := hr6
    have lr6 := lenB ⟨i, hi⟩
    have lr6 : lenS.getD i 0 ≤ 6 ∧ 2 ≤ lenS.getD i 0 := lr6
    refine lv_icmp_eq (tgt := 26) hx hb dX6_isWord_21 (by decide) (fun c7 => ?_) (fun c7 => ?_)
    · have zc7 := eqK rfl rfl c7
      refine lv_iconst (v := 0) hx hb dX6_isWord_26 (by decide) ?_
      refine lv_istore_n (lv' := [(2, .int 0), (0, .ref adt), (1, .ref ((sd i).1))]) hx hb dX6_isWord_27 rfl hl (by decide) rfl (fun ls hl => ?_)
      have B28 : ∀ (n : Nat) (x28_2 : Int32) (H : Heap) (locs : List Loc) (ls : Array Slot), (6 - x28_2.toInt).toNat < n → (0 : Int) ≤ x28_2.toInt ∧ x28_2.toInt ≤ 6 → va_P G vwCl ((uX6 cs adt qt Ft At Bt Dt) ++ (uX9 cs (qt 0) qtp Ftp Atp Btp Dtp)) H → va_S (fun q => s.heap.size ≤ q) s.heap H locs → lv_has ls 3 [(0, .ref adt), (1, .ref ((sd i).1)), (2, .int x28_2)] → W p l e (rmk 4 0 0) s m args below meth c H locs 0 0 (MQ below (QRi (fun r : Int32 => (0 : Int) ≤ r.toInt ∧ r.toInt ≤ 1) s.heap.size) args s 0 0 (fun q => s.heap.size ≤ q)) (F0 m 28 ls []) := by
        intro n
        induction n with
        | zero => intro x28_2 H locs ls hmeas hx28_2 hP hS hl; exact absurd hmeas (Nat.not_lt_zero _)
        | succ n ih28 =>
          intro x28_2 H locs ls hmeas hx28_2 hP hS hl
          refine lv_iload_n hx hb dX6_isWord_28 rfl (lv_at hl 2 rfl) ?_
          refine lv_aload_n hx hb dX6_isWord_29 rfl (lv_at hl 1 rfl) ?_
          refine behR (runVS (As := []) (rest := [.int x28_2]) ⟨hx, hb, hml, hown, ht⟩ (sJ0_length_8abf5 l G cs SRR sd i hi) okV_RX6_153 ⟨by decide, by decide⟩ hK hQ hS (fun _ h => h) hi hl.1 rfl (Nat.le_of_ble_eq_true rfl) dX6_isWord_30 ⟨by decide, by decide⟩) hP hS (fun _ h => h) (fun r15001 H locs hr15001 hP hS => ?_)
          have hr15001 : r15001.toInt = ((lenS.getD i 0 : Nat) : Int) := hr15001
          have lr15001 := lenB ⟨i, hi⟩
          have lr15001 : lenS.getD i 0 ≤ 6 ∧ 2 ≤ lenS.getD i 0 := lr15001
          refine lv_icmp_ge (tgt := 65) hx hb dX6_isWord_33 (by decide) (fun c15002 => ?_) (fun c15002 => ?_)
          · have zc15002 := leK rfl rfl c15002
            refine lv_iconst (v := 1) hx hb dX6_isWord_65 (by decide) ?_
            exact retRz hx hb hr hlk hS dX6_isWord_66 (rfl) (show (0 : Int) ≤ (1 : Int32).toInt ∧ (1 : Int32).toInt ≤ 1 by have kk : (1 : Int32).toInt = 1 := (by decide); omega)
          · have zc15002 := nleK rfl rfl c15002
            refine lv_aload_n hx hb dX6_isWord_36 rfl (lv_at hl 0 rfl) ?_
            refine getF (v := .ref (qt 0)) hx hb ht hown hK hP iTX6 0 0 rfl rfl (by decide) fl_RX6_12 rfl dX6_isWord_37 ?_
            refine lv_aload_n hx hb dX6_isWord_40 rfl (lv_at hl 0 rfl) ?_
            refine getF (v := .int (Ft 3)) hx hb ht hown hK hP iTX6 0 3 rfl rfl (by decide) fl_RX6_150 rfl dX6_isWord_41 ?_
            have zf15003 : (0 : Int) ≤ (Ft 3).toInt ∧ (Ft 3).toInt ≤ 900 := hIt.1 3
            refine lv_iload_n hx hb dX6_isWord_44 rfl (lv_at hl 2 rfl) ?_
            refine lv_iadd hx hb dX6_isWord_45 ?_
            refine lv_topi (fun v15004 ev15004 => ?_)
            have tv15004 : v15004.toInt = (Ft 3).toInt + x28_2.toInt := by rw [ev15004]; exact addT rfl rfl (by omega)
            refine behR (runVP (As := [.int v15004]) (rest := []) ⟨hx, hb, hml, hown, ht⟩ (sX9_at l G cs (qt 0) qtp Ftp Atp Btp Dtp hItp v15004 ) okV_RX6_158 ⟨by decide, by decide⟩ hK hP [1, 2] rfl 1 rfl rfl hl.1 rfl (Nat.le_of_ble_eq_true rfl) dX6_isWord_46 ⟨by decide, by decide⟩) hP hS (fun _ h => h) (fun r15005 H locs hr15005 hP hS => ?_)
            have hr15005 : (0 : Int) ≤ r15005.toInt ∧ r15005.toInt ≤ 255 := hr15005
            refine lv_aload_n hx hb dX6_isWord_49 rfl (lv_at hl 1 rfl) ?_
            refine lv_iload_n hx hb dX6_isWord_50 rfl (lv_at hl 2 rfl) ?_
            refine behR (runVS (As := [.int x28_2]) (rest := [.int r15005]) ⟨hx, hb, hml, hown, ht⟩ (sJ0_charAt_5068e l G cs SRR sd i hi x28_2 (by omega) (by omega)) okV_RX6_161 ⟨by decide, by decide⟩ hK hQ hS (fun _ h => h) hi hl.1 rfl (Nat.le_of_ble_eq_true rfl) dX6_isWord_51 ⟨by decide, by decide⟩) hP hS (fun _ h => h) (fun r15006 H locs hr15006 hP hS => ?_)
            have hr15006 : r15006 = chS i x28_2.toNatClampNeg ∧ 0 ≤ r15006.toInt ∧ r15006.toInt ≤ 255 := hr15006
            refine lv_icmp_eq (tgt := 59) hx hb dX6_isWord_54 (by decide) (fun c15007 => ?_) (fun c15007 => ?_)
            · have zc15007 := eqK rfl rfl c15007
              obtain ⟨v15008, ev15008⟩ : ∃ z : Int32, z = x28_2 + 1 := ⟨_, rfl⟩
              have tv15008 : v15008.toInt = x28_2.toInt + 1 := by rw [ev15008]; exact addT rfl (by decide) (by omega)
              refine lv_iinc (v := v15008) (lv' := [(2, .int v15008), (0, .ref adt), (1, .ref ((sd i).1))]) hx hb dX6_isWord_59 hl (k := 2) rfl (by rw [ev15008]; rfl) (by decide) rfl (fun ls hl => ?_)
              refine lv_goto (tgt := 28) hx hb dX6_isWord_62 (by decide) ?_
              exact ih28 v15008 H locs ls (by omega) (by omega) hP hS (lv_sub hl [1, 2, 0] rfl)
            · have zc15007 := neK rfl rfl c15007
              refine lv_iconst (v := 0) hx hb dX6_isWord_57 (by decide) ?_
              exact retRz hx hb hr hlk hS dX6_isWord_58 (rfl) (show (0 : Int) ≤ (0 : Int32).toInt ∧ (0 : Int32).toInt ≤ 1 by have kk : (0 : Int32).toInt = 0 := (by decide); omega)
      exact B28 _ 0 H locs ls (Nat.lt_succ_self _) (by decide) hP hS (lv_sub hl [1, 2, 0] rfl)
    · have zc7 := neK rfl rfl c7
      refine lv_iconst (v := 0) hx hb dX6_isWord_24 (by decide) ?_
      exact retRz hx hb hr hlk hS dX6_isWord_25 (rfl) (show (0 : Int) ≤ (0 : Int32).toInt ∧ (0 : Int32).toInt ≤ 1 by have kk : (0 : Int32).toInt = 0 := (by decide); omega)

set_option maxRecDepth 100000 in
set_option maxHeartbeats 16000000 in
theorem sX6_takeNumber (l : Launch) (G : va_G) (cs : Nat → ClassId) (adt : Nat) (qt : Nat → Nat) (Ft : Nat → Int32) (At : Nat → Nat → Int32) (Bt : Nat → Nat → Int64) (Dt : Int64) (hIt : IX6 Ft At) (qtp : Nat → Nat) (Ftp : Nat → Int32) (Atp : Nat → Nat → Int32) (Btp : Nat → Nat → Int64) (Dtp : Int64) (hItp : IX9 Ftp Atp) (a1 : Int32) (a2 : Int32) (a3 : Int32) : ∀ sz : Nat, Met l yX6_takeNumber (wk yX6_takeNumber cX6_takeNumber 5 (some .int)) (rmk 2 0 0) (PreD G (TY cs) [.ref adt, .int a1, .int a2, .int a3] ((uX6 cs adt qt Ft At Bt Dt) ++ (uX9 cs (qt 0) qtp Ftp Atp Btp Dtp)) sz) ((QDi G (fun (r : Int32) (u : Int32 × Int32 × Int32 × Int32 × Int32 × Int32) => ((0 : Int) ≤ u.1.toInt ∧ u.1.toInt ≤ 900) ∧ ((0 : Int) ≤ u.2.1.toInt ∧ u.2.1.toInt ≤ 4) ∧ ((0 : Int) ≤ u.2.2.1.toInt ∧ u.2.2.1.toInt ≤ 900) ∧ (TNk r a1.toInt a2.toInt)) (fun u : Int32 × Int32 × Int32 × Int32 × Int32 × Int32 => ((wX6 cs adt qt (upd (upd (upd (upd (upd (upd Ft 1 u.1) 2 u.2.1) 3 u.2.2.1) 4 u.2.2.2.1) 5 u.2.2.2.2.1) 6 u.2.2.2.2.2) At Bt Dt) ++ (uX9 cs (qt 0) qtp Ftp Atp Btp Dtp)))) (va_A ((uX6 cs adt qt Ft At Bt Dt) ++ (uX9 cs (qt 0) qtp Ftp Atp Btp Dtp)) sz)) 0 0 (va_A ((uX6 cs adt qt Ft At Bt Dt) ++ (uX9 cs (qt 0) qtp Ftp Atp Btp Dtp)) sz) := by
  refine mkD (Qc := (QDi G (fun (r : Int32) (u : Int32 × Int32 × Int32 × Int32 × Int32 × Int32) => ((0 : Int) ≤ u.1.toInt ∧ u.1.toInt ≤ 900) ∧ ((0 : Int) ≤ u.2.1.toInt ∧ u.2.1.toInt ≤ 4) ∧ ((0 : Int) ≤ u.2.2.1.toInt ∧ u.2.2.1.toInt ≤ 900) ∧ (TNk r a1.toInt a2.toInt)) (fun u : Int32 × Int32 × Int32 × Int32 × Int32 × Int32 => ((wX6 cs adt qt (upd (upd (upd (upd (upd (upd Ft 1 u.1) 2 u.2.1) 3 u.2.2.1) 4 u.2.2.2.1) 5 u.2.2.2.2.1) 6 u.2.2.2.2.2) At Bt Dt) ++ (uX9 cs (qt 0) qtp Ftp Atp Btp Dtp))))) (by decide) (by simp [lg_sl, Value.category]) ?_
  intro p e s m args below meth c ls A0 hx hb hml hr hlk hown hmn ht hK hP hD hS hA hl
  have hl : lv_has ls 5 [(0, .ref adt), (1, .int a1), (2, .int a2), (3, .int a3)] := hl
  refine lv_aload_n hx hb dX6_takeNumber_0 rfl (lv_at hl 0 rfl) ?_
  refine getF (v := .int (Ft 2)) hx hb ht hown hK hP iTX6 0 2 rfl rfl (by decide) fl_RX6_36 rfl dX6_takeNumber_1 ?_
  have zf1 : (0 : Int) ≤ (Ft 2).toInt ∧ (Ft 2).toInt ≤ 4 := hIt.1 2
  refine lv_iconst (v := 2) hx hb dX6_takeNumber_4 (by decide) ?_
  refine lv_icmp_eq (tgt := 16) hx hb dX6_takeNumber_5 (by decide) (fun c2 => ?_) (fun c2 => ?_)
  · have zc2 := eqK rfl (show (2 : Int32).toInt = 2 by decide) c2
    refine lv_aload_n hx hb dX6_takeNumber_16 rfl (lv_at hl 0 rfl) ?_
    refine getF (v := .int (Ft 4)) hx hb ht hown hK hP iTX6 0 4 rfl rfl (by decide) fl_RX6_147 rfl dX6_takeNumber_17 ?_
    refine lv_iload_n hx hb dX6_takeNumber_20 rfl (lv_at hl 1 rfl) ?_
    refine lv_icmp_lt (tgt := 40) hx hb dX6_takeNumber_21 (by decide) (fun c3 => ?_) (fun c3 => ?_)
    · have zc3 := ltK rfl rfl c3
      refine lv_aload_n hx hb dX6_takeNumber_40 rfl (lv_at hl 0 rfl) ?_
      refine lv_iconst (v := 2) hx hb dX6_takeNumber_41 (by decide) ?_
      refine behDi (wr := ([] : va_W)) (runVD (As := [.int 2]) (rest := []) ⟨hx, hb, hml, hown, ht⟩ (sX6_fail l G cs adt qt Ft At Bt Dt hIt qtp Ftp Atp Btp Dtp hItp 2 ) okV_RX6_52 ⟨by decide, by decide⟩ hK hP hD [0, 1, 2] rfl (by decide) rfl 0 rfl rfl hl.1 rfl (Nat.le_of_ble_eq_true rfl) dX6_takeNumber_42 ⟨(Nat.le_of_ble_eq_true rfl), (Nat.le_of_ble_eq_true rfl)⟩) hP hD hS hA [0, 1, 2] [] rfl rfl (by decide) (by decide) (fun r9 u H locs hu hP hD hS => ?_)
      obtain ⟨x4, x5⟩ := u
      have kk7 : (2 : Int32).toInt = 2 := by decide
      obtain ⟨r6, rfl⟩ : ∃ z, z = r9 := ⟨_, rfl⟩
      have hr6 := hu
      have hr6 : r6.toInt = 0 := hr6
      have hP : va_P G vwCl ((uX6 cs adt qt (upv 6 x5 (upv 5 x4 Ft)) At Bt Dt) ++ (uX9 cs (qt 0) qtp Ftp Atp Btp Dtp)) H := hP.sub [0, 1, 2] rfl
      have hD : va_D A0 ((uX6 cs adt qt (upv 6 x5 (upv 5 x4 Ft)) At Bt Dt) ++ (uX9 cs (qt 0) qtp Ftp Atp Btp Dtp)) := hD.sub [0, 1, 2] (by decide) rfl
      refine lv_pop hx hb dX6_takeNumber_45 rfl ?_
      refine lv_iconst (v := (-1)) hx hb dX6_takeNumber_46 (by decide) ?_
      exact retDi ((Ft 1), (Ft 2), (Ft 3), (Ft 4), x4, x5) hx hb hr hlk hP hD hS dX6_takeNumber_47 (⟨hIt.1 1, hIt.1 2, hIt.1 3, Or.inl (by decide)⟩) (Nat.le_of_ble_eq_true rfl) (Nat.le_of_ble_eq_true rfl)
    · have zc3 := nltK rfl rfl c3
      refine lv_aload_n hx hb dX6_takeNumber_24 rfl (lv_at hl 0 rfl) ?_
      refine getF (v := .int (Ft 4)) hx hb ht hown hK hP iTX6 0 4 rfl rfl (by decide) fl_RX6_147 rfl dX6_takeNumber_25 ?_
      refine lv_iload_n hx hb dX6_takeNumber_28 rfl (lv_at hl 2 rfl) ?_
      refine lv_icmp_gt (tgt := 40) hx hb dX6_takeNumber_29 (by decide) (fun c8 => ?_) (fun c8 => ?_)
      · have zc8 := ltK rfl rfl c8
        refine lv_aload_n hx hb dX6_takeNumber_40 rfl (lv_at hl 0 rfl) ?_
        refine lv_iconst (v := 2) hx hb dX6_takeNumber_41 (by decide) ?_
        refine behDi (wr := ([] : va_W)) (runVD (As := [.int 2]) (rest := []) ⟨hx, hb, hml, hown, ht⟩ (sX6_fail l G cs adt qt Ft At Bt Dt hIt qtp Ftp Atp Btp Dtp hItp 2 ) okV_RX6_52 ⟨by decide, by decide⟩ hK hP hD [0, 1, 2] rfl (by decide) rfl 0 rfl rfl hl.1 rfl (Nat.le_of_ble_eq_true rfl) dX6_takeNumber_42 ⟨(Nat.le_of_ble_eq_true rfl), (Nat.le_of_ble_eq_true rfl)⟩) hP hD hS hA [0, 1, 2] [] rfl rfl (by decide) (by decide) (fun r9 u H locs hu hP hD hS => ?_)
        obtain ⟨x9, x10⟩ := u
        have kk12 : (2 : Int32).toInt = 2 := by decide
        obtain ⟨r11, rfl⟩ : ∃ z, z = r9 := ⟨_, rfl⟩
        have hr11 := hu
        have hr11 : r11.toInt = 0 := hr11
        have hP : va_P G vwCl ((uX6 cs adt qt (upv 6 x10 (upv 5 x9 Ft)) At Bt Dt) ++ (uX9 cs (qt 0) qtp Ftp Atp Btp Dtp)) H := hP.sub [0, 1, 2] rfl
        have hD : va_D A0 ((uX6 cs adt qt (upv 6 x10 (upv 5 x9 Ft)) At Bt Dt) ++ (uX9 cs (qt 0) qtp Ftp Atp Btp Dtp)) := hD.sub [0, 1, 2] (by decide) rfl
        refine lv_pop hx hb dX6_takeNumber_45 rfl ?_
        refine lv_iconst (v := (-1)) hx hb dX6_takeNumber_46 (by decide) ?_
        exact retDi ((Ft 1), (Ft 2), (Ft 3), (Ft 4), x9, x10) hx hb hr hlk hP hD hS dX6_takeNumber_47 (⟨hIt.1 1, hIt.1 2, hIt.1 3, Or.inl (by decide)⟩) (Nat.le_of_ble_eq_true rfl) (Nat.le_of_ble_eq_true rfl)
      · have zc8 := nltK rfl rfl c8
        refine lv_aload_n hx hb dX6_takeNumber_32 rfl (lv_at hl 0 rfl) ?_
        refine getF (v := .int (Ft 4)) hx hb ht hown hK hP iTX6 0 4 rfl rfl (by decide) fl_RX6_147 rfl dX6_takeNumber_33 ?_
        refine lv_iload_n hx hb dX6_takeNumber_36 rfl (lv_at hl 3 rfl) ?_
        refine lv_icmp_ne (tgt := 48) hx hb dX6_takeNumber_37 (by decide) (fun c13 => ?_) (fun c13 => ?_)
        · have zc13 := neK rfl rfl c13
          refine lv_aload_n hx hb dX6_takeNumber_48 rfl (lv_at hl 0 rfl) ?_
          refine getF (v := .int (Ft 4)) hx hb ht hown hK hP iTX6 0 4 rfl rfl (by decide) fl_RX6_147 rfl dX6_takeNumber_49 ?_
          refine lv_istore (lv' := [(4, .int (Ft 4)), (0, .ref adt), (1, .int a1), (2, .int a2), (3, .int a3)]) hx hb dX6_takeNumber_52 hl (by decide) rfl (fun ls hl => ?_)
          refine lv_aload_n hx hb dX6_takeNumber_54 rfl (lv_at hl 1 rfl) ?_
          refine behDw (wr := ([] : va_W)) (runVD (As := []) (rest := []) ⟨hx, hb, hml, hown, ht⟩ (sX6_advance l G cs adt qt Ft At Bt Dt hIt qtp Ftp Atp Btp Dtp hItp ) okV_RX6_33 ⟨by decide, by decide⟩ hK hP hD [0, 1, 2] rfl (by decide) rfl 0 rfl rfl hl.1 rfl (Nat.le_of_ble_eq_true rfl) dX6_takeNumber_55 ⟨(Nat.le_of_ble_eq_true rfl), (Nat.le_of_ble_eq_true rfl)⟩) hP hD hS hA [0, 1, 2] [] rfl rfl (by decide) (by decide) (fun u H locs hu hP hD hS => ?_)
          obtain ⟨x14, x15, x16, x17⟩ := u
          obtain ⟨hbx14, hbx15, hbx16, hr18⟩ := hu
          have hbx14 : (0 : Int) ≤ x14.toInt ∧ x14.toInt ≤ 900 := hbx14
          have hbx15 : (0 : Int) ≤ x15.toInt ∧ x15.toInt ≤ 4 := hbx15
          have hbx16 : (0 : Int) ≤ x16.toInt ∧ x16.toInt ≤ 900 := hbx16
          have hP : va_P G vwCl ((uX6 cs adt qt (upv 4 x17 (upv 3 x16 (upv 2 x15 (upv 1 x14 Ft)))) At Bt Dt) ++ (uX9 cs (qt 0) qtp Ftp Atp Btp Dtp)) H := hP.sub [0, 1, 2] rfl
          have hD : va_D A0 ((uX6 cs adt qt (upv 4 x17 (upv 3 x16 (upv 2 x15 (upv 1 x14 Ft)))) At Bt Dt) ++ (uX9 cs (qt 0) qtp Ftp Atp Btp Dtp)) := hD.sub [0, 1, 2] (by decide) rfl
          refine lv_iload hx hb dX6_takeNumber_58 (lv_at hl 0 rfl) ?_
          exact retDi (x14, x15, x16, x17, (Ft 5), (Ft 6)) hx hb hr hlk hP hD hS dX6_takeNumber_60 (⟨show (0 : Int) ≤ x14.toInt ∧ x14.toInt ≤ 900 by omega, show (0 : Int) ≤ x15.toInt ∧ x15.toInt ≤ 4 by omega, show (0 : Int) ≤ x16.toInt ∧ x16.toInt ≤ 900 by omega, Or.inr ⟨by omega, by omega⟩⟩) (Nat.le_of_ble_eq_true rfl) (Nat.le_of_ble_eq_true rfl)
        · have zc13 := eqK rfl rfl c13
          refine lv_aload_n hx hb dX6_takeNumber_40 rfl (lv_at hl 0 rfl) ?_
          refine lv_iconst (v := 2) hx hb dX6_takeNumber_41 (by decide) ?_
          refine behDi (wr := ([] : va_W)) (runVD (As := [.int 2]) (rest := []) ⟨hx, hb, hml, hown, ht⟩ (sX6_fail l G cs adt qt Ft At Bt Dt hIt qtp Ftp Atp Btp Dtp hItp 2 ) okV_RX6_52 ⟨by decide, by decide⟩ hK hP hD [0, 1, 2] rfl (by decide) rfl 0 rfl rfl hl.1 rfl (Nat.le_of_ble_eq_true rfl) dX6_takeNumber_42 ⟨(Nat.le_of_ble_eq_true rfl), (Nat.le_of_ble_eq_true rfl)⟩) hP hD hS hA [0, 1, 2] [] rfl rfl (by decide) (by decide) (fun r9 u H locs hu hP hD hS => ?_)
          obtain ⟨x19, x20⟩ := u
          have kk22 : (2 : Int32).toInt = 2 := by decide
          obtain ⟨r21, rfl⟩ : ∃ z, z = r9 := ⟨_, rfl⟩
          have hr21 := hu
          have hr21 : r21.toInt = 0 := hr21
          have hP : va_P G vwCl ((uX6 cs adt qt (upv 6 x20 (upv 5 x19 Ft)) At Bt Dt) ++ (uX9 cs (qt 0) qtp Ftp Atp Btp Dtp)) H := hP.sub [0, 1, 2] rfl
          have hD : va_D A0 ((uX6 cs adt qt (upv 6 x20 (upv 5 x19 Ft)) At Bt Dt) ++ (uX9 cs (qt 0) qtp Ftp Atp Btp Dtp)) := hD.sub [0, 1, 2] (by decide) rfl
          refine lv_pop hx hb dX6_takeNumber_45 rfl ?_
          refine lv_iconst (v := (-1)) hx hb dX6_takeNumber_46 (by decide) ?_
          exact retDi ((Ft 1), (Ft 2), (Ft 3), (Ft 4), x19, x20) hx hb hr hlk hP hD hS dX6_takeNumber_47 (⟨hIt.1 1, hIt.1 2, hIt.1 3, Or.inl (by decide)⟩) (Nat.le_of_ble_eq_true rfl) (Nat.le_of_ble_eq_true rfl)
  · have zc2 := neK rfl (show (2 : Int32).toInt = 2 by decide) c2
    refine lv_aload_n hx hb dX6_takeNumber_8 rfl (lv_at hl 0 rfl) ?_
    refine lv_iconst (v := 1) hx hb dX6_takeNumber_9 (by decide) ?_
    refine behDi (wr := ([] : va_W)) (runVD (As := [.int 1]) (rest := []) ⟨hx, hb, hml, hown, ht⟩ (sX6_fail l G cs adt qt Ft At Bt Dt hIt qtp Ftp Atp Btp Dtp hItp 1 ) okV_RX6_52 ⟨by decide, by decide⟩ hK hP hD [0, 1, 2] rfl (by decide) rfl 0 rfl rfl hl.1 rfl (Nat.le_of_ble_eq_true rfl) dX6_takeNumber_10 ⟨(Nat.le_of_ble_eq_true rfl), (Nat.le_of_ble_eq_true rfl)⟩) hP hD hS hA [0, 1, 2] [] rfl rfl (by decide) (by decide) (fun r9 u H locs hu hP hD hS => ?_)
    obtain ⟨x23, x24⟩ := u
    have kk26 : (1 : Int32).toInt = 1 := by decide
    obtain ⟨r25, rfl⟩ : ∃ z, z = r9 := ⟨_, rfl⟩
    have hr25 := hu
    have hr25 : r25.toInt = 0 := hr25
    have hP : va_P G vwCl ((uX6 cs adt qt (upv 6 x24 (upv 5 x23 Ft)) At Bt Dt) ++ (uX9 cs (qt 0) qtp Ftp Atp Btp Dtp)) H := hP.sub [0, 1, 2] rfl
    have hD : va_D A0 ((uX6 cs adt qt (upv 6 x24 (upv 5 x23 Ft)) At Bt Dt) ++ (uX9 cs (qt 0) qtp Ftp Atp Btp Dtp)) := hD.sub [0, 1, 2] (by decide) rfl
    refine lv_pop hx hb dX6_takeNumber_13 rfl ?_
    refine lv_iconst (v := (-1)) hx hb dX6_takeNumber_14 (by decide) ?_
    exact retDi ((Ft 1), (Ft 2), (Ft 3), (Ft 4), x23, x24) hx hb hr hlk hP hD hS dX6_takeNumber_15 (⟨hIt.1 1, hIt.1 2, hIt.1 3, Or.inl (by decide)⟩) (Nat.le_of_ble_eq_true rfl) (Nat.le_of_ble_eq_true rfl)

set_option maxRecDepth 100000 in
set_option maxHeartbeats 16000000 in
theorem sX6_takeNamed (l : Launch) (G : va_G) (cs : Nat → ClassId) (sd : Nat → Nat × Nat) (adt : Nat) (qt : Nat → Nat) (Ft : Nat → Int32) (At : Nat → Nat → Int32) (Bt : Nat → Nat → Int64) (Dt : Int64) (hIt : IX6 Ft At) (qtp : Nat → Nat) (Ftp : Nat → Int32) (Atp : Nat → Nat → Int32) (Btp : Nat → Nat → Int64) (Dtp : Int64) (hItp : IX9 Ftp Atp) (i : Nat) (hi : i < 15) (a2 : Int32) (a3 : Int32) : ∀ sz : Nat, Met l yX6_takeNamed (wk yX6_takeNamed cX6_takeNamed 4 (some .int)) (rmk 5 0 0) (PreDS SRR sd G (TY cs) [.ref adt, .ref ((sd i).1), .int a2, .int a3] ((uX6 cs adt qt Ft At Bt Dt) ++ (uX9 cs (qt 0) qtp Ftp Atp Btp Dtp)) sz) ((QDi G (fun (r : Int32) (u : Int32 × Int32 × Int32 × Int32 × Int32 × Int32) => ((0 : Int) ≤ u.1.toInt ∧ u.1.toInt ≤ 900) ∧ ((0 : Int) ≤ u.2.1.toInt ∧ u.2.1.toInt ≤ 4) ∧ ((0 : Int) ≤ u.2.2.1.toInt ∧ u.2.2.1.toInt ≤ 900) ∧ (TNk r a2.toInt a3.toInt)) (fun u : Int32 × Int32 × Int32 × Int32 × Int32 × Int32 => ((wX6 cs adt qt (upd (upd (upd (upd (upd (upd Ft 1 u.1) 2 u.2.1) 3 u.2.2.1) 4 u.2.2.2.1) 5 u.2.2.2.2.1) 6 u.2.2.2.2.2) At Bt Dt) ++ (uX9 cs (qt 0) qtp Ftp Atp Btp Dtp)))) (va_A ((uX6 cs adt qt Ft At Bt Dt) ++ (uX9 cs (qt 0) qtp Ftp Atp Btp Dtp)) sz)) 0 0 (va_A ((uX6 cs adt qt Ft At Bt Dt) ++ (uX9 cs (qt 0) qtp Ftp Atp Btp Dtp)) sz) := by
  refine mkDS (Qc := (QDi G (fun (r : Int32) (u : Int32 × Int32 × Int32 × Int32 × Int32 × Int32) => ((0 : Int) ≤ u.1.toInt ∧ u.1.toInt ≤ 900) ∧ ((0 : Int) ≤ u.2.1.toInt ∧ u.2.1.toInt ≤ 4) ∧ ((0 : Int) ≤ u.2.2.1.toInt ∧ u.2.2.1.toInt ≤ 900) ∧ (TNk r a2.toInt a3.toInt)) (fun u : Int32 × Int32 × Int32 × Int32 × Int32 × Int32 => ((wX6 cs adt qt (upd (upd (upd (upd (upd (upd Ft 1 u.1) 2 u.2.1) 3 u.2.2.1) 4 u.2.2.2.1) 5 u.2.2.2.2.1) 6 u.2.2.2.2.2) At Bt Dt) ++ (uX9 cs (qt 0) qtp Ftp Atp Btp Dtp))))) (by decide) (by simp [lg_sl, Value.category]) ?_
  intro p e s m args below meth c ls A0 hx hb hml hr hlk hown hmn ht hK hP hD hS hA hQ hl
  have hl : lv_has ls 4 [(0, .ref adt), (1, .ref ((sd i).1)), (2, .int a2), (3, .int a3)] := hl
  refine lv_aload_n hx hb dX6_takeNamed_0 rfl (lv_at hl 0 rfl) ?_
  refine lv_aload_n hx hb dX6_takeNamed_1 rfl (lv_at hl 1 rfl) ?_
  refine behR (runVPS (As := [.ref ((sd i).1)]) (rest := []) ⟨hx, hb, hml, hown, ht⟩ (sX6_isWord l G cs sd adt qt Ft At Bt Dt hIt qtp Ftp Atp Btp Dtp hItp i hi ) okV_RX6_48 ⟨by decide, by decide⟩ hK hP hQ hS hA [0, 1, 2] rfl 0 rfl rfl hl.1 rfl (Nat.le_of_ble_eq_true rfl) dX6_takeNamed_2 ⟨by decide, by decide⟩) hP hS hA (fun r1 H locs hr1 hP hS => ?_)
  have hr1 : (0 : Int) ≤ r1.toInt ∧ r1.toInt ≤ 1 := hr1
  refine lv_if_ne (tgt := 16) hx hb dX6_takeNamed_5 (by decide) (fun c2 => ?_) (fun c2 => ?_)
  · have zc2 := neK rfl (show (0 : Int32).toInt = 0 by decide) c2
    refine lv_aload_n hx hb dX6_takeNamed_16 rfl (lv_at hl 0 rfl) ?_
    refine behDw (wr := ([] : va_W)) (runVD (As := []) (rest := []) ⟨hx, hb, hml, hown, ht⟩ (sX6_advance l G cs adt qt Ft At Bt Dt hIt qtp Ftp Atp Btp Dtp hItp ) okV_RX6_33 ⟨by decide, by decide⟩ hK hP hD [0, 1, 2] rfl (by decide) rfl 0 rfl rfl hl.1 rfl (Nat.le_of_ble_eq_true rfl) dX6_takeNamed_17 ⟨(Nat.le_of_ble_eq_true rfl), (Nat.le_of_ble_eq_true rfl)⟩) hP hD hS hA [0, 1, 2] [] rfl rfl (by decide) (by decide) (fun u H locs hu hP hD hS => ?_)
    obtain ⟨x3, x4, x5, x6⟩ := u
    obtain ⟨hbx3, hbx4, hbx5, hr7⟩ := hu
    have hbx3 : (0 : Int) ≤ x3.toInt ∧ x3.toInt ≤ 900 := hbx3
    have hbx4 : (0 : Int) ≤ x4.toInt ∧ x4.toInt ≤ 4 := hbx4
    have hbx5 : (0 : Int) ≤ x5.toInt ∧ x5.toInt ≤ 900 := hbx5
    have hP : va_P G vwCl ((uX6 cs adt qt (upv 4 x6 (upv 3 x5 (upv 2 x4 (upv 1 x3 Ft)))) At Bt Dt) ++ (uX9 cs (qt 0) qtp Ftp Atp Btp Dtp)) H := hP.sub [0, 1, 2] rfl
    have hD : va_D A0 ((uX6 cs adt qt (upv 4 x6 (upv 3 x5 (upv 2 x4 (upv 1 x3 Ft)))) At Bt Dt) ++ (uX9 cs (qt 0) qtp Ftp Atp Btp Dtp)) := hD.sub [0, 1, 2] (by decide) rfl
    refine lv_aload_n hx hb dX6_takeNamed_20 rfl (lv_at hl 0 rfl) ?_
    refine lv_iload_n hx hb dX6_takeNamed_21 rfl (lv_at hl 2 rfl) ?_
    refine lv_iload_n hx hb dX6_takeNamed_22 rfl (lv_at hl 3 rfl) ?_
    refine lv_iconst (v := (-1)) hx hb dX6_takeNamed_23 (by decide) ?_
    refine behDi (wr := ([] : va_W)) (runVD (As := [.int a2, .int a3, .int (-1)]) (rest := []) ⟨hx, hb, hml, hown, ht⟩ (sX6_takeNumber l G cs adt qt (upv 4 x6 (upv 3 x5 (upv 2 x4 (upv 1 x3 Ft)))) At Bt Dt (IB_pv (k := 4) (IB_pv (k := 3) (IB_pv (k := 2) (IB_pv (k := 1) hIt (show (0 : Int) ≤ x3.toInt ∧ x3.toInt ≤ 900 by omega)) (show (0 : Int) ≤ x4.toInt ∧ x4.toInt ≤ 4 by omega)) (show (0 : Int) ≤ x5.toInt ∧ x5.toInt ≤ 900 by omega)) (i32b _)) qtp Ftp Atp Btp Dtp hItp a2 a3 (-1) ) okV_RX6_120 ⟨by decide, by decide⟩ hK hP hD [0, 1, 2] rfl (by decide) rfl 0 rfl rfl hl.1 rfl (Nat.le_of_ble_eq_true rfl) dX6_takeNamed_24 ⟨(Nat.le_of_ble_eq_true rfl), (Nat.le_of_ble_eq_true rfl)⟩) hP hD hS hA [0, 1, 2] [] rfl rfl (by decide) (by decide) (fun r9 u H locs hu hP hD hS => ?_)
    obtain ⟨x8, x9, x10, x11, x12, x13⟩ := u
    have kk15 : (-1 : Int32).toInt = (-1) := by decide
    obtain ⟨r14, rfl⟩ : ∃ z, z = r9 := ⟨_, rfl⟩
    obtain ⟨hbx8, hbx9, hbx10, hr14⟩ := hu
    have hbx8 : (0 : Int) ≤ x8.toInt ∧ x8.toInt ≤ 900 := hbx8
    have hbx9 : (0 : Int) ≤ x9.toInt ∧ x9.toInt ≤ 4 := hbx9
    have hbx10 : (0 : Int) ≤ x10.toInt ∧ x10.toInt ≤ 900 := hbx10
    have hr14 : TNk r14 a2.toInt a3.toInt := hr14
    have hP : va_P G vwCl ((uX6 cs adt qt (upv 6 x13 (upv 5 x12 (upv 4 x11 (upv 3 x10 (upv 2 x9 (upv 1 x8 Ft)))))) At Bt Dt) ++ (uX9 cs (qt 0) qtp Ftp Atp Btp Dtp)) H := hP.sub [0, 1, 2] rfl
    have hD : va_D A0 ((uX6 cs adt qt (upv 6 x13 (upv 5 x12 (upv 4 x11 (upv 3 x10 (upv 2 x9 (upv 1 x8 Ft)))))) At Bt Dt) ++ (uX9 cs (qt 0) qtp Ftp Atp Btp Dtp)) := hD.sub [0, 1, 2] (by decide) rfl
    exact retDi (x8, x9, x10, x11, x12, x13) hx hb hr hlk hP hD hS dX6_takeNamed_27 (⟨show (0 : Int) ≤ x8.toInt ∧ x8.toInt ≤ 900 by omega, show (0 : Int) ≤ x9.toInt ∧ x9.toInt ≤ 4 by omega, show (0 : Int) ≤ x10.toInt ∧ x10.toInt ≤ 900 by omega, hr14⟩) (Nat.le_of_ble_eq_true rfl) (Nat.le_of_ble_eq_true rfl)
  · have zc2 := eqK rfl (show (0 : Int32).toInt = 0 by decide) c2
    refine lv_aload_n hx hb dX6_takeNamed_8 rfl (lv_at hl 0 rfl) ?_
    refine lv_iconst (v := 1) hx hb dX6_takeNamed_9 (by decide) ?_
    refine behDi (wr := ([] : va_W)) (runVD (As := [.int 1]) (rest := []) ⟨hx, hb, hml, hown, ht⟩ (sX6_fail l G cs adt qt Ft At Bt Dt hIt qtp Ftp Atp Btp Dtp hItp 1 ) okV_RX6_52 ⟨by decide, by decide⟩ hK hP hD [0, 1, 2] rfl (by decide) rfl 0 rfl rfl hl.1 rfl (Nat.le_of_ble_eq_true rfl) dX6_takeNamed_10 ⟨(Nat.le_of_ble_eq_true rfl), (Nat.le_of_ble_eq_true rfl)⟩) hP hD hS hA [0, 1, 2] [] rfl rfl (by decide) (by decide) (fun r9 u H locs hu hP hD hS => ?_)
    obtain ⟨x16, x17⟩ := u
    have kk19 : (1 : Int32).toInt = 1 := by decide
    obtain ⟨r18, rfl⟩ : ∃ z, z = r9 := ⟨_, rfl⟩
    have hr18 := hu
    have hr18 : r18.toInt = 0 := hr18
    have hP : va_P G vwCl ((uX6 cs adt qt (upv 6 x17 (upv 5 x16 Ft)) At Bt Dt) ++ (uX9 cs (qt 0) qtp Ftp Atp Btp Dtp)) H := hP.sub [0, 1, 2] rfl
    have hD : va_D A0 ((uX6 cs adt qt (upv 6 x17 (upv 5 x16 Ft)) At Bt Dt) ++ (uX9 cs (qt 0) qtp Ftp Atp Btp Dtp)) := hD.sub [0, 1, 2] (by decide) rfl
    refine lv_pop hx hb dX6_takeNamed_13 rfl ?_
    refine lv_iconst (v := (-1)) hx hb dX6_takeNamed_14 (by decide) ?_
    exact retDi ((Ft 1), (Ft 2), (Ft 3), (Ft 4), x16, x17) hx hb hr hlk hP hD hS dX6_takeNamed_15 (⟨hIt.1 1, hIt.1 2, hIt.1 3, Or.inl (by decide)⟩) (Nat.le_of_ble_eq_true rfl) (Nat.le_of_ble_eq_true rfl)

set_option maxRecDepth 100000 in
set_option maxHeartbeats 16000000 in
theorem sX6_takeSign (l : Launch) (G : va_G) (cs : Nat → ClassId) (adt : Nat) (qt : Nat → Nat) (Ft : Nat → Int32) (At : Nat → Nat → Int32) (Bt : Nat → Nat → Int64) (Dt : Int64) (hIt : IX6 Ft At) (qtp : Nat → Nat) (Ftp : Nat → Int32) (Atp : Nat → Nat → Int32) (Btp : Nat → Nat → Int64) (Dtp : Int64) (hItp : IX9 Ftp Atp) : ∀ sz : Nat, Met l yX6_takeSign (wk yX6_takeSign cX6_takeSign 1 (some .boolean)) (rmk 2 0 0) (PreD G (TY cs) [.ref adt] ((uX6 cs adt qt Ft At Bt Dt) ++ (uX9 cs (qt 0) qtp Ftp Atp Btp Dtp)) sz) ((QDi G (fun (r : Int32) (u : Int32 × Int32 × Int32 × Int32 × Int32 × Int32) => ((0 : Int) ≤ u.1.toInt ∧ u.1.toInt ≤ 900) ∧ ((0 : Int) ≤ u.2.1.toInt ∧ u.2.1.toInt ≤ 4) ∧ ((0 : Int) ≤ u.2.2.1.toInt ∧ u.2.2.1.toInt ≤ 900) ∧ ((0 : Int) ≤ r.toInt ∧ r.toInt ≤ 1)) (fun u : Int32 × Int32 × Int32 × Int32 × Int32 × Int32 => ((wX6 cs adt qt (upd (upd (upd (upd (upd (upd Ft 1 u.1) 2 u.2.1) 3 u.2.2.1) 4 u.2.2.2.1) 5 u.2.2.2.2.1) 6 u.2.2.2.2.2) At Bt Dt) ++ (uX9 cs (qt 0) qtp Ftp Atp Btp Dtp)))) (va_A ((uX6 cs adt qt Ft At Bt Dt) ++ (uX9 cs (qt 0) qtp Ftp Atp Btp Dtp)) sz)) 0 0 (va_A ((uX6 cs adt qt Ft At Bt Dt) ++ (uX9 cs (qt 0) qtp Ftp Atp Btp Dtp)) sz) := by
  refine mkD (Qc := (QDi G (fun (r : Int32) (u : Int32 × Int32 × Int32 × Int32 × Int32 × Int32) => ((0 : Int) ≤ u.1.toInt ∧ u.1.toInt ≤ 900) ∧ ((0 : Int) ≤ u.2.1.toInt ∧ u.2.1.toInt ≤ 4) ∧ ((0 : Int) ≤ u.2.2.1.toInt ∧ u.2.2.1.toInt ≤ 900) ∧ ((0 : Int) ≤ r.toInt ∧ r.toInt ≤ 1)) (fun u : Int32 × Int32 × Int32 × Int32 × Int32 × Int32 => ((wX6 cs adt qt (upd (upd (upd (upd (upd (upd Ft 1 u.1) 2 u.2.1) 3 u.2.2.1) 4 u.2.2.2.1) 5 u.2.2.2.2.1) 6 u.2.2.2.2.2) At Bt Dt) ++ (uX9 cs (qt 0) qtp Ftp Atp Btp Dtp))))) (by decide) (by simp [lg_sl, Value.category]) ?_
  intro p e s m args below meth c ls A0 hx hb hml hr hlk hown hmn ht hK hP hD hS hA hl
  have hl : lv_has ls 1 [(0, .ref adt)] := hl
  refine lv_aload_n hx hb dX6_takeSign_0 rfl (lv_at hl 0 rfl) ?_
  refine getF (v := .int (Ft 2)) hx hb ht hown hK hP iTX6 0 2 rfl rfl (by decide) fl_RX6_36 rfl dX6_takeSign_1 ?_
  have zf1 : (0 : Int) ≤ (Ft 2).toInt ∧ (Ft 2).toInt ≤ 4 := hIt.1 2
  refine lv_iconst (v := 3) hx hb dX6_takeSign_4 (by decide) ?_
  refine lv_icmp_eq (tgt := 14) hx hb dX6_takeSign_5 (by decide) (fun c2 => ?_) (fun c2 => ?_)
  · have zc2 := eqK rfl (show (3 : Int32).toInt = 3 by decide) c2
    refine lv_aload_n hx hb dX6_takeSign_14 rfl (lv_at hl 0 rfl) ?_
    refine behDw (wr := ([] : va_W)) (runVD (As := []) (rest := []) ⟨hx, hb, hml, hown, ht⟩ (sX6_advance l G cs adt qt Ft At Bt Dt hIt qtp Ftp Atp Btp Dtp hItp ) okV_RX6_33 ⟨by decide, by decide⟩ hK hP hD [0, 1, 2] rfl (by decide) rfl 0 rfl rfl hl.1 rfl (Nat.le_of_ble_eq_true rfl) dX6_takeSign_15 ⟨(Nat.le_of_ble_eq_true rfl), (Nat.le_of_ble_eq_true rfl)⟩) hP hD hS hA [0, 1, 2] [] rfl rfl (by decide) (by decide) (fun u H locs hu hP hD hS => ?_)
    obtain ⟨x3, x4, x5, x6⟩ := u
    obtain ⟨hbx3, hbx4, hbx5, hr7⟩ := hu
    have hbx3 : (0 : Int) ≤ x3.toInt ∧ x3.toInt ≤ 900 := hbx3
    have hbx4 : (0 : Int) ≤ x4.toInt ∧ x4.toInt ≤ 4 := hbx4
    have hbx5 : (0 : Int) ≤ x5.toInt ∧ x5.toInt ≤ 900 := hbx5
    have hP : va_P G vwCl ((uX6 cs adt qt (upv 4 x6 (upv 3 x5 (upv 2 x4 (upv 1 x3 Ft)))) At Bt Dt) ++ (uX9 cs (qt 0) qtp Ftp Atp Btp Dtp)) H := hP.sub [0, 1, 2] rfl
    have hD : va_D A0 ((uX6 cs adt qt (upv 4 x6 (upv 3 x5 (upv 2 x4 (upv 1 x3 Ft)))) At Bt Dt) ++ (uX9 cs (qt 0) qtp Ftp Atp Btp Dtp)) := hD.sub [0, 1, 2] (by decide) rfl
    refine lv_iconst (v := 1) hx hb dX6_takeSign_18 (by decide) ?_
    exact retDz (x3, x4, x5, x6, (Ft 5), (Ft 6)) hx hb hr hlk hP hD hS dX6_takeSign_19 (rfl) (⟨show (0 : Int) ≤ x3.toInt ∧ x3.toInt ≤ 900 by omega, show (0 : Int) ≤ x4.toInt ∧ x4.toInt ≤ 4 by omega, show (0 : Int) ≤ x5.toInt ∧ x5.toInt ≤ 900 by omega, show (0 : Int) ≤ (1 : Int32).toInt ∧ (1 : Int32).toInt ≤ 1 by have kk : (1 : Int32).toInt = 1 := (by decide); omega⟩) (Nat.le_of_ble_eq_true rfl) (Nat.le_of_ble_eq_true rfl)
  · have zc2 := neK rfl (show (3 : Int32).toInt = 3 by decide) c2
    refine lv_aload_n hx hb dX6_takeSign_8 rfl (lv_at hl 0 rfl) ?_
    refine lv_iconst (v := 1) hx hb dX6_takeSign_9 (by decide) ?_
    refine behDi (wr := ([] : va_W)) (runVD (As := [.int 1]) (rest := []) ⟨hx, hb, hml, hown, ht⟩ (sX6_fail l G cs adt qt Ft At Bt Dt hIt qtp Ftp Atp Btp Dtp hItp 1 ) okV_RX6_52 ⟨by decide, by decide⟩ hK hP hD [0, 1, 2] rfl (by decide) rfl 0 rfl rfl hl.1 rfl (Nat.le_of_ble_eq_true rfl) dX6_takeSign_10 ⟨(Nat.le_of_ble_eq_true rfl), (Nat.le_of_ble_eq_true rfl)⟩) hP hD hS hA [0, 1, 2] [] rfl rfl (by decide) (by decide) (fun r9 u H locs hu hP hD hS => ?_)
    obtain ⟨x8, x9⟩ := u
    have kk11 : (1 : Int32).toInt = 1 := by decide
    obtain ⟨r10, rfl⟩ : ∃ z, z = r9 := ⟨_, rfl⟩
    have hr10 := hu
    have hr10 : r10.toInt = 0 := hr10
    have hP : va_P G vwCl ((uX6 cs adt qt (upv 6 x9 (upv 5 x8 Ft)) At Bt Dt) ++ (uX9 cs (qt 0) qtp Ftp Atp Btp Dtp)) H := hP.sub [0, 1, 2] rfl
    have hD : va_D A0 ((uX6 cs adt qt (upv 6 x9 (upv 5 x8 Ft)) At Bt Dt) ++ (uX9 cs (qt 0) qtp Ftp Atp Btp Dtp)) := hD.sub [0, 1, 2] (by decide) rfl
    exact retDz ((Ft 1), (Ft 2), (Ft 3), (Ft 4), x8, x9) hx hb hr hlk hP hD hS dX6_takeSign_13 (narZ (by omega)) (⟨hIt.1 1, hIt.1 2, hIt.1 3, show (0 : Int) ≤ r10.toInt ∧ r10.toInt ≤ 1 by omega⟩) (Nat.le_of_ble_eq_true rfl) (Nat.le_of_ble_eq_true rfl)

set_option maxRecDepth 100000 in
set_option maxHeartbeats 16000000 in
theorem sX6_takeQuestions (l : Launch) (G : va_G) (cs : Nat → ClassId) (adt : Nat) (qt : Nat → Nat) (Ft : Nat → Int32) (At : Nat → Nat → Int32) (Bt : Nat → Nat → Int64) (Dt : Int64) (hIt : IX6 Ft At) (qtp : Nat → Nat) (Ftp : Nat → Int32) (Atp : Nat → Nat → Int32) (Btp : Nat → Nat → Int64) (Dtp : Int64) (hItp : IX9 Ftp Atp) : ∀ sz : Nat, Met l yX6_takeQuestions (wk yX6_takeQuestions cX6_takeQuestions 4 (some .int)) (rmk 3 0 0) (PreD G (TY cs) [.ref adt] ((uX6 cs adt qt Ft At Bt Dt) ++ (uX9 cs (qt 0) qtp Ftp Atp Btp Dtp)) sz) ((QDi G (fun (r : Int32) (u : Int32 × Int32 × Int32 × Int32 × Int32 × Int32) => ((0 : Int) ≤ u.1.toInt ∧ u.1.toInt ≤ 900) ∧ ((0 : Int) ≤ u.2.1.toInt ∧ u.2.1.toInt ≤ 4) ∧ ((0 : Int) ≤ u.2.2.1.toInt ∧ u.2.2.1.toInt ≤ 900) ∧ ((0 : Int) ≤ r.toInt ∧ r.toInt ≤ 63)) (fun u : Int32 × Int32 × Int32 × Int32 × Int32 × Int32 => ((wX6 cs adt qt (upd (upd (upd (upd (upd (upd Ft 1 u.1) 2 u.2.1) 3 u.2.2.1) 4 u.2.2.2.1) 5 u.2.2.2.2.1) 6 u.2.2.2.2.2) At Bt Dt) ++ (uX9 cs (qt 0) qtp Ftp Atp Btp Dtp)))) (va_A ((uX6 cs adt qt Ft At Bt Dt) ++ (uX9 cs (qt 0) qtp Ftp Atp Btp Dtp)) sz)) 0 0 (va_A ((uX6 cs adt qt Ft At Bt Dt) ++ (uX9 cs (qt 0) qtp Ftp Atp Btp Dtp)) sz) := by
  refine mkD (Qc := (QDi G (fun (r : Int32) (u : Int32 × Int32 × Int32 × Int32 × Int32 × Int32) => ((0 : Int) ≤ u.1.toInt ∧ u.1.toInt ≤ 900) ∧ ((0 : Int) ≤ u.2.1.toInt ∧ u.2.1.toInt ≤ 4) ∧ ((0 : Int) ≤ u.2.2.1.toInt ∧ u.2.2.1.toInt ≤ 900) ∧ ((0 : Int) ≤ r.toInt ∧ r.toInt ≤ 63)) (fun u : Int32 × Int32 × Int32 × Int32 × Int32 × Int32 => ((wX6 cs adt qt (upd (upd (upd (upd (upd (upd Ft 1 u.1) 2 u.2.1) 3 u.2.2.1) 4 u.2.2.2.1) 5 u.2.2.2.2.1) 6 u.2.2.2.2.2) At Bt Dt) ++ (uX9 cs (qt 0) qtp Ftp Atp Btp Dtp))))) (by decide) (by simp [lg_sl, Value.category]) ?_
  intro p e s m args below meth c ls A0 hx hb hml hr hlk hown hmn ht hK hP hD hS hA hl
  have hl : lv_has ls 4 [(0, .ref adt)] := hl
  refine lv_iconst (v := 0) hx hb dX6_takeQuestions_0 (by decide) ?_
  refine lv_istore_n (lv' := [(1, .int 0), (0, .ref adt)]) hx hb dX6_takeQuestions_1 rfl hl (by decide) rfl (fun ls hl => ?_)
  refine lv_iconst (v := 0) hx hb dX6_takeQuestions_2 (by decide) ?_
  refine lv_istore_n (lv' := [(2, .int 0), (1, .int 0), (0, .ref adt)]) hx hb dX6_takeQuestions_3 rfl hl (by decide) rfl (fun ls hl => ?_)
  have B4 : ∀ (n : Nat) (x4_1 : Int32) (x4_2 : Int32) (ft1_4 : Int32) (ft2_4 : Int32) (ft3_4 : Int32) (ft4_4 : Int32) (ft5_4 : Int32) (ft6_4 : Int32) (H : Heap) (locs : List Loc) (ls : Array Slot), (901 - x4_2.toInt).toNat < n → (0 : Int) ≤ x4_1.toInt ∧ x4_1.toInt ≤ 63 → (0 : Int) ≤ x4_2.toInt ∧ x4_2.toInt ≤ 901 → (0 : Int) ≤ ft1_4.toInt ∧ ft1_4.toInt ≤ 900 → (0 : Int) ≤ ft2_4.toInt ∧ ft2_4.toInt ≤ 4 → (0 : Int) ≤ ft3_4.toInt ∧ ft3_4.toInt ≤ 900 → va_P G vwCl ((uX6 cs adt qt (upv 6 ft6_4 (upv 5 ft5_4 (upv 4 ft4_4 (upv 3 ft3_4 (upv 2 ft2_4 (upv 1 ft1_4 Ft)))))) At Bt Dt) ++ (uX9 cs (qt 0) qtp Ftp Atp Btp Dtp)) H → va_D A0 ((uX6 cs adt qt (upv 6 ft6_4 (upv 5 ft5_4 (upv 4 ft4_4 (upv 3 ft3_4 (upv 2 ft2_4 (upv 1 ft1_4 Ft)))))) At Bt Dt) ++ (uX9 cs (qt 0) qtp Ftp Atp Btp Dtp)) → va_S A0 s.heap H locs → lv_has ls 4 [(0, .ref adt), (1, .int x4_1), (2, .int x4_2)] → W p l e (rmk 3 0 0) s m args below meth c H locs 0 0 (MQ below ((QDi G (fun (r : Int32) (u : Int32 × Int32 × Int32 × Int32 × Int32 × Int32) => ((0 : Int) ≤ u.1.toInt ∧ u.1.toInt ≤ 900) ∧ ((0 : Int) ≤ u.2.1.toInt ∧ u.2.1.toInt ≤ 4) ∧ ((0 : Int) ≤ u.2.2.1.toInt ∧ u.2.2.1.toInt ≤ 900) ∧ ((0 : Int) ≤ r.toInt ∧ r.toInt ≤ 63)) (fun u : Int32 × Int32 × Int32 × Int32 × Int32 × Int32 => ((wX6 cs adt qt (upd (upd (upd (upd (upd (upd Ft 1 u.1) 2 u.2.1) 3 u.2.2.1) 4 u.2.2.2.1) 5 u.2.2.2.2.1) 6 u.2.2.2.2.2) At Bt Dt) ++ (uX9 cs (qt 0) qtp Ftp Atp Btp Dtp)))) A0) args s 0 0 A0) (F0 m 4 ls []) := by
    intro n
    induction n with
    | zero => intro x4_1 x4_2 ft1_4 ft2_4 ft3_4 ft4_4 ft5_4 ft6_4 H locs ls hmeas hx4_1 hx4_2 hft1_4 hft2_4 hft3_4 hP hD hS hl; exact absurd hmeas (Nat.not_lt_zero _)
    | succ n ih4 =>
      intro x4_1 x4_2 ft1_4 ft2_4 ft3_4 ft4_4 ft5_4 ft6_4 H locs ls hmeas hx4_1 hx4_2 hft1_4 hft2_4 hft3_4 hP hD hS hl
      refine lv_iload_n hx hb dX6_takeQuestions_4 rfl (lv_at hl 2 rfl) ?_
      refine lv_sipush (v := 900) hx hb dX6_takeQuestions_5 (by decide) ?_
      refine lv_icmp_gt (tgt := 50) hx hb dX6_takeQuestions_8 (by decide) (fun c5001 => ?_) (fun c5001 => ?_)
      · have zc5001 := ltK (show (900 : Int32).toInt = 900 by decide) rfl c5001
        refine lv_iload_n hx hb dX6_takeQuestions_50 rfl (lv_at hl 1 rfl) ?_
        exact retDi (ft1_4, ft2_4, ft3_4, ft4_4, ft5_4, ft6_4) hx hb hr hlk hP hD hS dX6_takeQuestions_51 (⟨show (0 : Int) ≤ ft1_4.toInt ∧ ft1_4.toInt ≤ 900 by omega, show (0 : Int) ≤ ft2_4.toInt ∧ ft2_4.toInt ≤ 4 by omega, show (0 : Int) ≤ ft3_4.toInt ∧ ft3_4.toInt ≤ 900 by omega, show (0 : Int) ≤ x4_1.toInt ∧ x4_1.toInt ≤ 63 by omega⟩) (Nat.le_of_ble_eq_true rfl) (Nat.le_of_ble_eq_true rfl)
      · have zc5001 := nltK (show (900 : Int32).toInt = 900 by decide) rfl c5001
        refine lv_iload_n hx hb dX6_takeQuestions_11 rfl (lv_at hl 2 rfl) ?_
        have B23 : ∀ (H : Heap) (locs : List Loc) (ls : Array Slot), va_P G vwCl ((uX6 cs adt qt (upv 6 ft6_4 (upv 5 ft5_4 (upv 4 ft4_4 (upv 3 ft3_4 (upv 2 ft2_4 (upv 1 ft1_4 Ft)))))) At Bt Dt) ++ (uX9 cs (qt 0) qtp Ftp Atp Btp Dtp)) H → va_D A0 ((uX6 cs adt qt (upv 6 ft6_4 (upv 5 ft5_4 (upv 4 ft4_4 (upv 3 ft3_4 (upv 2 ft2_4 (upv 1 ft1_4 Ft)))))) At Bt Dt) ++ (uX9 cs (qt 0) qtp Ftp Atp Btp Dtp)) → va_S A0 s.heap H locs → lv_has ls 4 [(0, .ref adt), (1, .int x4_1), (2, .int x4_2)] → W p l e (rmk 3 0 0) s m args below meth c H locs 0 0 (MQ below ((QDi G (fun (r : Int32) (u : Int32 × Int32 × Int32 × Int32 × Int32 × Int32) => ((0 : Int) ≤ u.1.toInt ∧ u.1.toInt ≤ 900) ∧ ((0 : Int) ≤ u.2.1.toInt ∧ u.2.1.toInt ≤ 4) ∧ ((0 : Int) ≤ u.2.2.1.toInt ∧ u.2.2.1.toInt ≤ 900) ∧ ((0 : Int) ≤ r.toInt ∧ r.toInt ≤ 63)) (fun u : Int32 × Int32 × Int32 × Int32 × Int32 × Int32 => ((wX6 cs adt qt (upd (upd (upd (upd (upd (upd Ft 1 u.1) 2 u.2.1) 3 u.2.2.1) 4 u.2.2.2.1) 5 u.2.2.2.2.1) 6 u.2.2.2.2.2) At Bt Dt) ++ (uX9 cs (qt 0) qtp Ftp Atp Btp Dtp)))) A0) args s 0 0 A0) (F0 m 23 ls []) := by
          intro H locs ls hP hD hS hl
          refine lv_aload_n hx hb dX6_takeQuestions_23 rfl (lv_at hl 0 rfl) ?_
          refine lv_iconst (v := 0) hx hb dX6_takeQuestions_24 (by decide) ?_
          refine lv_iconst (v := 5) hx hb dX6_takeQuestions_25 (by decide) ?_
          refine lv_iconst (v := (-1)) hx hb dX6_takeQuestions_26 (by decide) ?_
          refine behDi (wr := ([] : va_W)) (runVD (As := [.int 0, .int 5, .int (-1)]) (rest := []) ⟨hx, hb, hml, hown, ht⟩ (sX6_takeNumber l G cs adt qt (upv 6 ft6_4 (upv 5 ft5_4 (upv 4 ft4_4 (upv 3 ft3_4 (upv 2 ft2_4 (upv 1 ft1_4 Ft)))))) At Bt Dt (IB_pv (k := 6) (IB_pv (k := 5) (IB_pv (k := 4) (IB_pv (k := 3) (IB_pv (k := 2) (IB_pv (k := 1) hIt (show (0 : Int) ≤ ft1_4.toInt ∧ ft1_4.toInt ≤ 900 by omega)) (show (0 : Int) ≤ ft2_4.toInt ∧ ft2_4.toInt ≤ 4 by omega)) (show (0 : Int) ≤ ft3_4.toInt ∧ ft3_4.toInt ≤ 900 by omega)) (i32b _)) (i32b _)) (i32b _)) qtp Ftp Atp Btp Dtp hItp 0 5 (-1) ) okV_RX6_120 ⟨by decide, by decide⟩ hK hP hD [0, 1, 2] rfl (by decide) rfl 0 rfl rfl hl.1 rfl (Nat.le_of_ble_eq_true rfl) dX6_takeQuestions_27 ⟨(Nat.le_of_ble_eq_true rfl), (Nat.le_of_ble_eq_true rfl)⟩) hP hD hS hA [0, 1, 2] [] rfl rfl (by decide) (by decide) (fun r9 u H locs hu hP hD hS => ?_)
          obtain ⟨x14001, x14002, x14003, x14004, x14005, x14006⟩ := u
          have kk14008 : (0 : Int32).toInt = 0 := by decide
          have kk14009 : (5 : Int32).toInt = 5 := by decide
          have kk14010 : (-1 : Int32).toInt = (-1) := by decide
          obtain ⟨r14007, rfl⟩ : ∃ z, z = r9 := ⟨_, rfl⟩
          obtain ⟨hbx14001, hbx14002, hbx14003, hr14007⟩ := hu
          have hbx14001 : (0 : Int) ≤ x14001.toInt ∧ x14001.toInt ≤ 900 := hbx14001
          have hbx14002 : (0 : Int) ≤ x14002.toInt ∧ x14002.toInt ≤ 4 := hbx14002
          have hbx14003 : (0 : Int) ≤ x14003.toInt ∧ x14003.toInt ≤ 900 := hbx14003
          have hr14007 : TNk r14007 ((0 : Int32).toInt) ((5 : Int32).toInt) := hr14007
          have hP : va_P G vwCl ((uX6 cs adt qt (upv 6 x14006 (upv 5 x14005 (upv 4 x14004 (upv 3 x14003 (upv 2 x14002 (upv 1 x14001 Ft)))))) At Bt Dt) ++ (uX9 cs (qt 0) qtp Ftp Atp Btp Dtp)) H := hP.sub [0, 1, 2] rfl
          have hD : va_D A0 ((uX6 cs adt qt (upv 6 x14006 (upv 5 x14005 (upv 4 x14004 (upv 3 x14003 (upv 2 x14002 (upv 1 x14001 Ft)))))) At Bt Dt) ++ (uX9 cs (qt 0) qtp Ftp Atp Btp Dtp)) := hD.sub [0, 1, 2] (by decide) rfl
          have znr14007 := TNe hr14007
          refine lv_istore_n (lv' := [(3, .int r14007), (0, .ref adt), (1, .int x4_1), (2, .int x4_2)]) hx hb dX6_takeQuestions_30 rfl hl (by decide) rfl (fun ls hl => ?_)
          refine lv_iload_n hx hb dX6_takeQuestions_31 rfl (lv_at hl 0 rfl) ?_
          refine lv_iconst (v := (-1)) hx hb dX6_takeQuestions_32 (by decide) ?_
          refine lv_icmp_ne (tgt := 38) hx hb dX6_takeQuestions_33 (by decide) (fun c14011 => ?_) (fun c14011 => ?_)
          · have zc14011 := neK rfl (show (-1 : Int32).toInt = (-1) by decide) c14011
            refine lv_iload_n hx hb dX6_takeQuestions_38 rfl (lv_at hl 2 rfl) ?_
            refine lv_iconst (v := 1) hx hb dX6_takeQuestions_39 (by decide) ?_
            refine lv_iload_n hx hb dX6_takeQuestions_40 rfl (lv_at hl 0 rfl) ?_
            refine lv_ishl hx hb dX6_takeQuestions_41 ?_
            refine lv_topi (fun v14012 ev14012 => ?_)
            have tv14012 : (1 : Int) ≤ v14012.toInt ∧ v14012.toInt ≤ 32 := by rw [ev14012]; exact shlT 5 (by decide) rfl (by omega) (by decide)
            have pv14012 : v14012.toInt = P2 r14007.toInt := by rw [ev14012]; exact shlP rfl (by omega)
            refine lv_ior hx hb dX6_takeQuestions_42 ?_
            refine lv_topi (fun v14013 ev14013 => ?_)
            have tv14013 : 0 ≤ v14013.toInt ∧ v14013.toInt ≤ 63 := by rw [ev14013]; exact orA 6 rfl rfl (by omega) (by omega) (by decide)
            have uv14013 : x4_1.toInt ≤ v14013.toInt := by rw [ev14013]; exact orGe rfl rfl (by omega) (by rw [← ev14013]; omega)
            refine lv_istore_n (lv' := [(1, .int v14013), (3, .int r14007), (0, .ref adt), (2, .int x4_2)]) hx hb dX6_takeQuestions_43 rfl hl (by decide) rfl (fun ls hl => ?_)
            obtain ⟨v14014, ev14014⟩ : ∃ z : Int32, z = x4_2 + 1 := ⟨_, rfl⟩
            have tv14014 : v14014.toInt = x4_2.toInt + 1 := by rw [ev14014]; exact addT rfl (by decide) (by omega)
            refine lv_iinc (v := v14014) (lv' := [(2, .int v14014), (1, .int v14013), (3, .int r14007), (0, .ref adt)]) hx hb dX6_takeQuestions_44 hl (k := 3) rfl (by rw [ev14014]; rfl) (by decide) rfl (fun ls hl => ?_)
            refine lv_goto (tgt := 4) hx hb dX6_takeQuestions_47 (by decide) ?_
            exact ih4 v14013 v14014 x14001 x14002 x14003 x14004 x14005 x14006 H locs ls (by omega) (by omega) (by omega) (by omega) (by omega) (by omega) hP hD hS (lv_sub hl [3, 1, 0] rfl)
          · have zc14011 := eqK rfl (show (-1 : Int32).toInt = (-1) by decide) c14011
            refine lv_iconst (v := 0) hx hb dX6_takeQuestions_36 (by decide) ?_
            exact retDi (x14001, x14002, x14003, x14004, x14005, x14006) hx hb hr hlk hP hD hS dX6_takeQuestions_37 (⟨show (0 : Int) ≤ x14001.toInt ∧ x14001.toInt ≤ 900 by omega, show (0 : Int) ≤ x14002.toInt ∧ x14002.toInt ≤ 4 by omega, show (0 : Int) ≤ x14003.toInt ∧ x14003.toInt ≤ 900 by omega, show (0 : Int) ≤ (0 : Int32).toInt ∧ (0 : Int32).toInt ≤ 63 by have kk : (0 : Int32).toInt = 0 := (by decide); omega⟩) (Nat.le_of_ble_eq_true rfl) (Nat.le_of_ble_eq_true rfl)
        refine lv_if_eq (tgt := 23) hx hb dX6_takeQuestions_12 (by decide) (fun c5002 => ?_) (fun c5002 => ?_)
        · have zc5002 := eqK rfl (show (0 : Int32).toInt = 0 by decide) c5002
          exact B23 H locs ls hP hD hS (lv_sub hl [0, 1, 2] rfl)
        · have zc5002 := neK rfl (show (0 : Int32).toInt = 0 by decide) c5002
          refine lv_aload_n hx hb dX6_takeQuestions_15 rfl (lv_at hl 0 rfl) ?_
          refine getF (v := .int ft2_4) hx hb ht hown hK hP iTX6 0 2 rfl rfl (by decide) fl_RX6_36 rfl dX6_takeQuestions_16 ?_
          refine lv_iconst (v := 2) hx hb dX6_takeQuestions_19 (by decide) ?_
          refine lv_icmp_ne (tgt := 50) hx hb dX6_takeQuestions_20 (by decide) (fun c5003 => ?_) (fun c5003 => ?_)
          · have zc5003 := neK rfl (show (2 : Int32).toInt = 2 by decide) c5003
            refine lv_iload_n hx hb dX6_takeQuestions_50 rfl (lv_at hl 1 rfl) ?_
            exact retDi (ft1_4, ft2_4, ft3_4, ft4_4, ft5_4, ft6_4) hx hb hr hlk hP hD hS dX6_takeQuestions_51 (⟨show (0 : Int) ≤ ft1_4.toInt ∧ ft1_4.toInt ≤ 900 by omega, show (0 : Int) ≤ ft2_4.toInt ∧ ft2_4.toInt ≤ 4 by omega, show (0 : Int) ≤ ft3_4.toInt ∧ ft3_4.toInt ≤ 900 by omega, show (0 : Int) ≤ x4_1.toInt ∧ x4_1.toInt ≤ 63 by omega⟩) (Nat.le_of_ble_eq_true rfl) (Nat.le_of_ble_eq_true rfl)
          · have zc5003 := eqK rfl (show (2 : Int32).toInt = 2 by decide) c5003
            exact B23 H locs ls hP hD hS (lv_sub hl [0, 1, 2] rfl)
  exact B4 _ 0 0 (Ft 1) (Ft 2) (Ft 3) (Ft 4) (Ft 5) (Ft 6) s.heap [] ls (Nat.lt_succ_self _) (by decide) (by decide) (hIt.1 1) (hIt.1 2) (hIt.1 3) hP hD hS (lv_sub hl [2, 1, 0] rfl)

