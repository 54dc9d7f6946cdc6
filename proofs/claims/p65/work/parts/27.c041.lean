set_option maxRecDepth 100000 in
set_option maxHeartbeats 16000000 in
theorem sX10_habit_hi (l : Launch) (G : va_G) (cs : Nat → ClassId) (adm : Nat) (qm : Nat → Nat) (Fm : Nat → Int32) (Am : Nat → Nat → Int32) (Bm : Nat → Nat → Int64) (Dm : Int64) (hIm : IX10 Fm Am) (qms : Nat → Nat) (Fms : Nat → Int32) (Ams : Nat → Nat → Int32) (Bms : Nat → Nat → Int64) (Dms : Int64) (hIms : IX8 Fms Ams) (qmh : Nat → Nat) (Fmh : Nat → Int32) (Amh : Nat → Nat → Int32) (Bmh : Nat → Nat → Int64) (Dmh : Int64) (hImh : IX3 Fmh Amh) (a1 : Int32) (ha1 : (4 : Int) ≤ a1.toInt ∧ a1.toInt ≤ 2147483647) : ∀ sz : Nat, Met l yX10_habit (wk yX10_habit cX10_habit 3 (some .int)) (rmk 3 0 0) (PreP G (TY cs) [.ref adm, .int a1] ((uX10 cs adm qm Fm Am Bm Dm) ++ ((uX8 cs (qm 3) qms Fms Ams Bms Dms) ++ (uX3 cs (qms 0) qmh Fmh Amh Bmh Dmh))) sz) (QRi (fun r : Int32 => True) sz) 0 0 (fun q => sz ≤ q) := by
  refine mkP (Qc := QRi (fun r : Int32 => True)) (by decide) (by simp [lg_sl, Value.category]) ?_
  intro p e s m args below meth c ls hx hb hml hr hlk hown ht hK hP hS hl
  have hl : lv_has ls 3 [(0, .ref adm), (1, .int a1)] := hl
  refine lv_aload_n hx hb dX10_habit_0 rfl (lv_at hl 0 rfl) ?_
  refine lv_iload_n hx hb dX10_habit_1 rfl (lv_at hl 1 rfl) ?_
  refine lv_iconst (v := 1) hx hb dX10_habit_2 (by decide) ?_
  have bb1 := i32b a1
  refine behR (runVP (As := [.int a1, .int 1]) (rest := []) ⟨hx, hb, hml, hown, ht⟩ (sX10_askHabits_hi l G cs adm qm Fm Am Bm Dm hIm qms Fms Ams Bms Dms hIms qmh Fmh Amh Bmh Dmh hImh a1 1 (by omega) (by decide)) okV_RX10_299 ⟨by decide, by decide⟩ hK hP [0, 1, 2, 3, 4, 5, 6, 7, 8, 9, 10, 11, 12] rfl 0 rfl rfl hl.1 rfl (Nat.le_of_ble_eq_true rfl) dX10_habit_3 ⟨by decide, by decide⟩) hP hS (fun _ h => h) (fun r2 H locs hr2 hP hS => ?_)
  have kk3 : (1 : Int32).toInt = 1 := by decide
  have hr2 : r2.toInt = -2 := hr2
  refine lv_istore_n (lv' := [(2, .int r2), (0, .ref adm), (1, .int a1)]) hx hb dX10_habit_6 rfl hl (by decide) rfl (fun ls hl => ?_)
  refine lv_iload_n hx hb dX10_habit_7 rfl (lv_at hl 0 rfl) ?_
  refine lv_if_eq (tgt := 13) hx hb dX10_habit_8 (by decide) (fun c4 => False.elim (by have zz := eqK rfl (show (0 : Int32).toInt = 0 by decide) c4; omega)) (fun c4 => ?_)
  refine lv_iload_n hx hb dX10_habit_11 rfl (lv_at hl 0 rfl) ?_
  exact retRi hx hb hr hlk hS dX10_habit_12 (trivial)

set_option maxRecDepth 100000 in
set_option maxHeartbeats 16000000 in
theorem sX10_period_0 (l : Launch) (G : va_G) (cs : Nat → ClassId) (adm : Nat) (qm : Nat → Nat) (Fm : Nat → Int32) (Am : Nat → Nat → Int32) (Bm : Nat → Nat → Int64) (Dm : Int64) (hIm : IX10 Fm Am) (qms : Nat → Nat) (Fms : Nat → Int32) (Ams : Nat → Nat → Int32) (Bms : Nat → Nat → Int64) (Dms : Int64) (hIms : IX8 Fms Ams) (qmh : Nat → Nat) (Fmh : Nat → Int32) (Amh : Nat → Nat → Int32) (Bmh : Nat → Nat → Int64) (Dmh : Int64) (hImh : IX3 Fmh Amh) (qr0 : Nat → Nat) (Fr0 : Nat → Int32) (Ar0 : Nat → Nat → Int32) (Br0 : Nat → Nat → Int64) (Dr0 : Int64) (hIr0 : IX7 Fr0 Ar0) : ∀ sz : Nat, Met l yX10_period (wk yX10_period cX10_period 5 (some .int)) (rmk 3 0 0) (PreP G (TY cs) [.ref adm, .int 0] ((uX10 cs adm qm Fm Am Bm Dm) ++ ((uX8 cs (qm 3) qms Fms Ams Bms Dms) ++ ((uX3 cs (qms 0) qmh Fmh Amh Bmh Dmh) ++ (uX7 cs (qm 20) qr0 Fr0 Ar0 Br0 Dr0)))) sz) (QRi (fun r : Int32 => True) sz) 0 0 (fun q => sz ≤ q) := by
  refine mkP (Qc := QRi (fun r : Int32 => True)) (by decide) (by simp [lg_sl, Value.category]) ?_
  intro p e s m args below meth c ls hx hb hml hr hlk hown ht hK hP hS hl
  have hl : lv_has ls 5 [(0, .ref adm), (1, .int 0)] := hl
  refine lv_aload_n hx hb dX10_period_0 rfl (lv_at hl 0 rfl) ?_
  refine lv_iload_n hx hb dX10_period_1 rfl (lv_at hl 1 rfl) ?_
  refine lv_iconst (v := 1) hx hb dX10_period_2 (by decide) ?_
  refine behR (runVP (As := [.int 0, .int 1]) (rest := []) ⟨hx, hb, hml, hown, ht⟩ (sX10_askHabits_0 l G cs adm qm Fm Am Bm Dm hIm qms Fms Ams Bms Dms hIms qmh Fmh Amh Bmh Dmh hImh qr0 Fr0 Ar0 Br0 Dr0 hIr0 1 (by decide)) okV_RX10_299 ⟨by decide, by decide⟩ hK hP [0, 1, 2, 3, 4, 5, 6, 7, 8, 9, 10, 11, 12, 13, 14] rfl 0 rfl rfl hl.1 rfl (Nat.le_of_ble_eq_true rfl) dX10_period_3 ⟨by decide, by decide⟩) hP hS (fun _ h => h) (fun r1 H locs hr1 hP hS => ?_)
  have kk2 : (0 : Int32).toInt = 0 := by decide
  have kk3 : (1 : Int32).toInt = 1 := by decide
  have hr1 : ((r1.toInt = 0 ∧ (1 : Int32).toInt = 1) ∨ r1.toInt = -2 ∨ r1.toInt = -6) ∧ RWk r1 0 (Br0 0) 0 ((Fmh 5).toInt - 1) (Fr0 3).toInt := hr1
  refine lv_istore_n (lv' := [(2, .int r1), (0, .ref adm), (1, .int 0)]) hx hb dX10_period_6 rfl hl (by decide) rfl (fun ls hl => ?_)
  refine lv_iload_n hx hb dX10_period_7 rfl (lv_at hl 0 rfl) ?_
  refine lv_if_eq (tgt := 13) hx hb dX10_period_8 (by decide) (fun c4 => ?_) (fun c4 => ?_)
  · have zc4 := eqK rfl (show (0 : Int32).toInt = 0 by decide) c4
    refine lv_aload_n hx hb dX10_period_13 rfl (lv_at hl 1 rfl) ?_
    refine getF (v := .ref (qm 5)) hx hb ht hown hK hP iTX10 0 5 rfl rfl (by decide) fl_RX10_41 rfl dX10_period_14 ?_
    refine lv_iload_n hx hb dX10_period_17 rfl (lv_at hl 2 rfl) ?_
    refine va_aldq hx hb hK.1 hP 2 5 rfl rfl (show ¬ (_ ∨ _) by decide) dX10_period_18 ?_
    refine W.eq (g2 := F0 m 19 ls [.ref (qm 20)]) rfl ?_
    refine lv_astore_n (lv' := [(3, .ref (qm 20)), (2, .int r1), (0, .ref adm), (1, .int 0)]) hx hb dX10_period_19 rfl hl (by decide) rfl (fun ls hl => ?_)
    refine lv_iconst (v := 1) hx hb dX10_period_20 (by decide) ?_
    refine lv_istore (lv' := [(4, .int 1), (3, .ref (qm 20)), (2, .int r1), (0, .ref adm), (1, .int 0)]) hx hb dX10_period_21 hl (by decide) rfl (fun ls hl => ?_)
    have B23 : ∀ (n : Nat) (x23_4 : Int32) (H : Heap) (locs : List Loc) (ls : Array Slot), (61 - x23_4.toInt).toNat < n → (1 : Int) ≤ x23_4.toInt ∧ x23_4.toInt ≤ 61 → va_P G vwCl ((uX10 cs adm qm Fm Am Bm Dm) ++ ((uX8 cs (qm 3) qms Fms Ams Bms Dms) ++ ((uX3 cs (qms 0) qmh Fmh Amh Bmh Dmh) ++ (uX7 cs (qm 20) qr0 Fr0 Ar0 Br0 Dr0)))) H → va_S (fun q => s.heap.size ≤ q) s.heap H locs → lv_has ls 5 [(3, .ref (qm 20)), (4, .int x23_4)] → W p l e (rmk 3 0 0) s m args below meth c H locs 0 0 (MQ below (QRi (fun r : Int32 => True) s.heap.size) args s 0 0 (fun q => s.heap.size ≤ q)) (F0 m 23 ls []) := by
      intro n
      induction n with
      | zero => intro x23_4 H locs ls hmeas hx23_4 hP hS hl; exact absurd hmeas (Nat.not_lt_zero _)
      | succ n ih23 =>
        intro x23_4 H locs ls hmeas hx23_4 hP hS hl
        refine lv_iload hx hb dX10_period_23 (lv_at hl 1 rfl) ?_
        refine lv_aload_n hx hb dX10_period_25 rfl (lv_at hl 0 rfl) ?_
        refine getF (v := .int (Fr0 3)) hx hb ht hown hK hP iTX7 13 3 rfl rfl (by decide) fl_RX10_194 rfl dX10_period_26 ?_
        have zf17001 : (0 : Int) ≤ (Fr0 3).toInt ∧ (Fr0 3).toInt ≤ 60 := hIr0.1 3
        refine lv_icmp_gt (tgt := 50) hx hb dX10_period_29 (by decide) (fun c17002 => ?_) (fun c17002 => ?_)
        · have zc17002 := ltK rfl rfl c17002
          refine lv_iconst (v := (-1)) hx hb dX10_period_50 (by decide) ?_
          exact retRi hx hb hr hlk hS dX10_period_51 (trivial)
        · have zc17002 := nltK rfl rfl c17002
          refine lv_aload_n hx hb dX10_period_32 rfl (lv_at hl 0 rfl) ?_
          refine lv_iload hx hb dX10_period_33 (lv_at hl 1 rfl) ?_
          refine behR (runVP (As := [.int x23_4]) (rest := []) ⟨hx, hb, hml, hown, ht⟩ (sX7_comesAgain l G cs (qm 20) qr0 Fr0 Ar0 Br0 Dr0 hIr0 x23_4 (by omega)) okV_RX10_305 ⟨by decide, by decide⟩ hK hP [13, 14] rfl 13 rfl rfl hl.1 rfl (Nat.le_of_ble_eq_true rfl) dX10_period_35 ⟨by decide, by decide⟩) hP hS (fun _ h => h) (fun r17003 H locs hr17003 hP hS => ?_)
          have hr17003 : (0 : Int) ≤ r17003.toInt ∧ r17003.toInt ≤ 1 := hr17003
          refine lv_if_eq (tgt := 44) hx hb dX10_period_38 (by decide) (fun c17004 => ?_) (fun c17004 => ?_)
          · have zc17004 := eqK rfl (show (0 : Int32).toInt = 0 by decide) c17004
            obtain ⟨v17005, ev17005⟩ : ∃ z : Int32, z = x23_4 + 1 := ⟨_, rfl⟩
            have tv17005 : v17005.toInt = x23_4.toInt + 1 := by rw [ev17005]; exact addT rfl (by decide) (by omega)
            refine lv_iinc (v := v17005) (lv' := [(4, .int v17005), (3, .ref (qm 20))]) hx hb dX10_period_44 hl (k := 1) rfl (by rw [ev17005]; rfl) (by decide) rfl (fun ls hl => ?_)
            refine lv_goto (tgt := 23) hx hb dX10_period_47 (by decide) ?_
            exact ih23 v17005 H locs ls (by omega) (by omega) hP hS (lv_sub hl [1, 0] rfl)
          · have zc17004 := neK rfl (show (0 : Int32).toInt = 0 by decide) c17004
            refine lv_iload hx hb dX10_period_41 (lv_at hl 1 rfl) ?_
            exact retRi hx hb hr hlk hS dX10_period_43 (trivial)
    exact B23 _ 1 H locs ls (Nat.lt_succ_self _) (by decide) hP hS (lv_sub hl [1, 0] rfl)
  · have zc4 := neK rfl (show (0 : Int32).toInt = 0 by decide) c4
    refine lv_iload_n hx hb dX10_period_11 rfl (lv_at hl 0 rfl) ?_
    exact retRi hx hb hr hlk hS dX10_period_12 (trivial)

set_option maxRecDepth 100000 in
set_option maxHeartbeats 16000000 in
theorem sX10_period_1 (l : Launch) (G : va_G) (cs : Nat → ClassId) (adm : Nat) (qm : Nat → Nat) (Fm : Nat → Int32) (Am : Nat → Nat → Int32) (Bm : Nat → Nat → Int64) (Dm : Int64) (hIm : IX10 Fm Am) (qms : Nat → Nat) (Fms : Nat → Int32) (Ams : Nat → Nat → Int32) (Bms : Nat → Nat → Int64) (Dms : Int64) (hIms : IX8 Fms Ams) (qmh : Nat → Nat) (Fmh : Nat → Int32) (Amh : Nat → Nat → Int32) (Bmh : Nat → Nat → Int64) (Dmh : Int64) (hImh : IX3 Fmh Amh) (qr1 : Nat → Nat) (Fr1 : Nat → Int32) (Ar1 : Nat → Nat → Int32) (Br1 : Nat → Nat → Int64) (Dr1 : Int64) (hIr1 : IX7 Fr1 Ar1) : ∀ sz : Nat, Met l yX10_period (wk yX10_period cX10_period 5 (some .int)) (rmk 3 0 0) (PreP G (TY cs) [.ref adm, .int 1] ((uX10 cs adm qm Fm Am Bm Dm) ++ ((uX8 cs (qm 3) qms Fms Ams Bms Dms) ++ ((uX3 cs (qms 0) qmh Fmh Amh Bmh Dmh) ++ (uX7 cs (qm 21) qr1 Fr1 Ar1 Br1 Dr1)))) sz) (QRi (fun r : Int32 => True) sz) 0 0 (fun q => sz ≤ q) := by
  refine mkP (Qc := QRi (fun r : Int32 => True)) (by decide) (by simp [lg_sl, Value.category]) ?_
  intro p e s m args below meth c ls hx hb hml hr hlk hown ht hK hP hS hl
  have hl : lv_has ls 5 [(0, .ref adm), (1, .int 1)] := hl
  refine lv_aload_n hx hb dX10_period_0 rfl (lv_at hl 0 rfl) ?_
  refine lv_iload_n hx hb dX10_period_1 rfl (lv_at hl 1 rfl) ?_
  refine lv_iconst (v := 1) hx hb dX10_period_2 (by decide) ?_
  refine behR (runVP (As := [.int 1, .int 1]) (rest := []) ⟨hx, hb, hml, hown, ht⟩ (sX10_askHabits_1 l G cs adm qm Fm Am Bm Dm hIm qms Fms Ams Bms Dms hIms qmh Fmh Amh Bmh Dmh hImh qr1 Fr1 Ar1 Br1 Dr1 hIr1 1 (by decide)) okV_RX10_299 ⟨by decide, by decide⟩ hK hP [0, 1, 2, 3, 4, 5, 6, 7, 8, 9, 10, 11, 12, 13, 14] rfl 0 rfl rfl hl.1 rfl (Nat.le_of_ble_eq_true rfl) dX10_period_3 ⟨by decide, by decide⟩) hP hS (fun _ h => h) (fun r1 H locs hr1 hP hS => ?_)
  have kk2 : (1 : Int32).toInt = 1 := by decide
  have kk3 : (1 : Int32).toInt = 1 := by decide
  have hr1 : ((r1.toInt = 0 ∧ (1 : Int32).toInt = 1) ∨ r1.toInt = -2 ∨ r1.toInt = -6) ∧ RWk r1 0 (Br1 0) 0 ((Fmh 5).toInt - 1) (Fr1 3).toInt := hr1
  refine lv_istore_n (lv' := [(2, .int r1), (0, .ref adm), (1, .int 1)]) hx hb dX10_period_6 rfl hl (by decide) rfl (fun ls hl => ?_)
  refine lv_iload_n hx hb dX10_period_7 rfl (lv_at hl 0 rfl) ?_
  refine lv_if_eq (tgt := 13) hx hb dX10_period_8 (by decide) (fun c4 => ?_) (fun c4 => ?_)
  · have zc4 := eqK rfl (show (0 : Int32).toInt = 0 by decide) c4
    refine lv_aload_n hx hb dX10_period_13 rfl (lv_at hl 1 rfl) ?_
    refine getF (v := .ref (qm 5)) hx hb ht hown hK hP iTX10 0 5 rfl rfl (by decide) fl_RX10_41 rfl dX10_period_14 ?_
    refine lv_iload_n hx hb dX10_period_17 rfl (lv_at hl 2 rfl) ?_
    refine va_aldq hx hb hK.1 hP 2 5 rfl rfl (show ¬ (_ ∨ _) by decide) dX10_period_18 ?_
    refine W.eq (g2 := F0 m 19 ls [.ref (qm 21)]) rfl ?_
    refine lv_astore_n (lv' := [(3, .ref (qm 21)), (2, .int r1), (0, .ref adm), (1, .int 1)]) hx hb dX10_period_19 rfl hl (by decide) rfl (fun ls hl => ?_)
    refine lv_iconst (v := 1) hx hb dX10_period_20 (by decide) ?_
    refine lv_istore (lv' := [(4, .int 1), (3, .ref (qm 21)), (2, .int r1), (0, .ref adm), (1, .int 1)]) hx hb dX10_period_21 hl (by decide) rfl (fun ls hl => ?_)
    have B23 : ∀ (n : Nat) (x23_4 : Int32) (H : Heap) (locs : List Loc) (ls : Array Slot), (61 - x23_4.toInt).toNat < n → (1 : Int) ≤ x23_4.toInt ∧ x23_4.toInt ≤ 61 → va_P G vwCl ((uX10 cs adm qm Fm Am Bm Dm) ++ ((uX8 cs (qm 3) qms Fms Ams Bms Dms) ++ ((uX3 cs (qms 0) qmh Fmh Amh Bmh Dmh) ++ (uX7 cs (qm 21) qr1 Fr1 Ar1 Br1 Dr1)))) H → va_S (fun q => s.heap.size ≤ q) s.heap H locs → lv_has ls 5 [(3, .ref (qm 21)), (4, .int x23_4)] → W p l e (rmk 3 0 0) s m args below meth c H locs 0 0 (MQ below (QRi (fun r : Int32 => True) s.heap.size) args s 0 0 (fun q => s.heap.size ≤ q)) (F0 m 23 ls []) := by
      intro n
      induction n with
      | zero => intro x23_4 H locs ls hmeas hx23_4 hP hS hl; exact absurd hmeas (Nat.not_lt_zero _)
      | succ n ih23 =>
        intro x23_4 H locs ls hmeas hx23_4 hP hS hl
        refine lv_iload hx hb dX10_period_23 (lv_at hl 1 rfl) ?_
        refine lv_aload_n hx hb dX10_period_25 rfl (lv_at hl 0 rfl) ?_
        refine getF (v := .int (Fr1 3)) hx hb ht hown hK hP iTX7 13 3 rfl rfl (by decide) fl_RX10_194 rfl dX10_period_26 ?_
        have zf17001 : (0 : Int) ≤ (Fr1 3).toInt ∧ (Fr1 3).toInt ≤ 60 := hIr1.1 3
        refine lv_icmp_gt (tgt := 50) hx hb dX10_period_29 (by decide) (fun c17002 => ?_) (fun c17002 => ?_)
        · have zc17002 := ltK rfl rfl c17002
          refine lv_iconst (v := (-1)) hx hb dX10_period_50 (by decide) ?_
          exact retRi hx hb hr hlk hS dX10_period_51 (trivial)
        · have zc17002 := nltK rfl rfl c17002
          refine lv_aload_n hx hb dX10_period_32 rfl (lv_at hl 0 rfl) ?_
          refine lv_iload hx hb dX10_period_33 (lv_at hl 1 rfl) ?_
          refine behR (runVP (As := [.int x23_4]) (rest := []) ⟨hx, hb, hml, hown, ht⟩ (sX7_comesAgain l G cs (qm 21) qr1 Fr1 Ar1 Br1 Dr1 hIr1 x23_4 (by omega)) okV_RX10_305 ⟨by decide, by decide⟩ hK hP [13, 14] rfl 13 rfl rfl hl.1 rfl (Nat.le_of_ble_eq_true rfl) dX10_period_35 ⟨by decide, by decide⟩) hP hS (fun _ h => h) (fun r17003 H locs hr17003 hP hS => ?_)
          have hr17003 : (0 : Int) ≤ r17003.toInt ∧ r17003.toInt ≤ 1 := hr17003
          refine lv_if_eq (tgt := 44) hx hb dX10_period_38 (by decide) (fun c17004 => ?_) (fun c17004 => ?_)
          · have zc17004 := eqK rfl (show (0 : Int32).toInt = 0 by decide) c17004
            obtain ⟨v17005, ev17005⟩ : ∃ z : Int32, z = x23_4 + 1 := ⟨_, rfl⟩
            have tv17005 : v17005.toInt = x23_4.toInt + 1 := by rw [ev17005]; exact addT rfl (by decide) (by omega)
            refine lv_iinc (v := v17005) (lv' := [(4, .int v17005), (3, .ref (qm 21))]) hx hb dX10_period_44 hl (k := 1) rfl (by rw [ev17005]; rfl) (by decide) rfl (fun ls hl => ?_)
            refine lv_goto (tgt := 23) hx hb dX10_period_47 (by decide) ?_
            exact ih23 v17005 H locs ls (by omega) (by omega) hP hS (lv_sub hl [1, 0] rfl)
          · have zc17004 := neK rfl (show (0 : Int32).toInt = 0 by decide) c17004
            refine lv_iload hx hb dX10_period_41 (lv_at hl 1 rfl) ?_
            exact retRi hx hb hr hlk hS dX10_period_43 (trivial)
    exact B23 _ 1 H locs ls (Nat.lt_succ_self _) (by decide) hP hS (lv_sub hl [1, 0] rfl)
  · have zc4 := neK rfl (show (0 : Int32).toInt = 0 by decide) c4
    refine lv_iload_n hx hb dX10_period_11 rfl (lv_at hl 0 rfl) ?_
    exact retRi hx hb hr hlk hS dX10_period_12 (trivial)

set_option maxRecDepth 100000 in
set_option maxHeartbeats 16000000 in
theorem sX10_period_2 (l : Launch) (G : va_G) (cs : Nat → ClassId) (adm : Nat) (qm : Nat → Nat) (Fm : Nat → Int32) (Am : Nat → Nat → Int32) (Bm : Nat → Nat → Int64) (Dm : Int64) (hIm : IX10 Fm Am) (qms : Nat → Nat) (Fms : Nat → Int32) (Ams : Nat → Nat → Int32) (Bms : Nat → Nat → Int64) (Dms : Int64) (hIms : IX8 Fms Ams) (qmh : Nat → Nat) (Fmh : Nat → Int32) (Amh : Nat → Nat → Int32) (Bmh : Nat → Nat → Int64) (Dmh : Int64) (hImh : IX3 Fmh Amh) (qr2 : Nat → Nat) (Fr2 : Nat → Int32) (Ar2 : Nat → Nat → Int32) (Br2 : Nat → Nat → Int64) (Dr2 : Int64) (hIr2 : IX7 Fr2 Ar2) : ∀ sz : Nat, Met l yX10_period (wk yX10_period cX10_period 5 (some .int)) (rmk 3 0 0) (PreP G (TY cs) [.ref adm, .int 2] ((uX10 cs adm qm Fm Am Bm Dm) ++ ((uX8 cs (qm 3) qms Fms Ams Bms Dms) ++ ((uX3 cs (qms 0) qmh Fmh Amh Bmh Dmh) ++ (uX7 cs (qm 22) qr2 Fr2 Ar2 Br2 Dr2)))) sz) (QRi (fun r : Int32 => True) sz) 0 0 (fun q => sz ≤ q) := by
  refine mkP (Qc := QRi (fun r : Int32 => True)) (by decide) (by simp [lg_sl, Value.category]) ?_
  intro p e s m args below meth c ls hx hb hml hr hlk hown ht hK hP hS hl
  have hl : lv_has ls 5 [(0, .ref adm), (1, .int 2)] := hl
  refine lv_aload_n hx hb dX10_period_0 rfl (lv_at hl 0 rfl) ?_
  refine lv_iload_n hx hb dX10_period_1 rfl (lv_at hl 1 rfl) ?_
  refine lv_iconst (v := 1) hx hb dX10_period_2 (by decide) ?_
  refine behR (runVP (As := [.int 2, .int 1]) (rest := []) ⟨hx, hb, hml, hown, ht⟩ (sX10_askHabits_2 l G cs adm qm Fm Am Bm Dm hIm qms Fms Ams Bms Dms hIms qmh Fmh Amh Bmh Dmh hImh qr2 Fr2 Ar2 Br2 Dr2 hIr2 1 (by decide)) okV_RX10_299 ⟨by decide, by decide⟩ hK hP [0, 1, 2, 3, 4, 5, 6, 7, 8, 9, 10, 11, 12, 13, 14] rfl 0 rfl rfl hl.1 rfl (Nat.le_of_ble_eq_true rfl) dX10_period_3 ⟨by decide, by decide⟩) hP hS (fun _ h => h) (fun r1 H locs hr1 hP hS => ?_)
  have kk2 : (2 : Int32).toInt = 2 := by decide
  have kk3 : (1 : Int32).toInt = 1 := by decide
  have hr1 : ((r1.toInt = 0 ∧ (1 : Int32).toInt = 1) ∨ r1.toInt = -2 ∨ r1.toInt = -6) ∧ RWk r1 0 (Br2 0) 0 ((Fmh 5).toInt - 1) (Fr2 3).toInt := hr1
  refine lv_istore_n (lv' := [(2, .int r1), (0, .ref adm), (1, .int 2)]) hx hb dX10_period_6 rfl hl (by decide) rfl (fun ls hl => ?_)
  refine lv_iload_n hx hb dX10_period_7 rfl (lv_at hl 0 rfl) ?_
  refine lv_if_eq (tgt := 13) hx hb dX10_period_8 (by decide) (fun c4 => ?_) (fun c4 => ?_)
  · have zc4 := eqK rfl (show (0 : Int32).toInt = 0 by decide) c4
    refine lv_aload_n hx hb dX10_period_13 rfl (lv_at hl 1 rfl) ?_
    refine getF (v := .ref (qm 5)) hx hb ht hown hK hP iTX10 0 5 rfl rfl (by decide) fl_RX10_41 rfl dX10_period_14 ?_
    refine lv_iload_n hx hb dX10_period_17 rfl (lv_at hl 2 rfl) ?_
    refine va_aldq hx hb hK.1 hP 2 5 rfl rfl (show ¬ (_ ∨ _) by decide) dX10_period_18 ?_
    refine W.eq (g2 := F0 m 19 ls [.ref (qm 22)]) rfl ?_
    refine lv_astore_n (lv' := [(3, .ref (qm 22)), (2, .int r1), (0, .ref adm), (1, .int 2)]) hx hb dX10_period_19 rfl hl (by decide) rfl (fun ls hl => ?_)
    refine lv_iconst (v := 1) hx hb dX10_period_20 (by decide) ?_
    refine lv_istore (lv' := [(4, .int 1), (3, .ref (qm 22)), (2, .int r1), (0, .ref adm), (1, .int 2)]) hx hb dX10_period_21 hl (by decide) rfl (fun ls hl => ?_)
    have B23 : ∀ (n : Nat) (x23_4 : Int32) (H : Heap) (locs : List Loc) (ls : Array Slot), (61 - x23_4.toInt).toNat < n → (1 : Int) ≤ x23_4.toInt ∧ x23_4.toInt ≤ 61 → va_P G vwCl ((uX10 cs adm qm Fm Am Bm Dm) ++ ((uX8 cs (qm 3) qms Fms Ams Bms Dms) ++ ((uX3 cs (qms 0) qmh Fmh Amh Bmh Dmh) ++ (uX7 cs (qm 22) qr2 Fr2 Ar2 Br2 Dr2)))) H → va_S (fun q => s.heap.size ≤ q) s.heap H locs → lv_has ls 5 [(3, .ref (qm 22)), (4, .int x23_4)] → W p l e (rmk 3 0 0) s m args below meth c H locs 0 0 (MQ below (QRi (fun r : Int32 => True) s.heap.size) args s 0 0 (fun q => s.heap.size ≤ q)) (F0 m 23 ls []) := by
      intro n
      induction n with
      | zero => intro x23_4 H locs ls hmeas hx23_4 hP hS hl; exact absurd hmeas (Nat.not_lt_zero _)
      | succ n ih23 =>
        intro x23_4 H locs ls hmeas hx23_4 hP hS hl
        refine lv_iload hx hb dX10_period_23 (lv_at hl 1 rfl) ?_
        refine lv_aload_n hx hb dX10_period_25 rfl (lv_at hl 0 rfl) ?_
        refine getF (v := .int (Fr2 3)) hx hb ht hown hK hP iTX7 13 3 rfl rfl (by decide) fl_RX10_194 rfl dX10_period_26 ?_
        have zf17001 : (0 : Int) ≤ (Fr2 3).toInt ∧ (Fr2 3).toInt ≤ 60 := hIr2.1 3
        refine lv_icmp_gt (tgt := 50) hx hb dX10_period_29 (by decide) (fun c17002 => ?_) (fun c17002 => ?_)
        · have zc17002 := ltK rfl rfl c17002
          refine lv_iconst (v := (-1)) hx hb dX10_period_50 (by decide) ?_
          exact retRi hx hb hr hlk hS dX10_period_51 (trivial)
        · have zc17002 := nltK rfl rfl c17002
          refine lv_aload_n hx hb dX10_period_32 rfl (lv_at hl 0 rfl) ?_
          refine lv_iload hx hb dX10_period_33 (lv_at hl 1 rfl) ?_
          refine behR (runVP (As := [.int x23_4]) (rest := []) ⟨hx, hb, hml, hown, ht⟩ (sX7_comesAgain l G cs (qm 22) qr2 Fr2 Ar2 Br2 Dr2 hIr2 x23_4 (by omega)) okV_RX10_305 ⟨by decide, by decide⟩ hK hP [13, 14] rfl 13 rfl rfl hl.1 rfl (Nat.le_of_ble_eq_true rfl) dX10_period_35 ⟨by decide, by decide⟩) hP hS (fun _ h => h) (fun r17003 H locs hr17003 hP hS => ?_)
          have hr17003 : (0 : Int) ≤ r17003.toInt ∧ r17003.toInt ≤ 1 := hr17003
          refine lv_if_eq (tgt := 44) hx hb dX10_period_38 (by decide) (fun c17004 => ?_) (fun c17004 => ?_)
          · have zc17004 := eqK rfl (show (0 : Int32).toInt = 0 by decide) c17004
            obtain ⟨v17005, ev17005⟩ : ∃ z : Int32, z = x23_4 + 1 := ⟨_, rfl⟩
            have tv17005 : v17005.toInt = x23_4.toInt + 1 := by rw [ev17005]; exact addT rfl (by decide) (by omega)
            refine lv_iinc (v := v17005) (lv' := [(4, .int v17005), (3, .ref (qm 22))]) hx hb dX10_period_44 hl (k := 1) rfl (by rw [ev17005]; rfl) (by decide) rfl (fun ls hl => ?_)
            refine lv_goto (tgt := 23) hx hb dX10_period_47 (by decide) ?_
            exact ih23 v17005 H locs ls (by omega) (by omega) hP hS (lv_sub hl [1, 0] rfl)
          · have zc17004 := neK rfl (show (0 : Int32).toInt = 0 by decide) c17004
            refine lv_iload hx hb dX10_period_41 (lv_at hl 1 rfl) ?_
            exact retRi hx hb hr hlk hS dX10_period_43 (trivial)
    exact B23 _ 1 H locs ls (Nat.lt_succ_self _) (by decide) hP hS (lv_sub hl [1, 0] rfl)
  · have zc4 := neK rfl (show (0 : Int32).toInt = 0 by decide) c4
    refine lv_iload_n hx hb dX10_period_11 rfl (lv_at hl 0 rfl) ?_
    exact retRi hx hb hr hlk hS dX10_period_12 (trivial)

set_option maxRecDepth 100000 in
set_option maxHeartbeats 16000000 in
theorem sX10_period_3 (l : Launch) (G : va_G) (cs : Nat → ClassId) (adm : Nat) (qm : Nat → Nat) (Fm : Nat → Int32) (Am : Nat → Nat → Int32) (Bm : Nat → Nat → Int64) (Dm : Int64) (hIm : IX10 Fm Am) (qms : Nat → Nat) (Fms : Nat → Int32) (Ams : Nat → Nat → Int32) (Bms : Nat → Nat → Int64) (Dms : Int64) (hIms : IX8 Fms Ams) (qmh : Nat → Nat) (Fmh : Nat → Int32) (Amh : Nat → Nat → Int32) (Bmh : Nat → Nat → Int64) (Dmh : Int64) (hImh : IX3 Fmh Amh) (qr3 : Nat → Nat) (Fr3 : Nat → Int32) (Ar3 : Nat → Nat → Int32) (Br3 : Nat → Nat → Int64) (Dr3 : Int64) (hIr3 : IX7 Fr3 Ar3) : ∀ sz : Nat, Met l yX10_period (wk yX10_period cX10_period 5 (some .int)) (rmk 3 0 0) (PreP G (TY cs) [.ref adm, .int 3] ((uX10 cs adm qm Fm Am Bm Dm) ++ ((uX8 cs (qm 3) qms Fms Ams Bms Dms) ++ ((uX3 cs (qms 0) qmh Fmh Amh Bmh Dmh) ++ (uX7 cs (qm 23) qr3 Fr3 Ar3 Br3 Dr3)))) sz) (QRi (fun r : Int32 => True) sz) 0 0 (fun q => sz ≤ q) := by
  refine mkP (Qc := QRi (fun r : Int32 => True)) (by decide) (by simp [lg_sl, Value.category]) ?_
  intro p e s m args below meth c ls hx hb hml hr hlk hown ht hK hP hS hl
  have hl : lv_has ls 5 [(0, .ref adm), (1, .int 3)] := hl
  refine lv_aload_n hx hb dX10_period_0 rfl (lv_at hl 0 rfl) ?_
  refine lv_iload_n hx hb dX10_period_1 rfl (lv_at hl 1 rfl) ?_
  refine lv_iconst (v := 1) hx hb dX10_period_2 (by decide) ?_
  refine behR (runVP (As := [.int 3, .int 1]) (rest := []) ⟨hx, hb, hml, hown, ht⟩ (sX10_askHabits_3 l G cs adm qm Fm Am Bm Dm hIm qms Fms Ams Bms Dms hIms qmh Fmh Amh Bmh Dmh hImh qr3 Fr3 Ar3 Br3 Dr3 hIr3 1 (by decide)) okV_RX10_299 ⟨by decide, by decide⟩ hK hP [0, 1, 2, 3, 4, 5, 6, 7, 8, 9, 10, 11, 12, 13, 14] rfl 0 rfl rfl hl.1 rfl (Nat.le_of_ble_eq_true rfl) dX10_period_3 ⟨by decide, by decide⟩) hP hS (fun _ h => h) (fun r1 H locs hr1 hP hS => ?_)
  have kk2 : (3 : Int32).toInt = 3 := by decide
  have kk3 : (1 : Int32).toInt = 1 := by decide
  have hr1 : ((r1.toInt = 0 ∧ (1 : Int32).toInt = 1) ∨ r1.toInt = -2 ∨ r1.toInt = -6) ∧ RWk r1 0 (Br3 0) 0 ((Fmh 5).toInt - 1) (Fr3 3).toInt := hr1
  refine lv_istore_n (lv' := [(2, .int r1), (0, .ref adm), (1, .int 3)]) hx hb dX10_period_6 rfl hl (by decide) rfl (fun ls hl => ?_)
  refine lv_iload_n hx hb dX10_period_7 rfl (lv_at hl 0 rfl) ?_
  refine lv_if_eq (tgt := 13) hx hb dX10_period_8 (by decide) (fun c4 => ?_) (fun c4 => ?_)
  · have zc4 := eqK rfl (show (0 : Int32).toInt = 0 by decide) c4
    refine lv_aload_n hx hb dX10_period_13 rfl (lv_at hl 1 rfl) ?_
    refine getF (v := .ref (qm 5)) hx hb ht hown hK hP iTX10 0 5 rfl rfl (by decide) fl_RX10_41 rfl dX10_period_14 ?_
    refine lv_iload_n hx hb dX10_period_17 rfl (lv_at hl 2 rfl) ?_
    refine va_aldq hx hb hK.1 hP 2 5 rfl rfl (show ¬ (_ ∨ _) by decide) dX10_period_18 ?_
    refine W.eq (g2 := F0 m 19 ls [.ref (qm 23)]) rfl ?_
    refine lv_astore_n (lv' := [(3, .ref (qm 23)), (2, .int r1), (0, .ref adm), (1, .int 3)]) hx hb dX10_period_19 rfl hl (by decide) rfl (fun ls hl => ?_)
    refine lv_iconst (v := 1) hx hb dX10_period_20 (by decide) ?_
    refine lv_istore (lv' := [(4, .int 1), (3, .ref (qm 23)), (2, .int r1), (0, .ref adm), (1, .int 3)]) hx hb dX10_period_21 hl (by decide) rfl (fun ls hl => ?_)
    have B23 : ∀ (n : Nat) (x23_4 : Int32) (H : Heap) (locs : List Loc) (ls : Array Slot), (61 - x23_4.toInt).toNat < n → (1 : Int) ≤ x23_4.toInt ∧ x23_4.toInt ≤ 61 → va_P G vwCl ((uX10 cs adm qm Fm Am Bm Dm) ++ ((uX8 cs (qm 3) qms Fms Ams Bms Dms) ++ ((uX3 cs (qms 0) qmh Fmh Amh Bmh Dmh) ++ (uX7 cs (qm 23) qr3 Fr3 Ar3 Br3 Dr3)))) H → va_S (fun q => s.heap.size ≤ q) s.heap H locs → lv_has ls 5 [(3, .ref (qm 23)), (4, .int x23_4)] → W p l e (rmk 3 0 0) s m args below meth c H locs 0 0 (MQ below (QRi (fun r : Int32 => True) s.heap.size) args s 0 0 (fun q => s.heap.size ≤ q)) (F0 m 23 ls []) := by
      intro n
      induction n with
      | zero => intro x23_4 H locs ls hmeas hx23_4 hP hS hl; exact absurd hmeas (Nat.not_lt_zero _)
      | succ n ih23 =>
        intro x23_4 H locs ls hmeas hx23_4 hP hS hl
        refine lv_iload hx hb dX10_period_23 (lv_at hl 1 rfl) ?_
        refine lv_aload_n hx hb dX10_period_25 rfl (lv_at hl 0 rfl) ?_
        refine getF (v := .int (Fr3 3)) hx hb ht hown hK hP iTX7 13 3 rfl rfl (by decide) fl_RX10_194 rfl dX10_period_26 ?_
        have zf17001 : (0 : Int) ≤ (Fr3 3).toInt ∧ (Fr3 3).toInt ≤ 60 := hIr3.1 3
        refine lv_icmp_gt (tgt := 50) hx hb dX10_period_29 (by decide) (fun c17002 => ?_) (fun c17002 => ?_)
        · have zc17002 := ltK rfl rfl c17002
          refine lv_iconst (v := (-1)) hx hb dX10_period_50 (by decide) ?_
          exact retRi hx hb hr hlk hS dX10_period_51 (trivial)
        · have zc17002 := nltK rfl rfl c17002
          refine lv_aload_n hx hb dX10_period_32 rfl (lv_at hl 0 rfl) ?_
          refine lv_iload hx hb dX10_period_33 (lv_at hl 1 rfl) ?_
          refine behR (runVP (As := [.int x23_4]) (rest := []) ⟨hx, hb, hml, hown, ht⟩ (sX7_comesAgain l G cs (qm 23) qr3 Fr3 Ar3 Br3 Dr3 hIr3 x23_4 (by omega)) okV_RX10_305 ⟨by decide, by decide⟩ hK hP [13, 14] rfl 13 rfl rfl hl.1 rfl (Nat.le_of_ble_eq_true rfl) dX10_period_35 ⟨by decide, by decide⟩) hP hS (fun _ h => h) (fun r17003 H locs hr17003 hP hS => ?_)
          have hr17003 : (0 : Int) ≤ r17003.toInt ∧ r17003.toInt ≤ 1 := hr17003
          refine lv_if_eq (tgt := 44) hx hb dX10_period_38 (by decide) (fun c17004 => ?_) (fun c17004 => ?_)
          · have zc17004 := eqK rfl (show (0 : Int32).toInt = 0 by decide) c17004
            obtain ⟨v17005, ev17005⟩ : ∃ z : Int32, z = x23_4 + 1 := ⟨_, rfl⟩
            have tv17005 : v17005.toInt = x23_4.toInt + 1 := by rw [ev17005]; exact addT rfl (by decide) (by omega)
            refine lv_iinc (v := v17005) (lv' := [(4, .int v17005), (3, .ref (qm 23))]) hx hb dX10_period_44 hl (k := 1) rfl (by rw [ev17005]; rfl) (by decide) rfl (fun ls hl => ?_)
            refine lv_goto (tgt := 23) hx hb dX10_period_47 (by decide) ?_
            exact ih23 v17005 H locs ls (by omega) (by omega) hP hS (lv_sub hl [1, 0] rfl)
          · have zc17004 := neK rfl (show (0 : Int32).toInt = 0 by decide) c17004
            refine lv_iload hx hb dX10_period_41 (lv_at hl 1 rfl) ?_
            exact retRi hx hb hr hlk hS dX10_period_43 (trivial)
    exact B23 _ 1 H locs ls (Nat.lt_succ_self _) (by decide) hP hS (lv_sub hl [1, 0] rfl)
  · have zc4 := neK rfl (show (0 : Int32).toInt = 0 by decide) c4
    refine lv_iload_n hx hb dX10_period_11 rfl (lv_at hl 0 rfl) ?_
    exact retRi hx hb hr hlk hS dX10_period_12 (trivial)

set_option maxRecDepth 100000 in
set_option maxHeartbeats 16000000 in
theorem sX10_period_lo (l : Launch) (G : va_G) (cs : Nat → ClassId) (adm : Nat) (qm : Nat → Nat) (Fm : Nat → Int32) (Am : Nat → Nat → Int32) (Bm : Nat → Nat → Int64) (Dm : Int64) (hIm : IX10 Fm Am) (qms : Nat → Nat) (Fms : Nat → Int32) (Ams : Nat → Nat → Int32) (Bms : Nat → Nat → Int64) (Dms : Int64) (hIms : IX8 Fms Ams) (qmh : Nat → Nat) (Fmh : Nat → Int32) (Amh : Nat → Nat → Int32) (Bmh : Nat → Nat → Int64) (Dmh : Int64) (hImh : IX3 Fmh Amh) (a1 : Int32) (ha1 : (-2147483648 : Int) ≤ a1.toInt ∧ a1.toInt ≤ -1) : ∀ sz : Nat, Met l yX10_period (wk yX10_period cX10_period 5 (some .int)) (rmk 3 0 0) (PreP G (TY cs) [.ref adm, .int a1] ((uX10 cs adm qm Fm Am Bm Dm) ++ ((uX8 cs (qm 3) qms Fms Ams Bms Dms) ++ (uX3 cs (qms 0) qmh Fmh Amh Bmh Dmh))) sz) (QRi (fun r : Int32 => True) sz) 0 0 (fun q => sz ≤ q) := by
  refine mkP (Qc := QRi (fun r : Int32 => True)) (by decide) (by simp [lg_sl, Value.category]) ?_
  intro p e s m args below meth c ls hx hb hml hr hlk hown ht hK hP hS hl
  have hl : lv_has ls 5 [(0, .ref adm), (1, .int a1)] := hl
  refine lv_aload_n hx hb dX10_period_0 rfl (lv_at hl 0 rfl) ?_
  refine lv_iload_n hx hb dX10_period_1 rfl (lv_at hl 1 rfl) ?_
  refine lv_iconst (v := 1) hx hb dX10_period_2 (by decide) ?_
  have bb1 := i32b a1
  refine behR (runVP (As := [.int a1, .int 1]) (rest := []) ⟨hx, hb, hml, hown, ht⟩ (sX10_askHabits_lo l G cs adm qm Fm Am Bm Dm hIm qms Fms Ams Bms Dms hIms qmh Fmh Amh Bmh Dmh hImh a1 1 (by omega) (by decide)) okV_RX10_299 ⟨by decide, by decide⟩ hK hP [0, 1, 2, 3, 4, 5, 6, 7, 8, 9, 10, 11, 12] rfl 0 rfl rfl hl.1 rfl (Nat.le_of_ble_eq_true rfl) dX10_period_3 ⟨by decide, by decide⟩) hP hS (fun _ h => h) (fun r2 H locs hr2 hP hS => ?_)
  have kk3 : (1 : Int32).toInt = 1 := by decide
  have hr2 : r2.toInt = -2 := hr2
  refine lv_istore_n (lv' := [(2, .int r2), (0, .ref adm), (1, .int a1)]) hx hb dX10_period_6 rfl hl (by decide) rfl (fun ls hl => ?_)
  refine lv_iload_n hx hb dX10_period_7 rfl (lv_at hl 0 rfl) ?_
  refine lv_if_eq (tgt := 13) hx hb dX10_period_8 (by decide) (fun c4 => False.elim (by have zz := eqK rfl (show (0 : Int32).toInt = 0 by decide) c4; omega)) (fun c4 => ?_)
  refine lv_iload_n hx hb dX10_period_11 rfl (lv_at hl 0 rfl) ?_
  exact retRi hx hb hr hlk hS dX10_period_12 (trivial)

