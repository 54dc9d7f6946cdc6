set_option maxRecDepth 100000 in
set_option maxHeartbeats 16000000 in
theorem sX3_clear (l : Launch) (G : va_G) (cs : Nat → ClassId) (adt : Nat) (qt : Nat → Nat) (Ft : Nat → Int32) (At : Nat → Nat → Int32) (Bt : Nat → Nat → Int64) (Dt : Int64) (hIt : IX3 Ft At) : ∀ sz : Nat, Met l yX3_clear (wk yX3_clear cX3_clear 1 none) (rmk 0 0 0) (PreD G (TY cs) [.ref adt] (uX3 cs adt qt Ft At Bt Dt) sz) ((QDw G (fun u : Int32 × Int32 × Int32 × Int32 × Int32 × Int32 × Int32 => ((0 : Int) ≤ u.2.2.2.2.2.1.toInt ∧ u.2.2.2.2.2.1.toInt ≤ 7) ∧ ((0 : Int) ≤ u.2.2.2.2.2.2.toInt ∧ u.2.2.2.2.2.2.toInt ≤ 6) ∧ (True)) (fun u : Int32 × Int32 × Int32 × Int32 × Int32 × Int32 × Int32 => (wX3 cs adt qt (upd (upd (upd (upd (upd (upd (upd Ft 0 u.1) 1 u.2.1) 2 u.2.2.1) 3 u.2.2.2.1) 4 u.2.2.2.2.1) 5 u.2.2.2.2.2.1) 6 u.2.2.2.2.2.2) At Bt Dt))) (va_A (uX3 cs adt qt Ft At Bt Dt) sz)) 0 0 (va_A (uX3 cs adt qt Ft At Bt Dt) sz) := by
  refine mkD (Qc := (QDw G (fun u : Int32 × Int32 × Int32 × Int32 × Int32 × Int32 × Int32 => ((0 : Int) ≤ u.2.2.2.2.2.1.toInt ∧ u.2.2.2.2.2.1.toInt ≤ 7) ∧ ((0 : Int) ≤ u.2.2.2.2.2.2.toInt ∧ u.2.2.2.2.2.2.toInt ≤ 6) ∧ (True)) (fun u : Int32 × Int32 × Int32 × Int32 × Int32 × Int32 × Int32 => (wX3 cs adt qt (upd (upd (upd (upd (upd (upd (upd Ft 0 u.1) 1 u.2.1) 2 u.2.2.1) 3 u.2.2.2.1) 4 u.2.2.2.2.1) 5 u.2.2.2.2.2.1) 6 u.2.2.2.2.2.2) At Bt Dt)))) (by decide) (by simp [lg_sl, Value.category]) ?_
  intro p e s m args below meth c ls A0 hx hb hml hr hlk hown hmn ht hK hP hD hS hA hl
  have hl : lv_has ls 1 [(0, .ref adt)] := hl
  refine lv_aload_n hx hb dX3_clear_0 rfl (lv_at hl 0 rfl) ?_
  refine lv_iconst (v := 0) hx hb dX3_clear_1 (by decide) ?_
  refine putD hx hb ht hown hK hP hD hS iTX3 tyX3 tyX3_ok nmX3 0 0 rfl rfl (by decide) fl_RX3_33 rfl rfl rfl (Nat.le_of_ble_eq_true rfl) dX3_clear_2 (fun H locs hP hD hS => ?_)
  have hP : va_P G vwCl (uX3 cs adt qt (upv 0 (0 : Int32) Ft) At Bt Dt) H := hP
  have hD : va_D A0 (uX3 cs adt qt (upv 0 (0 : Int32) Ft) At Bt Dt) := hD
  refine lv_aload_n hx hb dX3_clear_5 rfl (lv_at hl 0 rfl) ?_
  refine lv_iconst (v := 0) hx hb dX3_clear_6 (by decide) ?_
  refine putD hx hb ht hown hK hP hD hS iTX3 tyX3 tyX3_ok nmX3 0 1 rfl rfl (by decide) fl_RX3_37 rfl rfl rfl (Nat.le_of_ble_eq_true rfl) dX3_clear_7 (fun H locs hP hD hS => ?_)
  have hP : va_P G vwCl (uX3 cs adt qt (upv 1 (0 : Int32) (upv 0 (0 : Int32) Ft)) At Bt Dt) H := hP
  have hD : va_D A0 (uX3 cs adt qt (upv 1 (0 : Int32) (upv 0 (0 : Int32) Ft)) At Bt Dt) := hD
  refine lv_aload_n hx hb dX3_clear_10 rfl (lv_at hl 0 rfl) ?_
  refine lv_iconst (v := 0) hx hb dX3_clear_11 (by decide) ?_
  refine putD hx hb ht hown hK hP hD hS iTX3 tyX3 tyX3_ok nmX3 0 2 rfl rfl (by decide) fl_RX3_40 rfl rfl rfl (Nat.le_of_ble_eq_true rfl) dX3_clear_12 (fun H locs hP hD hS => ?_)
  have hP : va_P G vwCl (uX3 cs adt qt (upv 2 (0 : Int32) (upv 1 (0 : Int32) (upv 0 (0 : Int32) Ft))) At Bt Dt) H := hP
  have hD : va_D A0 (uX3 cs adt qt (upv 2 (0 : Int32) (upv 1 (0 : Int32) (upv 0 (0 : Int32) Ft))) At Bt Dt) := hD
  refine lv_aload_n hx hb dX3_clear_15 rfl (lv_at hl 0 rfl) ?_
  refine lv_iconst (v := 0) hx hb dX3_clear_16 (by decide) ?_
  refine putD hx hb ht hown hK hP hD hS iTX3 tyX3 tyX3_ok nmX3 0 3 rfl rfl (by decide) fl_RX3_43 rfl rfl rfl (Nat.le_of_ble_eq_true rfl) dX3_clear_17 (fun H locs hP hD hS => ?_)
  have hP : va_P G vwCl (uX3 cs adt qt (upv 3 (0 : Int32) (upv 2 (0 : Int32) (upv 1 (0 : Int32) (upv 0 (0 : Int32) Ft)))) At Bt Dt) H := hP
  have hD : va_D A0 (uX3 cs adt qt (upv 3 (0 : Int32) (upv 2 (0 : Int32) (upv 1 (0 : Int32) (upv 0 (0 : Int32) Ft)))) At Bt Dt) := hD
  refine lv_aload_n hx hb dX3_clear_20 rfl (lv_at hl 0 rfl) ?_
  refine lv_iconst (v := 0) hx hb dX3_clear_21 (by decide) ?_
  refine putD hx hb ht hown hK hP hD hS iTX3 tyX3 tyX3_ok nmX3 0 4 rfl rfl (by decide) fl_RX3_46 rfl rfl rfl (Nat.le_of_ble_eq_true rfl) dX3_clear_22 (fun H locs hP hD hS => ?_)
  have hP : va_P G vwCl (uX3 cs adt qt (upv 4 (0 : Int32) (upv 3 (0 : Int32) (upv 2 (0 : Int32) (upv 1 (0 : Int32) (upv 0 (0 : Int32) Ft))))) At Bt Dt) H := hP
  have hD : va_D A0 (uX3 cs adt qt (upv 4 (0 : Int32) (upv 3 (0 : Int32) (upv 2 (0 : Int32) (upv 1 (0 : Int32) (upv 0 (0 : Int32) Ft))))) At Bt Dt) := hD
  refine lv_aload_n hx hb dX3_clear_25 rfl (lv_at hl 0 rfl) ?_
  refine lv_iconst (v := 0) hx hb dX3_clear_26 (by decide) ?_
  refine putD hx hb ht hown hK hP hD hS iTX3 tyX3 tyX3_ok nmX3 0 5 rfl rfl (by decide) fl_RX3_49 rfl rfl rfl (Nat.le_of_ble_eq_true rfl) dX3_clear_27 (fun H locs hP hD hS => ?_)
  have hP : va_P G vwCl (uX3 cs adt qt (upv 5 (0 : Int32) (upv 4 (0 : Int32) (upv 3 (0 : Int32) (upv 2 (0 : Int32) (upv 1 (0 : Int32) (upv 0 (0 : Int32) Ft)))))) At Bt Dt) H := hP
  have hD : va_D A0 (uX3 cs adt qt (upv 5 (0 : Int32) (upv 4 (0 : Int32) (upv 3 (0 : Int32) (upv 2 (0 : Int32) (upv 1 (0 : Int32) (upv 0 (0 : Int32) Ft)))))) At Bt Dt) := hD
  refine lv_aload_n hx hb dX3_clear_30 rfl (lv_at hl 0 rfl) ?_
  refine lv_iconst (v := 0) hx hb dX3_clear_31 (by decide) ?_
  refine putD hx hb ht hown hK hP hD hS iTX3 tyX3 tyX3_ok nmX3 0 6 rfl rfl (by decide) fl_RX3_52 rfl rfl rfl (Nat.le_of_ble_eq_true rfl) dX3_clear_32 (fun H locs hP hD hS => ?_)
  have hP : va_P G vwCl (uX3 cs adt qt (upv 6 (0 : Int32) (upv 5 (0 : Int32) (upv 4 (0 : Int32) (upv 3 (0 : Int32) (upv 2 (0 : Int32) (upv 1 (0 : Int32) (upv 0 (0 : Int32) Ft))))))) At Bt Dt) H := hP
  have hD : va_D A0 (uX3 cs adt qt (upv 6 (0 : Int32) (upv 5 (0 : Int32) (upv 4 (0 : Int32) (upv 3 (0 : Int32) (upv 2 (0 : Int32) (upv 1 (0 : Int32) (upv 0 (0 : Int32) Ft))))))) At Bt Dt) := hD
  exact retDw ((0 : Int32), (0 : Int32), (0 : Int32), (0 : Int32), (0 : Int32), (0 : Int32), (0 : Int32)) hx hb hr hlk hP hD hS dX3_clear_35 (⟨show (0 : Int) ≤ (0 : Int32).toInt ∧ (0 : Int32).toInt ≤ 7 by decide, show (0 : Int) ≤ (0 : Int32).toInt ∧ (0 : Int32).toInt ≤ 6 by decide, trivial⟩) (Nat.le_of_ble_eq_true rfl) (Nat.le_of_ble_eq_true rfl)

set_option maxRecDepth 100000 in
set_option maxHeartbeats 16000000 in
theorem sX3_copyFrom (l : Launch) (G : va_G) (cs : Nat → ClassId) (adt : Nat) (qt : Nat → Nat) (Ft : Nat → Int32) (At : Nat → Nat → Int32) (Bt : Nat → Nat → Int64) (Dt : Int64) (hIt : IX3 Ft At) (ado : Nat) (qo : Nat → Nat) (Fo : Nat → Int32) (Ao : Nat → Nat → Int32) (Bo : Nat → Nat → Int64) (Do : Int64) (hIo : IX3 Fo Ao) : ∀ sz : Nat, Met l yX3_copyFrom (wk yX3_copyFrom cX3_copyFrom 2 none) (rmk 1 0 0) (PreD G (TY cs) [.ref adt, .ref ado] ((uX3 cs adt qt Ft At Bt Dt) ++ (uX3 cs ado qo Fo Ao Bo Do)) sz) ((QDw G (fun u : Int32 × Int32 × Int32 × Int32 × Int32 × Int32 × Int32 × (Nat → Int32) × (Nat → Int32) × (Nat → Int32) × (Nat → Int32) × (Nat → Int32) × (Nat → Int32) × (Nat → Int32) => ((0 : Int) ≤ u.2.2.2.2.2.1.toInt ∧ u.2.2.2.2.2.1.toInt ≤ 7) ∧ ((0 : Int) ≤ u.2.2.2.2.2.2.1.toInt ∧ u.2.2.2.2.2.2.1.toInt ≤ 6) ∧ AJ (0) 127 u.2.2.2.2.2.2.2.2.2.2.1 ∧ AJ (0) 63 u.2.2.2.2.2.2.2.2.2.2.2.2.1 ∧ (True)) (fun u : Int32 × Int32 × Int32 × Int32 × Int32 × Int32 × Int32 × (Nat → Int32) × (Nat → Int32) × (Nat → Int32) × (Nat → Int32) × (Nat → Int32) × (Nat → Int32) × (Nat → Int32) => ((wX3 cs adt qt (upd (upd (upd (upd (upd (upd (upd Ft 0 u.1) 1 u.2.1) 2 u.2.2.1) 3 u.2.2.2.1) 4 u.2.2.2.2.1) 5 u.2.2.2.2.2.1) 6 u.2.2.2.2.2.2.1) (vA (vA (vA (vA (vA (vA (vA At 7 u.2.2.2.2.2.2.2.1) 8 u.2.2.2.2.2.2.2.2.1) 9 u.2.2.2.2.2.2.2.2.2.1) 10 u.2.2.2.2.2.2.2.2.2.2.1) 11 u.2.2.2.2.2.2.2.2.2.2.2.1) 12 u.2.2.2.2.2.2.2.2.2.2.2.2.1) 13 u.2.2.2.2.2.2.2.2.2.2.2.2.2) Bt Dt) ++ (uX3 cs ado qo Fo Ao Bo Do)))) (va_A ((uX3 cs adt qt Ft At Bt Dt) ++ (uX3 cs ado qo Fo Ao Bo Do)) sz)) 0 0 (va_A ((uX3 cs adt qt Ft At Bt Dt) ++ (uX3 cs ado qo Fo Ao Bo Do)) sz) := by
  refine mkD (Qc := (QDw G (fun u : Int32 × Int32 × Int32 × Int32 × Int32 × Int32 × Int32 × (Nat → Int32) × (Nat → Int32) × (Nat → Int32) × (Nat → Int32) × (Nat → Int32) × (Nat → Int32) × (Nat → Int32) => ((0 : Int) ≤ u.2.2.2.2.2.1.toInt ∧ u.2.2.2.2.2.1.toInt ≤ 7) ∧ ((0 : Int) ≤ u.2.2.2.2.2.2.1.toInt ∧ u.2.2.2.2.2.2.1.toInt ≤ 6) ∧ AJ (0) 127 u.2.2.2.2.2.2.2.2.2.2.1 ∧ AJ (0) 63 u.2.2.2.2.2.2.2.2.2.2.2.2.1 ∧ (True)) (fun u : Int32 × Int32 × Int32 × Int32 × Int32 × Int32 × Int32 × (Nat → Int32) × (Nat → Int32) × (Nat → Int32) × (Nat → Int32) × (Nat → Int32) × (Nat → Int32) × (Nat → Int32) => ((wX3 cs adt qt (upd (upd (upd (upd (upd (upd (upd Ft 0 u.1) 1 u.2.1) 2 u.2.2.1) 3 u.2.2.2.1) 4 u.2.2.2.2.1) 5 u.2.2.2.2.2.1) 6 u.2.2.2.2.2.2.1) (vA (vA (vA (vA (vA (vA (vA At 7 u.2.2.2.2.2.2.2.1) 8 u.2.2.2.2.2.2.2.2.1) 9 u.2.2.2.2.2.2.2.2.2.1) 10 u.2.2.2.2.2.2.2.2.2.2.1) 11 u.2.2.2.2.2.2.2.2.2.2.2.1) 12 u.2.2.2.2.2.2.2.2.2.2.2.2.1) 13 u.2.2.2.2.2.2.2.2.2.2.2.2.2) Bt Dt) ++ (uX3 cs ado qo Fo Ao Bo Do))))) (by decide) (by simp [lg_sl, Value.category]) ?_
  intro p e s m args below meth c ls A0 hx hb hml hr hlk hown hmn ht hK hP hD hS hA hl
  have hl : lv_has ls 2 [(0, .ref adt), (1, .ref ado)] := hl
  refine lv_aload_n hx hb dX3_copyFrom_0 rfl (lv_at hl 0 rfl) ?_
  refine lv_aload_n hx hb dX3_copyFrom_1 rfl (lv_at hl 1 rfl) ?_
  refine getF (v := .int (Fo 0)) hx hb ht hown hK hP iTX3 8 0 rfl rfl (by decide) fl_RX3_33 rfl dX3_copyFrom_2 ?_
  refine putD hx hb ht hown hK hP hD hS iTX3 tyX3 tyX3_ok nmX3 0 0 rfl rfl (by decide) fl_RX3_33 rfl rfl rfl (Nat.le_of_ble_eq_true rfl) dX3_copyFrom_5 (fun H locs hP hD hS => ?_)
  have hP : va_P G vwCl ((uX3 cs adt qt (upv 0 (Fo 0) Ft) At Bt Dt) ++ (uX3 cs ado qo Fo Ao Bo Do)) H := hP
  have hD : va_D A0 ((uX3 cs adt qt (upv 0 (Fo 0) Ft) At Bt Dt) ++ (uX3 cs ado qo Fo Ao Bo Do)) := hD
  refine lv_aload_n hx hb dX3_copyFrom_8 rfl (lv_at hl 0 rfl) ?_
  refine lv_aload_n hx hb dX3_copyFrom_9 rfl (lv_at hl 1 rfl) ?_
  refine getF (v := .int (Fo 1)) hx hb ht hown hK hP iTX3 8 1 rfl rfl (by decide) fl_RX3_37 rfl dX3_copyFrom_10 ?_
  refine putD hx hb ht hown hK hP hD hS iTX3 tyX3 tyX3_ok nmX3 0 1 rfl rfl (by decide) fl_RX3_37 rfl rfl rfl (Nat.le_of_ble_eq_true rfl) dX3_copyFrom_13 (fun H locs hP hD hS => ?_)
  have hP : va_P G vwCl ((uX3 cs adt qt (upv 1 (Fo 1) (upv 0 (Fo 0) Ft)) At Bt Dt) ++ (uX3 cs ado qo Fo Ao Bo Do)) H := hP
  have hD : va_D A0 ((uX3 cs adt qt (upv 1 (Fo 1) (upv 0 (Fo 0) Ft)) At Bt Dt) ++ (uX3 cs ado qo Fo Ao Bo Do)) := hD
  refine lv_aload_n hx hb dX3_copyFrom_16 rfl (lv_at hl 0 rfl) ?_
  refine lv_aload_n hx hb dX3_copyFrom_17 rfl (lv_at hl 1 rfl) ?_
  refine getF (v := .int (Fo 2)) hx hb ht hown hK hP iTX3 8 2 rfl rfl (by decide) fl_RX3_40 rfl dX3_copyFrom_18 ?_
  refine putD hx hb ht hown hK hP hD hS iTX3 tyX3 tyX3_ok nmX3 0 2 rfl rfl (by decide) fl_RX3_40 rfl rfl rfl (Nat.le_of_ble_eq_true rfl) dX3_copyFrom_21 (fun H locs hP hD hS => ?_)
  have hP : va_P G vwCl ((uX3 cs adt qt (upv 2 (Fo 2) (upv 1 (Fo 1) (upv 0 (Fo 0) Ft))) At Bt Dt) ++ (uX3 cs ado qo Fo Ao Bo Do)) H := hP
  have hD : va_D A0 ((uX3 cs adt qt (upv 2 (Fo 2) (upv 1 (Fo 1) (upv 0 (Fo 0) Ft))) At Bt Dt) ++ (uX3 cs ado qo Fo Ao Bo Do)) := hD
  refine lv_aload_n hx hb dX3_copyFrom_24 rfl (lv_at hl 0 rfl) ?_
  refine lv_aload_n hx hb dX3_copyFrom_25 rfl (lv_at hl 1 rfl) ?_
  refine getF (v := .int (Fo 3)) hx hb ht hown hK hP iTX3 8 3 rfl rfl (by decide) fl_RX3_43 rfl dX3_copyFrom_26 ?_
  refine putD hx hb ht hown hK hP hD hS iTX3 tyX3 tyX3_ok nmX3 0 3 rfl rfl (by decide) fl_RX3_43 rfl rfl rfl (Nat.le_of_ble_eq_true rfl) dX3_copyFrom_29 (fun H locs hP hD hS => ?_)
  have hP : va_P G vwCl ((uX3 cs adt qt (upv 3 (Fo 3) (upv 2 (Fo 2) (upv 1 (Fo 1) (upv 0 (Fo 0) Ft)))) At Bt Dt) ++ (uX3 cs ado qo Fo Ao Bo Do)) H := hP
  have hD : va_D A0 ((uX3 cs adt qt (upv 3 (Fo 3) (upv 2 (Fo 2) (upv 1 (Fo 1) (upv 0 (Fo 0) Ft)))) At Bt Dt) ++ (uX3 cs ado qo Fo Ao Bo Do)) := hD
  refine lv_aload_n hx hb dX3_copyFrom_32 rfl (lv_at hl 0 rfl) ?_
  refine lv_aload_n hx hb dX3_copyFrom_33 rfl (lv_at hl 1 rfl) ?_
  refine getF (v := .int (Fo 4)) hx hb ht hown hK hP iTX3 8 4 rfl rfl (by decide) fl_RX3_46 rfl dX3_copyFrom_34 ?_
  refine putD hx hb ht hown hK hP hD hS iTX3 tyX3 tyX3_ok nmX3 0 4 rfl rfl (by decide) fl_RX3_46 rfl rfl rfl (Nat.le_of_ble_eq_true rfl) dX3_copyFrom_37 (fun H locs hP hD hS => ?_)
  have hP : va_P G vwCl ((uX3 cs adt qt (upv 4 (Fo 4) (upv 3 (Fo 3) (upv 2 (Fo 2) (upv 1 (Fo 1) (upv 0 (Fo 0) Ft))))) At Bt Dt) ++ (uX3 cs ado qo Fo Ao Bo Do)) H := hP
  have hD : va_D A0 ((uX3 cs adt qt (upv 4 (Fo 4) (upv 3 (Fo 3) (upv 2 (Fo 2) (upv 1 (Fo 1) (upv 0 (Fo 0) Ft))))) At Bt Dt) ++ (uX3 cs ado qo Fo Ao Bo Do)) := hD
  refine lv_aload_n hx hb dX3_copyFrom_40 rfl (lv_at hl 0 rfl) ?_
  refine lv_aload_n hx hb dX3_copyFrom_41 rfl (lv_at hl 1 rfl) ?_
  refine getF (v := .int (Fo 5)) hx hb ht hown hK hP iTX3 8 5 rfl rfl (by decide) fl_RX3_49 rfl dX3_copyFrom_42 ?_
  have zf1 : (0 : Int) ≤ (Fo 5).toInt ∧ (Fo 5).toInt ≤ 7 := hIo.1 5
  refine putD hx hb ht hown hK hP hD hS iTX3 tyX3 tyX3_ok nmX3 0 5 rfl rfl (by decide) fl_RX3_49 rfl rfl rfl (Nat.le_of_ble_eq_true rfl) dX3_copyFrom_45 (fun H locs hP hD hS => ?_)
  have hP : va_P G vwCl ((uX3 cs adt qt (upv 5 (Fo 5) (upv 4 (Fo 4) (upv 3 (Fo 3) (upv 2 (Fo 2) (upv 1 (Fo 1) (upv 0 (Fo 0) Ft)))))) At Bt Dt) ++ (uX3 cs ado qo Fo Ao Bo Do)) H := hP
  have hD : va_D A0 ((uX3 cs adt qt (upv 5 (Fo 5) (upv 4 (Fo 4) (upv 3 (Fo 3) (upv 2 (Fo 2) (upv 1 (Fo 1) (upv 0 (Fo 0) Ft)))))) At Bt Dt) ++ (uX3 cs ado qo Fo Ao Bo Do)) := hD
  refine lv_aload_n hx hb dX3_copyFrom_48 rfl (lv_at hl 0 rfl) ?_
  refine lv_aload_n hx hb dX3_copyFrom_49 rfl (lv_at hl 1 rfl) ?_
  refine getF (v := .int (Fo 6)) hx hb ht hown hK hP iTX3 8 6 rfl rfl (by decide) fl_RX3_52 rfl dX3_copyFrom_50 ?_
  have zf2 : (0 : Int) ≤ (Fo 6).toInt ∧ (Fo 6).toInt ≤ 6 := hIo.1 6
  refine putD hx hb ht hown hK hP hD hS iTX3 tyX3 tyX3_ok nmX3 0 6 rfl rfl (by decide) fl_RX3_52 rfl rfl rfl (Nat.le_of_ble_eq_true rfl) dX3_copyFrom_53 (fun H locs hP hD hS => ?_)
  have hP : va_P G vwCl ((uX3 cs adt qt (upv 6 (Fo 6) (upv 5 (Fo 5) (upv 4 (Fo 4) (upv 3 (Fo 3) (upv 2 (Fo 2) (upv 1 (Fo 1) (upv 0 (Fo 0) Ft))))))) At Bt Dt) ++ (uX3 cs ado qo Fo Ao Bo Do)) H := hP
  have hD : va_D A0 ((uX3 cs adt qt (upv 6 (Fo 6) (upv 5 (Fo 5) (upv 4 (Fo 4) (upv 3 (Fo 3) (upv 2 (Fo 2) (upv 1 (Fo 1) (upv 0 (Fo 0) Ft))))))) At Bt Dt) ++ (uX3 cs ado qo Fo Ao Bo Do)) := hD
  refine lv_aload_n hx hb dX3_copyFrom_56 rfl (lv_at hl 1 rfl) ?_
  refine getF (v := .ref (qo 7)) hx hb ht hown hK hP iTX3 8 7 rfl rfl (by decide) fl_RX3_9 rfl dX3_copyFrom_57 ?_
  refine lv_iconst (v := 0) hx hb dX3_copyFrom_60 (by decide) ?_
  refine lv_aload_n hx hb dX3_copyFrom_61 rfl (lv_at hl 0 rfl) ?_
  refine getF (v := .ref (qt 7)) hx hb ht hown hK hP iTX3 0 7 rfl rfl (by decide) fl_RX3_9 rfl dX3_copyFrom_62 ?_
  refine lv_iconst (v := 0) hx hb dX3_copyFrom_65 (by decide) ?_
  refine lv_bipush (v := 7) hx hb dX3_copyFrom_66 (by decide) ?_
  refine va_copyi hx hb (by rw [hml]; exact hl.1.symm) hown (ht _ cp_RX3_55) (ht _ cp_nat) (ht _ cp_st) (ht _ cp_in) hK.1 hP hD hS 9 1 0 0 rfl rfl rfl rfl rfl (by decide) (by decide) (by decide) (by decide) (by decide) (fun i hi9 => rfl) (Nat.le_of_ble_eq_true rfl) (Nat.le_of_ble_eq_true rfl) dX3_copyFrom_68 (fun H locs hP hD hS => ?_)
  obtain ⟨g3, hP, hD⟩ : ∃ g3 : Nat → Int32, va_P G vwCl ((uX3 cs adt qt (upv 6 (Fo 6) (upv 5 (Fo 5) (upv 4 (Fo 4) (upv 3 (Fo 3) (upv 2 (Fo 2) (upv 1 (Fo 1) (upv 0 (Fo 0) Ft))))))) (vB 7 g3 At) Bt Dt) ++ (uX3 cs ado qo Fo Ao Bo Do)) H ∧ va_D A0 ((uX3 cs adt qt (upv 6 (Fo 6) (upv 5 (Fo 5) (upv 4 (Fo 4) (upv 3 (Fo 3) (upv 2 (Fo 2) (upv 1 (Fo 1) (upv 0 (Fo 0) Ft))))))) (vB 7 g3 At) Bt Dt) ++ (uX3 cs ado qo Fo Ao Bo Do)) := ⟨_, hP, hD⟩
  refine lv_aload_n hx hb dX3_copyFrom_71 rfl (lv_at hl 1 rfl) ?_
  refine getF (v := .ref (qo 8)) hx hb ht hown hK hP iTX3 8 8 rfl rfl (by decide) fl_RX3_15 rfl dX3_copyFrom_72 ?_
  refine lv_iconst (v := 0) hx hb dX3_copyFrom_75 (by decide) ?_
  refine lv_aload_n hx hb dX3_copyFrom_76 rfl (lv_at hl 0 rfl) ?_
  refine getF (v := .ref (qt 8)) hx hb ht hown hK hP iTX3 0 8 rfl rfl (by decide) fl_RX3_15 rfl dX3_copyFrom_77 ?_
  refine lv_iconst (v := 0) hx hb dX3_copyFrom_80 (by decide) ?_
  refine lv_bipush (v := 7) hx hb dX3_copyFrom_81 (by decide) ?_
  refine va_copyi hx hb (by rw [hml]; exact hl.1.symm) hown (ht _ cp_RX3_55) (ht _ cp_nat) (ht _ cp_st) (ht _ cp_in) hK.1 hP hD hS 10 2 0 0 rfl rfl rfl rfl rfl (by decide) (by decide) (by decide) (by decide) (by decide) (fun i hi9 => rfl) (Nat.le_of_ble_eq_true rfl) (Nat.le_of_ble_eq_true rfl) dX3_copyFrom_83 (fun H locs hP hD hS => ?_)
  obtain ⟨g4, hP, hD⟩ : ∃ g4 : Nat → Int32, va_P G vwCl ((uX3 cs adt qt (upv 6 (Fo 6) (upv 5 (Fo 5) (upv 4 (Fo 4) (upv 3 (Fo 3) (upv 2 (Fo 2) (upv 1 (Fo 1) (upv 0 (Fo 0) Ft))))))) (vB 8 g4 (vB 7 g3 At)) Bt Dt) ++ (uX3 cs ado qo Fo Ao Bo Do)) H ∧ va_D A0 ((uX3 cs adt qt (upv 6 (Fo 6) (upv 5 (Fo 5) (upv 4 (Fo 4) (upv 3 (Fo 3) (upv 2 (Fo 2) (upv 1 (Fo 1) (upv 0 (Fo 0) Ft))))))) (vB 8 g4 (vB 7 g3 At)) Bt Dt) ++ (uX3 cs ado qo Fo Ao Bo Do)) := ⟨_, hP, hD⟩
  refine lv_aload_n hx hb dX3_copyFrom_86 rfl (lv_at hl 1 rfl) ?_
  refine getF (v := .ref (qo 9)) hx hb ht hown hK hP iTX3 8 9 rfl rfl (by decide) fl_RX3_18 rfl dX3_copyFrom_87 ?_
  refine lv_iconst (v := 0) hx hb dX3_copyFrom_90 (by decide) ?_
  refine lv_aload_n hx hb dX3_copyFrom_91 rfl (lv_at hl 0 rfl) ?_
  refine getF (v := .ref (qt 9)) hx hb ht hown hK hP iTX3 0 9 rfl rfl (by decide) fl_RX3_18 rfl dX3_copyFrom_92 ?_
  refine lv_iconst (v := 0) hx hb dX3_copyFrom_95 (by decide) ?_
  refine lv_bipush (v := 7) hx hb dX3_copyFrom_96 (by decide) ?_
  refine va_copyi hx hb (by rw [hml]; exact hl.1.symm) hown (ht _ cp_RX3_55) (ht _ cp_nat) (ht _ cp_st) (ht _ cp_in) hK.1 hP hD hS 11 3 0 0 rfl rfl rfl rfl rfl (by decide) (by decide) (by decide) (by decide) (by decide) (fun i hi9 => rfl) (Nat.le_of_ble_eq_true rfl) (Nat.le_of_ble_eq_true rfl) dX3_copyFrom_98 (fun H locs hP hD hS => ?_)
  obtain ⟨g5, hP, hD⟩ : ∃ g5 : Nat → Int32, va_P G vwCl ((uX3 cs adt qt (upv 6 (Fo 6) (upv 5 (Fo 5) (upv 4 (Fo 4) (upv 3 (Fo 3) (upv 2 (Fo 2) (upv 1 (Fo 1) (upv 0 (Fo 0) Ft))))))) (vB 9 g5 (vB 8 g4 (vB 7 g3 At))) Bt Dt) ++ (uX3 cs ado qo Fo Ao Bo Do)) H ∧ va_D A0 ((uX3 cs adt qt (upv 6 (Fo 6) (upv 5 (Fo 5) (upv 4 (Fo 4) (upv 3 (Fo 3) (upv 2 (Fo 2) (upv 1 (Fo 1) (upv 0 (Fo 0) Ft))))))) (vB 9 g5 (vB 8 g4 (vB 7 g3 At))) Bt Dt) ++ (uX3 cs ado qo Fo Ao Bo Do)) := ⟨_, hP, hD⟩
  refine lv_aload_n hx hb dX3_copyFrom_101 rfl (lv_at hl 1 rfl) ?_
  refine getF (v := .ref (qo 10)) hx hb ht hown hK hP iTX3 8 10 rfl rfl (by decide) fl_RX3_21 rfl dX3_copyFrom_102 ?_
  refine lv_iconst (v := 0) hx hb dX3_copyFrom_105 (by decide) ?_
  refine lv_aload_n hx hb dX3_copyFrom_106 rfl (lv_at hl 0 rfl) ?_
  refine getF (v := .ref (qt 10)) hx hb ht hown hK hP iTX3 0 10 rfl rfl (by decide) fl_RX3_21 rfl dX3_copyFrom_107 ?_
  refine lv_iconst (v := 0) hx hb dX3_copyFrom_110 (by decide) ?_
  refine lv_bipush (v := 7) hx hb dX3_copyFrom_111 (by decide) ?_
  refine va_copyi hx hb (by rw [hml]; exact hl.1.symm) hown (ht _ cp_RX3_55) (ht _ cp_nat) (ht _ cp_st) (ht _ cp_in) hK.1 hP hD hS 12 4 0 0 rfl rfl rfl rfl rfl (by decide) (by decide) (by decide) (by decide) (by decide) (fun i hi9 => rfl) (Nat.le_of_ble_eq_true rfl) (Nat.le_of_ble_eq_true rfl) dX3_copyFrom_113 (fun H locs hP hD hS => ?_)
  obtain ⟨g6, hg6, hP, hD⟩ : ∃ g6 : Nat → Int32, AJ (0) 127 g6 ∧ va_P G vwCl ((uX3 cs adt qt (upv 6 (Fo 6) (upv 5 (Fo 5) (upv 4 (Fo 4) (upv 3 (Fo 3) (upv 2 (Fo 2) (upv 1 (Fo 1) (upv 0 (Fo 0) Ft))))))) (vB 10 g6 (vB 9 g5 (vB 8 g4 (vB 7 g3 At)))) Bt Dt) ++ (uX3 cs ado qo Fo Ao Bo Do)) H ∧ va_D A0 ((uX3 cs adt qt (upv 6 (Fo 6) (upv 5 (Fo 5) (upv 4 (Fo 4) (upv 3 (Fo 3) (upv 2 (Fo 2) (upv 1 (Fo 1) (upv 0 (Fo 0) Ft))))))) (vB 10 g6 (vB 9 g5 (vB 8 g4 (vB 7 g3 At)))) Bt Dt) ++ (uX3 cs ado qo Fo Ao Bo Do)) := ⟨_, AJ_cpy (fun j => (hIo.2 10 j)) (fun j => (hIt.2 10 j)), hP, hD⟩
  refine lv_aload_n hx hb dX3_copyFrom_116 rfl (lv_at hl 1 rfl) ?_
  refine getF (v := .ref (qo 11)) hx hb ht hown hK hP iTX3 8 11 rfl rfl (by decide) fl_RX3_24 rfl dX3_copyFrom_117 ?_
  refine lv_iconst (v := 0) hx hb dX3_copyFrom_120 (by decide) ?_
  refine lv_aload_n hx hb dX3_copyFrom_121 rfl (lv_at hl 0 rfl) ?_
  refine getF (v := .ref (qt 11)) hx hb ht hown hK hP iTX3 0 11 rfl rfl (by decide) fl_RX3_24 rfl dX3_copyFrom_122 ?_
  refine lv_iconst (v := 0) hx hb dX3_copyFrom_125 (by decide) ?_
  refine lv_bipush (v := 6) hx hb dX3_copyFrom_126 (by decide) ?_
  refine va_copyi hx hb (by rw [hml]; exact hl.1.symm) hown (ht _ cp_RX3_55) (ht _ cp_nat) (ht _ cp_st) (ht _ cp_in) hK.1 hP hD hS 13 5 0 0 rfl rfl rfl rfl rfl (by decide) (by decide) (by decide) (by decide) (by decide) (fun i hi9 => rfl) (Nat.le_of_ble_eq_true rfl) (Nat.le_of_ble_eq_true rfl) dX3_copyFrom_128 (fun H locs hP hD hS => ?_)
  obtain ⟨g7, hP, hD⟩ : ∃ g7 : Nat → Int32, va_P G vwCl ((uX3 cs adt qt (upv 6 (Fo 6) (upv 5 (Fo 5) (upv 4 (Fo 4) (upv 3 (Fo 3) (upv 2 (Fo 2) (upv 1 (Fo 1) (upv 0 (Fo 0) Ft))))))) (vB 11 g7 (vB 10 g6 (vB 9 g5 (vB 8 g4 (vB 7 g3 At))))) Bt Dt) ++ (uX3 cs ado qo Fo Ao Bo Do)) H ∧ va_D A0 ((uX3 cs adt qt (upv 6 (Fo 6) (upv 5 (Fo 5) (upv 4 (Fo 4) (upv 3 (Fo 3) (upv 2 (Fo 2) (upv 1 (Fo 1) (upv 0 (Fo 0) Ft))))))) (vB 11 g7 (vB 10 g6 (vB 9 g5 (vB 8 g4 (vB 7 g3 At))))) Bt Dt) ++ (uX3 cs ado qo Fo Ao Bo Do)) := ⟨_, hP, hD⟩
  refine lv_aload_n hx hb dX3_copyFrom_131 rfl (lv_at hl 1 rfl) ?_
  refine getF (v := .ref (qo 12)) hx hb ht hown hK hP iTX3 8 12 rfl rfl (by decide) fl_RX3_27 rfl dX3_copyFrom_132 ?_
  refine lv_iconst (v := 0) hx hb dX3_copyFrom_135 (by decide) ?_
  refine lv_aload_n hx hb dX3_copyFrom_136 rfl (lv_at hl 0 rfl) ?_
  refine getF (v := .ref (qt 12)) hx hb ht hown hK hP iTX3 0 12 rfl rfl (by decide) fl_RX3_27 rfl dX3_copyFrom_137 ?_
  refine lv_iconst (v := 0) hx hb dX3_copyFrom_140 (by decide) ?_
  refine lv_bipush (v := 6) hx hb dX3_copyFrom_141 (by decide) ?_
  refine va_copyi hx hb (by rw [hml]; exact hl.1.symm) hown (ht _ cp_RX3_55) (ht _ cp_nat) (ht _ cp_st) (ht _ cp_in) hK.1 hP hD hS 14 6 0 0 rfl rfl rfl rfl rfl (by decide) (by decide) (by decide) (by decide) (by decide) (fun i hi9 => rfl) (Nat.le_of_ble_eq_true rfl) (Nat.le_of_ble_eq_true rfl) dX3_copyFrom_143 (fun H locs hP hD hS => ?_)
  obtain ⟨g8, hg8, hP, hD⟩ : ∃ g8 : Nat → Int32, AJ (0) 63 g8 ∧ va_P G vwCl ((uX3 cs adt qt (upv 6 (Fo 6) (upv 5 (Fo 5) (upv 4 (Fo 4) (upv 3 (Fo 3) (upv 2 (Fo 2) (upv 1 (Fo 1) (upv 0 (Fo 0) Ft))))))) (vB 12 g8 (vB 11 g7 (vB 10 g6 (vB 9 g5 (vB 8 g4 (vB 7 g3 At)))))) Bt Dt) ++ (uX3 cs ado qo Fo Ao Bo Do)) H ∧ va_D A0 ((uX3 cs adt qt (upv 6 (Fo 6) (upv 5 (Fo 5) (upv 4 (Fo 4) (upv 3 (Fo 3) (upv 2 (Fo 2) (upv 1 (Fo 1) (upv 0 (Fo 0) Ft))))))) (vB 12 g8 (vB 11 g7 (vB 10 g6 (vB 9 g5 (vB 8 g4 (vB 7 g3 At)))))) Bt Dt) ++ (uX3 cs ado qo Fo Ao Bo Do)) := ⟨_, AJ_cpy (fun j => (hIo.2 12 j)) (fun j => (hIt.2 12 j)), hP, hD⟩
  refine lv_aload_n hx hb dX3_copyFrom_146 rfl (lv_at hl 1 rfl) ?_
  refine getF (v := .ref (qo 13)) hx hb ht hown hK hP iTX3 8 13 rfl rfl (by decide) fl_RX3_30 rfl dX3_copyFrom_147 ?_
  refine lv_iconst (v := 0) hx hb dX3_copyFrom_150 (by decide) ?_
  refine lv_aload_n hx hb dX3_copyFrom_151 rfl (lv_at hl 0 rfl) ?_
  refine getF (v := .ref (qt 13)) hx hb ht hown hK hP iTX3 0 13 rfl rfl (by decide) fl_RX3_30 rfl dX3_copyFrom_152 ?_
  refine lv_iconst (v := 0) hx hb dX3_copyFrom_155 (by decide) ?_
  refine lv_bipush (v := 36) hx hb dX3_copyFrom_156 (by decide) ?_
  refine va_copyi hx hb (by rw [hml]; exact hl.1.symm) hown (ht _ cp_RX3_55) (ht _ cp_nat) (ht _ cp_st) (ht _ cp_in) hK.1 hP hD hS 15 7 0 0 rfl rfl rfl rfl rfl (by decide) (by decide) (by decide) (by decide) (by decide) (fun i hi9 => rfl) (Nat.le_of_ble_eq_true rfl) (Nat.le_of_ble_eq_true rfl) dX3_copyFrom_158 (fun H locs hP hD hS => ?_)
  obtain ⟨g9, hP, hD⟩ : ∃ g9 : Nat → Int32, va_P G vwCl ((uX3 cs adt qt (upv 6 (Fo 6) (upv 5 (Fo 5) (upv 4 (Fo 4) (upv 3 (Fo 3) (upv 2 (Fo 2) (upv 1 (Fo 1) (upv 0 (Fo 0) Ft))))))) (vB 13 g9 (vB 12 g8 (vB 11 g7 (vB 10 g6 (vB 9 g5 (vB 8 g4 (vB 7 g3 At))))))) Bt Dt) ++ (uX3 cs ado qo Fo Ao Bo Do)) H ∧ va_D A0 ((uX3 cs adt qt (upv 6 (Fo 6) (upv 5 (Fo 5) (upv 4 (Fo 4) (upv 3 (Fo 3) (upv 2 (Fo 2) (upv 1 (Fo 1) (upv 0 (Fo 0) Ft))))))) (vB 13 g9 (vB 12 g8 (vB 11 g7 (vB 10 g6 (vB 9 g5 (vB 8 g4 (vB 7 g3 At))))))) Bt Dt) ++ (uX3 cs ado qo Fo Ao Bo Do)) := ⟨_, hP, hD⟩
  exact retDw ((Fo 0), (Fo 1), (Fo 2), (Fo 3), (Fo 4), (Fo 5), (Fo 6), g3, g4, g5, g6, g7, g8, g9) hx hb hr hlk hP hD hS dX3_copyFrom_161 (⟨show (0 : Int) ≤ (Fo 5).toInt ∧ (Fo 5).toInt ≤ 7 by omega, show (0 : Int) ≤ (Fo 6).toInt ∧ (Fo 6).toInt ≤ 6 by omega, hg6, hg8, trivial⟩) (Nat.le_of_ble_eq_true rfl) (Nat.le_of_ble_eq_true rfl)

set_option maxRecDepth 100000 in
set_option maxHeartbeats 16000000 in
theorem sX3_addRoom (l : Launch) (G : va_G) (cs : Nat → ClassId) (adt : Nat) (qt : Nat → Nat) (Ft : Nat → Int32) (At : Nat → Nat → Int32) (Bt : Nat → Nat → Int64) (Dt : Int64) (hIt : IX3 Ft At) (a1 : Int32) (a2 : Int32) (a3 : Int32) : ∀ sz : Nat, Met l yX3_addRoom (wk yX3_addRoom cX3_addRoom 4 none) (rmk 0 0 0) (PreD G (TY cs) [.ref adt, .int a1, .int a2, .int a3] (uX3 cs adt qt Ft At Bt Dt) sz) ((QDw G (fun u : Int32 × (Nat → Int32) × (Nat → Int32) × (Nat → Int32) × (Nat → Int32) => ((0 : Int) ≤ u.1.toInt ∧ u.1.toInt ≤ 7) ∧ AJ (0) 127 u.2.2.2.2 ∧ (True)) (fun u : Int32 × (Nat → Int32) × (Nat → Int32) × (Nat → Int32) × (Nat → Int32) => (wX3 cs adt qt (upd Ft 5 u.1) (vA (vA (vA (vA At 7 u.2.1) 8 u.2.2.1) 9 u.2.2.2.1) 10 u.2.2.2.2) Bt Dt))) (va_A (uX3 cs adt qt Ft At Bt Dt) sz)) 0 0 (va_A (uX3 cs adt qt Ft At Bt Dt) sz) := by
  refine mkD (Qc := (QDw G (fun u : Int32 × (Nat → Int32) × (Nat → Int32) × (Nat → Int32) × (Nat → Int32) => ((0 : Int) ≤ u.1.toInt ∧ u.1.toInt ≤ 7) ∧ AJ (0) 127 u.2.2.2.2 ∧ (True)) (fun u : Int32 × (Nat → Int32) × (Nat → Int32) × (Nat → Int32) × (Nat → Int32) => (wX3 cs adt qt (upd Ft 5 u.1) (vA (vA (vA (vA At 7 u.2.1) 8 u.2.2.1) 9 u.2.2.2.1) 10 u.2.2.2.2) Bt Dt)))) (by decide) (by simp [lg_sl, Value.category]) ?_
  intro p e s m args below meth c ls A0 hx hb hml hr hlk hown hmn ht hK hP hD hS hA hl
  have hl : lv_has ls 4 [(0, .ref adt), (1, .int a1), (2, .int a2), (3, .int a3)] := hl
  refine lv_aload_n hx hb dX3_addRoom_0 rfl (lv_at hl 0 rfl) ?_
  refine getF (v := .int (Ft 5)) hx hb ht hown hK hP iTX3 0 5 rfl rfl (by decide) fl_RX3_49 rfl dX3_addRoom_1 ?_
  have zf1 : (0 : Int) ≤ (Ft 5).toInt ∧ (Ft 5).toInt ≤ 7 := hIt.1 5
  refine lv_bipush (v := 7) hx hb dX3_addRoom_4 (by decide) ?_
  refine lv_icmp_ge (tgt := 59) hx hb dX3_addRoom_6 (by decide) (fun c2 => ?_) (fun c2 => ?_)
  · have zc2 := leK (show (7 : Int32).toInt = 7 by decide) rfl c2
    exact retDw ((Ft 5), (At 7), (At 8), (At 9), (At 10)) hx hb hr hlk hP hD hS dX3_addRoom_59 (⟨hIt.1 5, fun j => hIt.2 10 j, trivial⟩) (Nat.le_of_ble_eq_true rfl) (Nat.le_of_ble_eq_true rfl)
  · have zc2 := nleK (show (7 : Int32).toInt = 7 by decide) rfl c2
    refine lv_aload_n hx hb dX3_addRoom_9 rfl (lv_at hl 0 rfl) ?_
    refine getF (v := .ref (qt 7)) hx hb ht hown hK hP iTX3 0 7 rfl rfl (by decide) fl_RX3_9 rfl dX3_addRoom_10 ?_
    refine lv_aload_n hx hb dX3_addRoom_13 rfl (lv_at hl 0 rfl) ?_
    refine getF (v := .int (Ft 5)) hx hb ht hown hK hP iTX3 0 5 rfl rfl (by decide) fl_RX3_49 rfl dX3_addRoom_14 ?_
    have zf3 : (0 : Int) ≤ (Ft 5).toInt ∧ (Ft 5).toInt ≤ 7 := hIt.1 5
    refine lv_iload_n hx hb dX3_addRoom_17 rfl (lv_at hl 1 rfl) ?_
    refine va_iast hx hb hK.1 hP hD hS 1 0 rfl rfl (inK rfl (by omega) (by decide)) dX3_addRoom_18 (fun H locs hP hD hS => ?_)
    obtain ⟨g4, hP, hD⟩ : ∃ g4 : Nat → Int32, va_P G vwCl (uX3 cs adt qt Ft (vB 7 g4 At) Bt Dt) H ∧ va_D A0 (uX3 cs adt qt Ft (vB 7 g4 At) Bt Dt) := ⟨upd (At 7) (Ft 5).toNatClampNeg a1, hP, hD⟩
    refine lv_aload_n hx hb dX3_addRoom_19 rfl (lv_at hl 0 rfl) ?_
    refine getF (v := .ref (qt 8)) hx hb ht hown hK hP iTX3 0 8 rfl rfl (by decide) fl_RX3_15 rfl dX3_addRoom_20 ?_
    refine lv_aload_n hx hb dX3_addRoom_23 rfl (lv_at hl 0 rfl) ?_
    refine getF (v := .int (Ft 5)) hx hb ht hown hK hP iTX3 0 5 rfl rfl (by decide) fl_RX3_49 rfl dX3_addRoom_24 ?_
    have zf5 : (0 : Int) ≤ (Ft 5).toInt ∧ (Ft 5).toInt ≤ 7 := hIt.1 5
    refine lv_iload_n hx hb dX3_addRoom_27 rfl (lv_at hl 2 rfl) ?_
    refine va_iast hx hb hK.1 hP hD hS 2 0 rfl rfl (inK rfl (by omega) (by decide)) dX3_addRoom_28 (fun H locs hP hD hS => ?_)
    obtain ⟨g6, hP, hD⟩ : ∃ g6 : Nat → Int32, va_P G vwCl (uX3 cs adt qt Ft (vB 8 g6 (vB 7 g4 At)) Bt Dt) H ∧ va_D A0 (uX3 cs adt qt Ft (vB 8 g6 (vB 7 g4 At)) Bt Dt) := ⟨upd (At 8) (Ft 5).toNatClampNeg a2, hP, hD⟩
    refine lv_aload_n hx hb dX3_addRoom_29 rfl (lv_at hl 0 rfl) ?_
    refine getF (v := .ref (qt 9)) hx hb ht hown hK hP iTX3 0 9 rfl rfl (by decide) fl_RX3_18 rfl dX3_addRoom_30 ?_
    refine lv_aload_n hx hb dX3_addRoom_33 rfl (lv_at hl 0 rfl) ?_
    refine getF (v := .int (Ft 5)) hx hb ht hown hK hP iTX3 0 5 rfl rfl (by decide) fl_RX3_49 rfl dX3_addRoom_34 ?_
    have zf7 : (0 : Int) ≤ (Ft 5).toInt ∧ (Ft 5).toInt ≤ 7 := hIt.1 5
    refine lv_iload_n hx hb dX3_addRoom_37 rfl (lv_at hl 3 rfl) ?_
    refine va_iast hx hb hK.1 hP hD hS 3 0 rfl rfl (inK rfl (by omega) (by decide)) dX3_addRoom_38 (fun H locs hP hD hS => ?_)
    obtain ⟨g8, hP, hD⟩ : ∃ g8 : Nat → Int32, va_P G vwCl (uX3 cs adt qt Ft (vB 9 g8 (vB 8 g6 (vB 7 g4 At))) Bt Dt) H ∧ va_D A0 (uX3 cs adt qt Ft (vB 9 g8 (vB 8 g6 (vB 7 g4 At))) Bt Dt) := ⟨upd (At 9) (Ft 5).toNatClampNeg a3, hP, hD⟩
    refine lv_aload_n hx hb dX3_addRoom_39 rfl (lv_at hl 0 rfl) ?_
    refine getF (v := .ref (qt 10)) hx hb ht hown hK hP iTX3 0 10 rfl rfl (by decide) fl_RX3_21 rfl dX3_addRoom_40 ?_
    refine lv_aload_n hx hb dX3_addRoom_43 rfl (lv_at hl 0 rfl) ?_
    refine getF (v := .int (Ft 5)) hx hb ht hown hK hP iTX3 0 5 rfl rfl (by decide) fl_RX3_49 rfl dX3_addRoom_44 ?_
    have zf9 : (0 : Int) ≤ (Ft 5).toInt ∧ (Ft 5).toInt ≤ 7 := hIt.1 5
    refine lv_iconst (v := 0) hx hb dX3_addRoom_47 (by decide) ?_
    refine va_iast hx hb hK.1 hP hD hS 4 0 rfl rfl (inK rfl (by omega) (by decide)) dX3_addRoom_48 (fun H locs hP hD hS => ?_)
    have hP : va_P G vwCl (uX3 cs adt qt Ft (vB 10 (upd (At 10) (Ft 5).toNatClampNeg (0 : Int32)) (vB 9 g8 (vB 8 g6 (vB 7 g4 At)))) Bt Dt) H := hP
    have hD : va_D A0 (uX3 cs adt qt Ft (vB 10 (upd (At 10) (Ft 5).toNatClampNeg (0 : Int32)) (vB 9 g8 (vB 8 g6 (vB 7 g4 At)))) Bt Dt) := hD
    obtain ⟨g10, eg10⟩ : ∃ z : Nat → Int32, z = upd (At 10) (Ft 5).toNatClampNeg (0 : Int32) := ⟨_, rfl⟩
    rw [← eg10] at hP hD
    have hg10 : AJ (0) 127 g10 := by rw [eg10]; exact AJ_upd (fun j => hIt.2 10 j) (show (0 : Int) ≤ (0 : Int32).toInt ∧ (0 : Int32).toInt ≤ 127 by decide)
    refine lv_aload_n hx hb dX3_addRoom_49 rfl (lv_at hl 0 rfl) ?_
    refine lv_dup hx hb dX3_addRoom_50 rfl ?_
    refine getF (v := .int (Ft 5)) hx hb ht hown hK hP iTX3 0 5 rfl rfl (by decide) fl_RX3_49 rfl dX3_addRoom_51 ?_
    have zf11 : (0 : Int) ≤ (Ft 5).toInt ∧ (Ft 5).toInt ≤ 7 := hIt.1 5
    refine lv_iconst (v := 1) hx hb dX3_addRoom_54 (by decide) ?_
    refine lv_iadd hx hb dX3_addRoom_55 ?_
    refine lv_topi (fun v12 ev12 => ?_)
    have tv12 : v12.toInt = (Ft 5).toInt + 1 := by rw [ev12]; exact addT rfl (show (1 : Int32).toInt = 1 by decide) (by omega)
    refine putD hx hb ht hown hK hP hD hS iTX3 tyX3 tyX3_ok nmX3 0 5 rfl rfl (by decide) fl_RX3_49 rfl rfl rfl (Nat.le_of_ble_eq_true rfl) dX3_addRoom_56 (fun H locs hP hD hS => ?_)
    have hP : va_P G vwCl (uX3 cs adt qt (upv 5 v12 Ft) (vB 10 g10 (vB 9 g8 (vB 8 g6 (vB 7 g4 At)))) Bt Dt) H := hP
    have hD : va_D A0 (uX3 cs adt qt (upv 5 v12 Ft) (vB 10 g10 (vB 9 g8 (vB 8 g6 (vB 7 g4 At)))) Bt Dt) := hD
    exact retDw (v12, g4, g6, g8, g10) hx hb hr hlk hP hD hS dX3_addRoom_59 (⟨show (0 : Int) ≤ v12.toInt ∧ v12.toInt ≤ 7 by omega, hg10, trivial⟩) (Nat.le_of_ble_eq_true rfl) (Nat.le_of_ble_eq_true rfl)

set_option maxRecDepth 100000 in
set_option maxHeartbeats 16000000 in
theorem sX3_addMan (l : Launch) (G : va_G) (cs : Nat → ClassId) (adt : Nat) (qt : Nat → Nat) (Ft : Nat → Int32) (At : Nat → Nat → Int32) (Bt : Nat → Nat → Int64) (Dt : Int64) (hIt : IX3 Ft At) (a1 : Int32) (a2 : Int32) (ha2 : (0 : Int) ≤ a2.toInt ∧ a2.toInt ≤ 63) : ∀ sz : Nat, Met l yX3_addMan (wk yX3_addMan cX3_addMan 4 none) (rmk 0 0 0) (PreD G (TY cs) [.ref adt, .int a1, .int a2] (uX3 cs adt qt Ft At Bt Dt) sz) ((QDw G (fun u : Int32 × (Nat → Int32) × (Nat → Int32) × (Nat → Int32) => ((0 : Int) ≤ u.1.toInt ∧ u.1.toInt ≤ 6) ∧ AJ (0) 63 u.2.2.1 ∧ (True)) (fun u : Int32 × (Nat → Int32) × (Nat → Int32) × (Nat → Int32) => (wX3 cs adt qt (upd Ft 6 u.1) (vA (vA (vA At 11 u.2.1) 12 u.2.2.1) 13 u.2.2.2) Bt Dt))) (va_A (uX3 cs adt qt Ft At Bt Dt) sz)) 0 0 (va_A (uX3 cs adt qt Ft At Bt Dt) sz) := by
  refine mkD (Qc := (QDw G (fun u : Int32 × (Nat → Int32) × (Nat → Int32) × (Nat → Int32) => ((0 : Int) ≤ u.1.toInt ∧ u.1.toInt ≤ 6) ∧ AJ (0) 63 u.2.2.1 ∧ (True)) (fun u : Int32 × (Nat → Int32) × (Nat → Int32) × (Nat → Int32) => (wX3 cs adt qt (upd Ft 6 u.1) (vA (vA (vA At 11 u.2.1) 12 u.2.2.1) 13 u.2.2.2) Bt Dt)))) (by decide) (by simp [lg_sl, Value.category]) ?_
  intro p e s m args below meth c ls A0 hx hb hml hr hlk hown hmn ht hK hP hD hS hA hl
  have hl : lv_has ls 4 [(0, .ref adt), (1, .int a1), (2, .int a2)] := hl
  refine lv_aload_n hx hb dX3_addMan_0 rfl (lv_at hl 0 rfl) ?_
  refine getF (v := .int (Ft 6)) hx hb ht hown hK hP iTX3 0 6 rfl rfl (by decide) fl_RX3_52 rfl dX3_addMan_1 ?_
  have zf1 : (0 : Int) ≤ (Ft 6).toInt ∧ (Ft 6).toInt ≤ 6 := hIt.1 6
  refine lv_bipush (v := 6) hx hb dX3_addMan_4 (by decide) ?_
  refine lv_icmp_ge (tgt := 103) hx hb dX3_addMan_6 (by decide) (fun c2 => ?_) (fun c2 => ?_)
  · have zc2 := leK (show (6 : Int32).toInt = 6 by decide) rfl c2
    exact retDw ((Ft 6), (At 11), (At 12), (At 13)) hx hb hr hlk hP hD hS dX3_addMan_103 (⟨hIt.1 6, fun j => hIt.2 12 j, trivial⟩) (Nat.le_of_ble_eq_true rfl) (Nat.le_of_ble_eq_true rfl)
  · have zc2 := nleK (show (6 : Int32).toInt = 6 by decide) rfl c2
    refine lv_aload_n hx hb dX3_addMan_9 rfl (lv_at hl 0 rfl) ?_
    refine getF (v := .ref (qt 11)) hx hb ht hown hK hP iTX3 0 11 rfl rfl (by decide) fl_RX3_24 rfl dX3_addMan_10 ?_
    refine lv_aload_n hx hb dX3_addMan_13 rfl (lv_at hl 0 rfl) ?_
    refine getF (v := .int (Ft 6)) hx hb ht hown hK hP iTX3 0 6 rfl rfl (by decide) fl_RX3_52 rfl dX3_addMan_14 ?_
    have zf3 : (0 : Int) ≤ (Ft 6).toInt ∧ (Ft 6).toInt ≤ 6 := hIt.1 6
    refine lv_iload_n hx hb dX3_addMan_17 rfl (lv_at hl 1 rfl) ?_
    refine va_iast hx hb hK.1 hP hD hS 5 0 rfl rfl (inK rfl (by omega) (by decide)) dX3_addMan_18 (fun H locs hP hD hS => ?_)
    obtain ⟨g4, hP, hD⟩ : ∃ g4 : Nat → Int32, va_P G vwCl (uX3 cs adt qt Ft (vB 11 g4 At) Bt Dt) H ∧ va_D A0 (uX3 cs adt qt Ft (vB 11 g4 At) Bt Dt) := ⟨upd (At 11) (Ft 6).toNatClampNeg a1, hP, hD⟩
    refine lv_aload_n hx hb dX3_addMan_19 rfl (lv_at hl 0 rfl) ?_
    refine getF (v := .ref (qt 12)) hx hb ht hown hK hP iTX3 0 12 rfl rfl (by decide) fl_RX3_27 rfl dX3_addMan_20 ?_
    refine lv_aload_n hx hb dX3_addMan_23 rfl (lv_at hl 0 rfl) ?_
    refine getF (v := .int (Ft 6)) hx hb ht hown hK hP iTX3 0 6 rfl rfl (by decide) fl_RX3_52 rfl dX3_addMan_24 ?_
    have zf5 : (0 : Int) ≤ (Ft 6).toInt ∧ (Ft 6).toInt ≤ 6 := hIt.1 6
    refine lv_iload_n hx hb dX3_addMan_27 rfl (lv_at hl 2 rfl) ?_
    refine va_iast hx hb hK.1 hP hD hS 6 0 rfl rfl (inK rfl (by omega) (by decide)) dX3_addMan_28 (fun H locs hP hD hS => ?_)
    have hP : va_P G vwCl (uX3 cs adt qt Ft (vB 12 (upd (At 12) (Ft 6).toNatClampNeg a2) (vB 11 g4 At)) Bt Dt) H := hP
    have hD : va_D A0 (uX3 cs adt qt Ft (vB 12 (upd (At 12) (Ft 6).toNatClampNeg a2) (vB 11 g4 At)) Bt Dt) := hD
    obtain ⟨g6, eg6⟩ : ∃ z : Nat → Int32, z = upd (At 12) (Ft 6).toNatClampNeg a2 := ⟨_, rfl⟩
    rw [← eg6] at hP hD
    have hg6 : AJ (0) 63 g6 := by rw [eg6]; exact AJ_upd (fun j => hIt.2 12 j) (show (0 : Int) ≤ a2.toInt ∧ a2.toInt ≤ 63 by omega)
    refine lv_iconst (v := 0) hx hb dX3_addMan_29 (by decide) ?_
    refine lv_istore_n (lv' := [(3, .int 0), (0, .ref adt), (1, .int a1), (2, .int a2)]) hx hb dX3_addMan_30 rfl hl (by decide) rfl (fun ls hl => ?_)
    have B31 : ∀ (n : Nat) (x31_3 : Int32) (at13_31 : (Nat → Int32)) (H : Heap) (locs : List Loc) (ls : Array Slot), (6 - x31_3.toInt).toNat < n → (0 : Int) ≤ x31_3.toInt ∧ x31_3.toInt ≤ 6 → va_P G vwCl (uX3 cs adt qt Ft (vB 13 at13_31 (vB 12 g6 (vB 11 g4 At))) Bt Dt) H → va_D A0 (uX3 cs adt qt Ft (vB 13 at13_31 (vB 12 g6 (vB 11 g4 At))) Bt Dt) → va_S A0 s.heap H locs → lv_has ls 4 [(0, .ref adt), (3, .int x31_3)] → W p l e (rmk 0 0 0) s m args below meth c H locs 0 0 (MQ below ((QDw G (fun u : Int32 × (Nat → Int32) × (Nat → Int32) × (Nat → Int32) => ((0 : Int) ≤ u.1.toInt ∧ u.1.toInt ≤ 6) ∧ AJ (0) 63 u.2.2.1 ∧ (True)) (fun u : Int32 × (Nat → Int32) × (Nat → Int32) × (Nat → Int32) => (wX3 cs adt qt (upd Ft 6 u.1) (vA (vA (vA At 11 u.2.1) 12 u.2.2.1) 13 u.2.2.2) Bt Dt))) A0) args s 0 0 A0) (F0 m 31 ls []) := by
      intro n
      induction n with
      | zero => intro x31_3 at13_31 H locs ls hmeas hx31_3 hP hD hS hl; exact absurd hmeas (Nat.not_lt_zero _)
      | succ n ih31 =>
        intro x31_3 at13_31 H locs ls hmeas hx31_3 hP hD hS hl
        refine lv_iload_n hx hb dX3_addMan_31 rfl (lv_at hl 1 rfl) ?_
        refine lv_aload_n hx hb dX3_addMan_32 rfl (lv_at hl 0 rfl) ?_
        refine getF (v := .int (Ft 6)) hx hb ht hown hK hP iTX3 0 6 rfl rfl (by decide) fl_RX3_52 rfl dX3_addMan_33 ?_
        have zf19001 : (0 : Int) ≤ (Ft 6).toInt ∧ (Ft 6).toInt ≤ 6 := hIt.1 6
        refine lv_icmp_gt (tgt := 75) hx hb dX3_addMan_36 (by decide) (fun c19002 => ?_) (fun c19002 => ?_)
        · have zc19002 := ltK rfl rfl c19002
          refine lv_aload_n hx hb dX3_addMan_75 rfl (lv_at hl 0 rfl) ?_
          refine getF (v := .ref (qt 13)) hx hb ht hown hK hP iTX3 0 13 rfl rfl (by decide) fl_RX3_30 rfl dX3_addMan_76 ?_
          refine lv_aload_n hx hb dX3_addMan_79 rfl (lv_at hl 0 rfl) ?_
          refine getF (v := .int (Ft 6)) hx hb ht hown hK hP iTX3 0 6 rfl rfl (by decide) fl_RX3_52 rfl dX3_addMan_80 ?_
          have zf19003 : (0 : Int) ≤ (Ft 6).toInt ∧ (Ft 6).toInt ≤ 6 := hIt.1 6
          refine lv_bipush (v := 6) hx hb dX3_addMan_83 (by decide) ?_
          refine lv_imul hx hb dX3_addMan_85 ?_
          refine lv_topi (fun v19004 ev19004 => ?_)
          have tv19004 : v19004.toInt = (Ft 6).toInt * 6 := by rw [ev19004]; exact mulT rfl (show (6 : Int32).toInt = 6 by decide) (by omega)
          refine lv_aload_n hx hb dX3_addMan_86 rfl (lv_at hl 0 rfl) ?_
          refine getF (v := .int (Ft 6)) hx hb ht hown hK hP iTX3 0 6 rfl rfl (by decide) fl_RX3_52 rfl dX3_addMan_87 ?_
          have zf19005 : (0 : Int) ≤ (Ft 6).toInt ∧ (Ft 6).toInt ≤ 6 := hIt.1 6
          refine lv_iadd hx hb dX3_addMan_90 ?_
          refine lv_topi (fun v19006 ev19006 => ?_)
          have tv19006 : v19006.toInt = v19004.toInt + (Ft 6).toInt := by rw [ev19006]; exact addT rfl rfl (by omega)
          refine lv_iconst (v := 1) hx hb dX3_addMan_91 (by decide) ?_
          refine va_iast hx hb hK.1 hP hD hS 7 0 rfl rfl (inK rfl (by omega) (by decide)) dX3_addMan_92 (fun H locs hP hD hS => ?_)
          obtain ⟨g19007, hP, hD⟩ : ∃ g19007 : Nat → Int32, va_P G vwCl (uX3 cs adt qt Ft (vB 13 g19007 (vB 12 g6 (vB 11 g4 At))) Bt Dt) H ∧ va_D A0 (uX3 cs adt qt Ft (vB 13 g19007 (vB 12 g6 (vB 11 g4 At))) Bt Dt) := ⟨upd at13_31 v19006.toNatClampNeg (1 : Int32), hP, hD⟩
          refine lv_aload_n hx hb dX3_addMan_93 rfl (lv_at hl 0 rfl) ?_
          refine lv_dup hx hb dX3_addMan_94 rfl ?_
          refine getF (v := .int (Ft 6)) hx hb ht hown hK hP iTX3 0 6 rfl rfl (by decide) fl_RX3_52 rfl dX3_addMan_95 ?_
          have zf19008 : (0 : Int) ≤ (Ft 6).toInt ∧ (Ft 6).toInt ≤ 6 := hIt.1 6
          refine lv_iconst (v := 1) hx hb dX3_addMan_98 (by decide) ?_
          refine lv_iadd hx hb dX3_addMan_99 ?_
          refine lv_topi (fun v19009 ev19009 => ?_)
          have tv19009 : v19009.toInt = (Ft 6).toInt + 1 := by rw [ev19009]; exact addT rfl (show (1 : Int32).toInt = 1 by decide) (by omega)
          refine putD hx hb ht hown hK hP hD hS iTX3 tyX3 tyX3_ok nmX3 0 6 rfl rfl (by decide) fl_RX3_52 rfl rfl rfl (Nat.le_of_ble_eq_true rfl) dX3_addMan_100 (fun H locs hP hD hS => ?_)
          have hP : va_P G vwCl (uX3 cs adt qt (upv 6 v19009 Ft) (vB 13 g19007 (vB 12 g6 (vB 11 g4 At))) Bt Dt) H := hP
          have hD : va_D A0 (uX3 cs adt qt (upv 6 v19009 Ft) (vB 13 g19007 (vB 12 g6 (vB 11 g4 At))) Bt Dt) := hD
          exact retDw (v19009, g4, g6, g19007) hx hb hr hlk hP hD hS dX3_addMan_103 (⟨show (0 : Int) ≤ v19009.toInt ∧ v19009.toInt ≤ 6 by omega, hg6, trivial⟩) (Nat.le_of_ble_eq_true rfl) (Nat.le_of_ble_eq_true rfl)
        · have zc19002 := nltK rfl rfl c19002
          refine lv_aload_n hx hb dX3_addMan_39 rfl (lv_at hl 0 rfl) ?_
          refine getF (v := .ref (qt 13)) hx hb ht hown hK hP iTX3 0 13 rfl rfl (by decide) fl_RX3_30 rfl dX3_addMan_40 ?_
          refine lv_aload_n hx hb dX3_addMan_43 rfl (lv_at hl 0 rfl) ?_
          refine getF (v := .int (Ft 6)) hx hb ht hown hK hP iTX3 0 6 rfl rfl (by decide) fl_RX3_52 rfl dX3_addMan_44 ?_
          have zf19010 : (0 : Int) ≤ (Ft 6).toInt ∧ (Ft 6).toInt ≤ 6 := hIt.1 6
          refine lv_bipush (v := 6) hx hb dX3_addMan_47 (by decide) ?_
          refine lv_imul hx hb dX3_addMan_49 ?_
          refine lv_topi (fun v19011 ev19011 => ?_)
          have tv19011 : v19011.toInt = (Ft 6).toInt * 6 := by rw [ev19011]; exact mulT rfl (show (6 : Int32).toInt = 6 by decide) (by omega)
          refine lv_iload_n hx hb dX3_addMan_50 rfl (lv_at hl 1 rfl) ?_
          refine lv_iadd hx hb dX3_addMan_51 ?_
          refine lv_topi (fun v19012 ev19012 => ?_)
          have tv19012 : v19012.toInt = v19011.toInt + x31_3.toInt := by rw [ev19012]; exact addT rfl rfl (by omega)
          refine lv_iconst (v := 0) hx hb dX3_addMan_52 (by decide) ?_
          refine va_iast hx hb hK.1 hP hD hS 7 0 rfl rfl (inK rfl (by omega) (by decide)) dX3_addMan_53 (fun H locs hP hD hS => ?_)
          obtain ⟨g19013, hP, hD⟩ : ∃ g19013 : Nat → Int32, va_P G vwCl (uX3 cs adt qt Ft (vB 13 g19013 (vB 12 g6 (vB 11 g4 At))) Bt Dt) H ∧ va_D A0 (uX3 cs adt qt Ft (vB 13 g19013 (vB 12 g6 (vB 11 g4 At))) Bt Dt) := ⟨upd at13_31 v19012.toNatClampNeg (0 : Int32), hP, hD⟩
          refine lv_aload_n hx hb dX3_addMan_54 rfl (lv_at hl 0 rfl) ?_
          refine getF (v := .ref (qt 13)) hx hb ht hown hK hP iTX3 0 13 rfl rfl (by decide) fl_RX3_30 rfl dX3_addMan_55 ?_
          refine lv_iload_n hx hb dX3_addMan_58 rfl (lv_at hl 1 rfl) ?_
          refine lv_bipush (v := 6) hx hb dX3_addMan_59 (by decide) ?_
          refine lv_imul hx hb dX3_addMan_61 ?_
          refine lv_topi (fun v19014 ev19014 => ?_)
          have tv19014 : v19014.toInt = x31_3.toInt * 6 := by rw [ev19014]; exact mulT rfl (show (6 : Int32).toInt = 6 by decide) (by omega)
          refine lv_aload_n hx hb dX3_addMan_62 rfl (lv_at hl 0 rfl) ?_
          refine getF (v := .int (Ft 6)) hx hb ht hown hK hP iTX3 0 6 rfl rfl (by decide) fl_RX3_52 rfl dX3_addMan_63 ?_
          have zf19015 : (0 : Int) ≤ (Ft 6).toInt ∧ (Ft 6).toInt ≤ 6 := hIt.1 6
          refine lv_iadd hx hb dX3_addMan_66 ?_
          refine lv_topi (fun v19016 ev19016 => ?_)
          have tv19016 : v19016.toInt = v19014.toInt + (Ft 6).toInt := by rw [ev19016]; exact addT rfl rfl (by omega)
          refine lv_iconst (v := 0) hx hb dX3_addMan_67 (by decide) ?_
          refine va_iast hx hb hK.1 hP hD hS 7 0 rfl rfl (inK rfl (by omega) (by decide)) dX3_addMan_68 (fun H locs hP hD hS => ?_)
          obtain ⟨g19017, hP, hD⟩ : ∃ g19017 : Nat → Int32, va_P G vwCl (uX3 cs adt qt Ft (vB 13 g19017 (vB 12 g6 (vB 11 g4 At))) Bt Dt) H ∧ va_D A0 (uX3 cs adt qt Ft (vB 13 g19017 (vB 12 g6 (vB 11 g4 At))) Bt Dt) := ⟨upd g19013 v19016.toNatClampNeg (0 : Int32), hP, hD⟩
          obtain ⟨v19018, ev19018⟩ : ∃ z : Int32, z = x31_3 + 1 := ⟨_, rfl⟩
          have tv19018 : v19018.toInt = x31_3.toInt + 1 := by rw [ev19018]; exact addT rfl (by decide) (by omega)
          refine lv_iinc (v := v19018) (lv' := [(3, .int v19018), (0, .ref adt)]) hx hb dX3_addMan_69 hl (k := 1) rfl (by rw [ev19018]; rfl) (by decide) rfl (fun ls hl => ?_)
          refine lv_goto (tgt := 31) hx hb dX3_addMan_72 (by decide) ?_
          exact ih31 v19018 g19017 H locs ls (by omega) (by omega) hP hD hS (lv_sub hl [1, 0] rfl)
    exact B31 _ 0 (At 13) H locs ls (Nat.lt_succ_self _) (by decide) hP hD hS (lv_sub hl [1, 0] rfl)

set_option maxRecDepth 100000 in
set_option maxHeartbeats 16000000 in
theorem sX3_tellSlate (l : Launch) (G : va_G) (cs : Nat → ClassId) (adt : Nat) (qt : Nat → Nat) (Ft : Nat → Int32) (At : Nat → Nat → Int32) (Bt : Nat → Nat → Int64) (Dt : Int64) (hIt : IX3 Ft At) (a1 : Int32) (a2 : Int32) (a3 : Int32) : ∀ sz : Nat, Met l yX3_tellSlate (wk yX3_tellSlate cX3_tellSlate 4 none) (rmk 0 0 0) (PreD G (TY cs) [.ref adt, .int a1, .int a2, .int a3] (uX3 cs adt qt Ft At Bt Dt) sz) ((QDw G (fun u : (Nat → Int32) => True) (fun u : (Nat → Int32) => (wX3 cs adt qt Ft (vA At 13 u) Bt Dt))) (va_A (uX3 cs adt qt Ft At Bt Dt) sz)) 0 0 (va_A (uX3 cs adt qt Ft At Bt Dt) sz) := by
  refine mkD (Qc := (QDw G (fun u : (Nat → Int32) => True) (fun u : (Nat → Int32) => (wX3 cs adt qt Ft (vA At 13 u) Bt Dt)))) (by decide) (by simp [lg_sl, Value.category]) ?_
  intro p e s m args below meth c ls A0 hx hb hml hr hlk hown hmn ht hK hP hD hS hA hl
  have hl : lv_has ls 4 [(0, .ref adt), (1, .int a1), (2, .int a2), (3, .int a3)] := hl
  refine lv_iload_n hx hb dX3_tellSlate_0 rfl (lv_at hl 1 rfl) ?_
  refine lv_if_lt (tgt := 36) hx hb dX3_tellSlate_1 (by decide) (fun c1 => ?_) (fun c1 => ?_)
  · have zc1 := ltK rfl (show (0 : Int32).toInt = 0 by decide) c1
    exact retDw (At 13) hx hb hr hlk hP hD hS dX3_tellSlate_36 (trivial) (Nat.le_of_ble_eq_true rfl) (Nat.le_of_ble_eq_true rfl)
  · have zc1 := nltK rfl (show (0 : Int32).toInt = 0 by decide) c1
    refine lv_iload_n hx hb dX3_tellSlate_4 rfl (lv_at hl 1 rfl) ?_
    refine lv_aload_n hx hb dX3_tellSlate_5 rfl (lv_at hl 0 rfl) ?_
    refine getF (v := .int (Ft 6)) hx hb ht hown hK hP iTX3 0 6 rfl rfl (by decide) fl_RX3_52 rfl dX3_tellSlate_6 ?_
    have zf2 : (0 : Int) ≤ (Ft 6).toInt ∧ (Ft 6).toInt ≤ 6 := hIt.1 6
    refine lv_icmp_ge (tgt := 36) hx hb dX3_tellSlate_9 (by decide) (fun c3 => ?_) (fun c3 => ?_)
    · have zc3 := leK rfl rfl c3
      exact retDw (At 13) hx hb hr hlk hP hD hS dX3_tellSlate_36 (trivial) (Nat.le_of_ble_eq_true rfl) (Nat.le_of_ble_eq_true rfl)
    · have zc3 := nleK rfl rfl c3
      refine lv_iload_n hx hb dX3_tellSlate_12 rfl (lv_at hl 2 rfl) ?_
      refine lv_if_lt (tgt := 36) hx hb dX3_tellSlate_13 (by decide) (fun c4 => ?_) (fun c4 => ?_)
      · have zc4 := ltK rfl (show (0 : Int32).toInt = 0 by decide) c4
        exact retDw (At 13) hx hb hr hlk hP hD hS dX3_tellSlate_36 (trivial) (Nat.le_of_ble_eq_true rfl) (Nat.le_of_ble_eq_true rfl)
      · have zc4 := nltK rfl (show (0 : Int32).toInt = 0 by decide) c4
        refine lv_iload_n hx hb dX3_tellSlate_16 rfl (lv_at hl 2 rfl) ?_
        refine lv_aload_n hx hb dX3_tellSlate_17 rfl (lv_at hl 0 rfl) ?_
        refine getF (v := .int (Ft 6)) hx hb ht hown hK hP iTX3 0 6 rfl rfl (by decide) fl_RX3_52 rfl dX3_tellSlate_18 ?_
        have zf5 : (0 : Int) ≤ (Ft 6).toInt ∧ (Ft 6).toInt ≤ 6 := hIt.1 6
        refine lv_icmp_ge (tgt := 36) hx hb dX3_tellSlate_21 (by decide) (fun c6 => ?_) (fun c6 => ?_)
        · have zc6 := leK rfl rfl c6
          exact retDw (At 13) hx hb hr hlk hP hD hS dX3_tellSlate_36 (trivial) (Nat.le_of_ble_eq_true rfl) (Nat.le_of_ble_eq_true rfl)
        · have zc6 := nleK rfl rfl c6
          refine lv_aload_n hx hb dX3_tellSlate_24 rfl (lv_at hl 0 rfl) ?_
          refine getF (v := .ref (qt 13)) hx hb ht hown hK hP iTX3 0 13 rfl rfl (by decide) fl_RX3_30 rfl dX3_tellSlate_25 ?_
          refine lv_iload_n hx hb dX3_tellSlate_28 rfl (lv_at hl 1 rfl) ?_
          refine lv_bipush (v := 6) hx hb dX3_tellSlate_29 (by decide) ?_
          refine lv_imul hx hb dX3_tellSlate_31 ?_
          refine lv_topi (fun v7 ev7 => ?_)
          have tv7 : v7.toInt = a1.toInt * 6 := by rw [ev7]; exact mulT rfl (show (6 : Int32).toInt = 6 by decide) (by omega)
          refine lv_iload_n hx hb dX3_tellSlate_32 rfl (lv_at hl 2 rfl) ?_
          refine lv_iadd hx hb dX3_tellSlate_33 ?_
          refine lv_topi (fun v8 ev8 => ?_)
          have tv8 : v8.toInt = v7.toInt + a2.toInt := by rw [ev8]; exact addT rfl rfl (by omega)
          refine lv_iload_n hx hb dX3_tellSlate_34 rfl (lv_at hl 3 rfl) ?_
          refine va_iast hx hb hK.1 hP hD hS 7 0 rfl rfl (inK rfl (by omega) (by decide)) dX3_tellSlate_35 (fun H locs hP hD hS => ?_)
          obtain ⟨g9, hP, hD⟩ : ∃ g9 : Nat → Int32, va_P G vwCl (uX3 cs adt qt Ft (vB 13 g9 At) Bt Dt) H ∧ va_D A0 (uX3 cs adt qt Ft (vB 13 g9 At) Bt Dt) := ⟨upd (At 13) v8.toNatClampNeg a3, hP, hD⟩
          exact retDw g9 hx hb hr hlk hP hD hS dX3_tellSlate_36 (trivial) (Nat.le_of_ble_eq_true rfl) (Nat.le_of_ble_eq_true rfl)

set_option maxRecDepth 100000 in
set_option maxHeartbeats 16000000 in
theorem sX3_openDoor (l : Launch) (G : va_G) (cs : Nat → ClassId) (adt : Nat) (qt : Nat → Nat) (Ft : Nat → Int32) (At : Nat → Nat → Int32) (Bt : Nat → Nat → Int64) (Dt : Int64) (hIt : IX3 Ft At) (a1 : Int32) (a2 : Int32) : ∀ sz : Nat, Met l yX3_openDoor (wk yX3_openDoor cX3_openDoor 3 none) (rmk 1 0 0) (PreD G (TY cs) [.ref adt, .int a1, .int a2] (uX3 cs adt qt Ft At Bt Dt) sz) ((QDw G (fun u : (Nat → Int32) => AJ (0) 127 u ∧ (True)) (fun u : (Nat → Int32) => (wX3 cs adt qt Ft (vA At 10 u) Bt Dt))) (va_A (uX3 cs adt qt Ft At Bt Dt) sz)) 0 0 (va_A (uX3 cs adt qt Ft At Bt Dt) sz) := by
  refine mkD (Qc := (QDw G (fun u : (Nat → Int32) => AJ (0) 127 u ∧ (True)) (fun u : (Nat → Int32) => (wX3 cs adt qt Ft (vA At 10 u) Bt Dt)))) (by decide) (by simp [lg_sl, Value.category]) ?_
  intro p e s m args below meth c ls A0 hx hb hml hr hlk hown hmn ht hK hP hD hS hA hl
  have hl : lv_has ls 3 [(0, .ref adt), (1, .int a1), (2, .int a2)] := hl
  refine lv_aload_n hx hb dX3_openDoor_0 rfl (lv_at hl 0 rfl) ?_
  refine lv_iload_n hx hb dX3_openDoor_1 rfl (lv_at hl 1 rfl) ?_
  refine behR (runVP (As := [.int a1]) (rest := []) ⟨hx, hb, hml, hown, ht⟩ (sX3_hasRoom l G cs adt qt Ft At Bt Dt hIt a1 ) okV_RX3_61 ⟨by decide, by decide⟩ hK hP [0, 1, 2, 3, 4, 5, 6, 7] rfl 0 rfl rfl hl.1 rfl (Nat.le_of_ble_eq_true rfl) dX3_openDoor_2 ⟨by decide, by decide⟩) hP hS hA (fun r1 H locs hr1 hP hS => ?_)
  have hr1 : (r1.toInt = 1 ∧ 0 ≤ a1.toInt ∧ a1.toInt < (Ft 5).toInt ∧ a1.toInt ≤ 6) ∨ r1.toInt = 0 := hr1
  refine lv_if_eq (tgt := 40) hx hb dX3_openDoor_5 (by decide) (fun c2 => ?_) (fun c2 => ?_)
  · have zc2 := eqK rfl (show (0 : Int32).toInt = 0 by decide) c2
    exact retDw (At 10) hx hb hr hlk hP hD hS dX3_openDoor_40 (⟨fun j => hIt.2 10 j, trivial⟩) (Nat.le_of_ble_eq_true rfl) (Nat.le_of_ble_eq_true rfl)
  · have zc2 := neK rfl (show (0 : Int32).toInt = 0 by decide) c2
    refine lv_aload_n hx hb dX3_openDoor_8 rfl (lv_at hl 0 rfl) ?_
    refine lv_iload_n hx hb dX3_openDoor_9 rfl (lv_at hl 2 rfl) ?_
    refine behR (runVP (As := [.int a2]) (rest := []) ⟨hx, hb, hml, hown, ht⟩ (sX3_hasRoom l G cs adt qt Ft At Bt Dt hIt a2 ) okV_RX3_61 ⟨by decide, by decide⟩ hK hP [0, 1, 2, 3, 4, 5, 6, 7] rfl 0 rfl rfl hl.1 rfl (Nat.le_of_ble_eq_true rfl) dX3_openDoor_10 ⟨by decide, by decide⟩) hP hS hA (fun r3 H locs hr3 hP hS => ?_)
    have hr3 : (r3.toInt = 1 ∧ 0 ≤ a2.toInt ∧ a2.toInt < (Ft 5).toInt ∧ a2.toInt ≤ 6) ∨ r3.toInt = 0 := hr3
    refine lv_if_eq (tgt := 40) hx hb dX3_openDoor_13 (by decide) (fun c4 => ?_) (fun c4 => ?_)
    · have zc4 := eqK rfl (show (0 : Int32).toInt = 0 by decide) c4
      exact retDw (At 10) hx hb hr hlk hP hD hS dX3_openDoor_40 (⟨fun j => hIt.2 10 j, trivial⟩) (Nat.le_of_ble_eq_true rfl) (Nat.le_of_ble_eq_true rfl)
    · have zc4 := neK rfl (show (0 : Int32).toInt = 0 by decide) c4
      refine lv_aload_n hx hb dX3_openDoor_16 rfl (lv_at hl 0 rfl) ?_
      refine getF (v := .ref (qt 10)) hx hb ht hown hK hP iTX3 0 10 rfl rfl (by decide) fl_RX3_21 rfl dX3_openDoor_17 ?_
      refine lv_iload_n hx hb dX3_openDoor_20 rfl (lv_at hl 1 rfl) ?_
      refine lv_dup2_11 hx hb dX3_openDoor_21 rfl rfl ?_
      refine va_iald hx hb hK.1 hP 4 0 rfl rfl (inK rfl (by omega) (by decide)) dX3_openDoor_22 ?_
      refine lv_topi (fun v5 ev5 => ?_)
      have zf6 : (0 : Int) ≤ v5.toInt ∧ v5.toInt ≤ 127 := by rw [ev5]; exact (hIt.2 10 _)
      refine lv_iconst (v := 1) hx hb dX3_openDoor_23 (by decide) ?_
      refine lv_iload_n hx hb dX3_openDoor_24 rfl (lv_at hl 2 rfl) ?_
      refine lv_ishl hx hb dX3_openDoor_25 ?_
      refine lv_topi (fun v7 ev7 => ?_)
      have tv7 : (1 : Int) ≤ v7.toInt ∧ v7.toInt ≤ 64 := by rw [ev7]; exact shlT 6 (by decide) rfl (by omega) (by decide)
      have pv7 : v7.toInt = P2 a2.toInt := by rw [ev7]; exact shlP rfl (by omega)
      refine lv_ior hx hb dX3_openDoor_26 ?_
      refine lv_topi (fun v8 ev8 => ?_)
      have tv8 : 0 ≤ v8.toInt ∧ v8.toInt ≤ 127 := by rw [ev8]; exact orA 7 rfl rfl (by omega) (by omega) (by decide)
      have uv8 : v5.toInt ≤ v8.toInt := by rw [ev8]; exact orGe rfl rfl (by omega) (by rw [← ev8]; omega)
      refine va_iast hx hb hK.1 hP hD hS 4 0 rfl rfl (inK rfl (by omega) (by decide)) dX3_openDoor_27 (fun H locs hP hD hS => ?_)
      have hP : va_P G vwCl (uX3 cs adt qt Ft (vB 10 (upd (At 10) a1.toNatClampNeg v8) At) Bt Dt) H := hP
      have hD : va_D A0 (uX3 cs adt qt Ft (vB 10 (upd (At 10) a1.toNatClampNeg v8) At) Bt Dt) := hD
      obtain ⟨g9, eg9⟩ : ∃ z : Nat → Int32, z = upd (At 10) a1.toNatClampNeg v8 := ⟨_, rfl⟩
      rw [← eg9] at hP hD
      have hg9 : AJ (0) 127 g9 := by rw [eg9]; exact AJ_upd (fun j => hIt.2 10 j) (show (0 : Int) ≤ v8.toInt ∧ v8.toInt ≤ 127 by omega)
      refine lv_aload_n hx hb dX3_openDoor_28 rfl (lv_at hl 0 rfl) ?_
      refine getF (v := .ref (qt 10)) hx hb ht hown hK hP iTX3 0 10 rfl rfl (by decide) fl_RX3_21 rfl dX3_openDoor_29 ?_
      refine lv_iload_n hx hb dX3_openDoor_32 rfl (lv_at hl 2 rfl) ?_
      refine lv_dup2_11 hx hb dX3_openDoor_33 rfl rfl ?_
      refine va_iald hx hb hK.1 hP 4 0 rfl rfl (inK rfl (by omega) (by decide)) dX3_openDoor_34 ?_
      refine lv_topi (fun v10 ev10 => ?_)
      have zf11 : (0 : Int) ≤ v10.toInt ∧ v10.toInt ≤ 127 := by rw [ev10]; exact (hg9 _)
      refine lv_iconst (v := 1) hx hb dX3_openDoor_35 (by decide) ?_
      refine lv_iload_n hx hb dX3_openDoor_36 rfl (lv_at hl 1 rfl) ?_
      refine lv_ishl hx hb dX3_openDoor_37 ?_
      refine lv_topi (fun v12 ev12 => ?_)
      have tv12 : (1 : Int) ≤ v12.toInt ∧ v12.toInt ≤ 64 := by rw [ev12]; exact shlT 6 (by decide) rfl (by omega) (by decide)
      have pv12 : v12.toInt = P2 a1.toInt := by rw [ev12]; exact shlP rfl (by omega)
      refine lv_ior hx hb dX3_openDoor_38 ?_
      refine lv_topi (fun v13 ev13 => ?_)
      have tv13 : 0 ≤ v13.toInt ∧ v13.toInt ≤ 127 := by rw [ev13]; exact orA 7 rfl rfl (by omega) (by omega) (by decide)
      have uv13 : v10.toInt ≤ v13.toInt := by rw [ev13]; exact orGe rfl rfl (by omega) (by rw [← ev13]; omega)
      refine va_iast hx hb hK.1 hP hD hS 4 0 rfl rfl (inK rfl (by omega) (by decide)) dX3_openDoor_39 (fun H locs hP hD hS => ?_)
      have hP : va_P G vwCl (uX3 cs adt qt Ft (vB 10 (upd g9 a2.toNatClampNeg v13) At) Bt Dt) H := hP
      have hD : va_D A0 (uX3 cs adt qt Ft (vB 10 (upd g9 a2.toNatClampNeg v13) At) Bt Dt) := hD
      obtain ⟨g14, eg14⟩ : ∃ z : Nat → Int32, z = upd g9 a2.toNatClampNeg v13 := ⟨_, rfl⟩
      rw [← eg14] at hP hD
      have hg14 : AJ (0) 127 g14 := by rw [eg14]; exact AJ_upd hg9 (show (0 : Int) ≤ v13.toInt ∧ v13.toInt ≤ 127 by omega)
      exact retDw g14 hx hb hr hlk hP hD hS dX3_openDoor_40 (⟨hg14, trivial⟩) (Nat.le_of_ble_eq_true rfl) (Nat.le_of_ble_eq_true rfl)

