set_option maxRecDepth 100000 in
set_option maxHeartbeats 16000000 in
theorem sX10_row_0 (l : Launch) (G : va_G) (cs : Nat → ClassId) (adm : Nat) (qm : Nat → Nat) (Fm : Nat → Int32) (Am : Nat → Nat → Int32) (Bm : Nat → Nat → Int64) (Dm : Int64) (hIm : IX10 Fm Am) (qr0 : Nat → Nat) (Fr0 : Nat → Int32) (Ar0 : Nat → Nat → Int32) (Br0 : Nat → Nat → Int64) (Dr0 : Int64) (hIr0 : IX7 Fr0 Ar0) (a2 : Int32) (a3 : Int32) : ∀ sz : Nat, Met l yX10_row (wk yX10_row cX10_row 4 (some .int)) (rmk 2 0 0) (PreD G (TY cs) [.ref adm, .int 0, .int a2, .int a3] ((uX10 cs adm qm Fm Am Bm Dm) ++ (uX7 cs (qm 20) qr0 Fr0 Ar0 Br0 Dr0)) sz) ((QDi G (fun (r : Int32) (u : Int32 × Int32 × Int32 × (Nat → Int64)) => ((0 : Int) ≤ u.1.toInt ∧ u.1.toInt ≤ 1) ∧ ((0 : Int) ≤ u.2.2.1.toInt ∧ u.2.2.1.toInt ≤ 60) ∧ ((r.toInt = -2 ∧ (a2.toInt < 0 ∨ 3 < a2.toInt ∨ 60 < a3.toInt) ∧ u.1.toInt = (Fr0 1).toInt ∧ u.2.1.toInt = (Fr0 2).toInt ∧ u.2.2.1.toInt = (Fr0 3).toInt) ∨ (r.toInt = -3 ∧ 0 ≤ a2.toInt ∧ a2.toInt ≤ 3 ∧ a3.toInt < 0 ∧ u.1.toInt = (Fr0 1).toInt ∧ u.2.1.toInt = (Fr0 2).toInt ∧ u.2.2.1.toInt = (Fr0 3).toInt) ∨ (r.toInt = 0 ∧ 0 ≤ a2.toInt ∧ a2.toInt ≤ 3 ∧ 0 ≤ a3.toInt ∧ a3.toInt ≤ 60 ∧ u.1.toInt = 1 ∧ u.2.1.toInt = a2.toInt ∧ u.2.2.1.toInt = a3.toInt))) (fun u : Int32 × Int32 × Int32 × (Nat → Int64) => ((uX10 cs adm qm Fm Am Bm Dm) ++ (wX7 cs (qm 20) qr0 (upd (upd (upd Fr0 1 u.1) 2 u.2.1) 3 u.2.2.1) Ar0 (vA Br0 0 u.2.2.2) Dr0)))) (va_A ((uX10 cs adm qm Fm Am Bm Dm) ++ (uX7 cs (qm 20) qr0 Fr0 Ar0 Br0 Dr0)) sz)) 0 0 (va_A ((uX10 cs adm qm Fm Am Bm Dm) ++ (uX7 cs (qm 20) qr0 Fr0 Ar0 Br0 Dr0)) sz) := by
  refine mkD (Qc := (QDi G (fun (r : Int32) (u : Int32 × Int32 × Int32 × (Nat → Int64)) => ((0 : Int) ≤ u.1.toInt ∧ u.1.toInt ≤ 1) ∧ ((0 : Int) ≤ u.2.2.1.toInt ∧ u.2.2.1.toInt ≤ 60) ∧ ((r.toInt = -2 ∧ (a2.toInt < 0 ∨ 3 < a2.toInt ∨ 60 < a3.toInt) ∧ u.1.toInt = (Fr0 1).toInt ∧ u.2.1.toInt = (Fr0 2).toInt ∧ u.2.2.1.toInt = (Fr0 3).toInt) ∨ (r.toInt = -3 ∧ 0 ≤ a2.toInt ∧ a2.toInt ≤ 3 ∧ a3.toInt < 0 ∧ u.1.toInt = (Fr0 1).toInt ∧ u.2.1.toInt = (Fr0 2).toInt ∧ u.2.2.1.toInt = (Fr0 3).toInt) ∨ (r.toInt = 0 ∧ 0 ≤ a2.toInt ∧ a2.toInt ≤ 3 ∧ 0 ≤ a3.toInt ∧ a3.toInt ≤ 60 ∧ u.1.toInt = 1 ∧ u.2.1.toInt = a2.toInt ∧ u.2.2.1.toInt = a3.toInt))) (fun u : Int32 × Int32 × Int32 × (Nat → Int64) => ((uX10 cs adm qm Fm Am Bm Dm) ++ (wX7 cs (qm 20) qr0 (upd (upd (upd Fr0 1 u.1) 2 u.2.1) 3 u.2.2.1) Ar0 (vA Br0 0 u.2.2.2) Dr0))))) (by decide) (by simp [lg_sl, Value.category]) ?_
  intro p e s m args below meth c ls A0 hx hb hml hr hlk hown hmn ht hK hP hD hS hA hl
  have hl : lv_has ls 4 [(0, .ref adm), (1, .int 0), (2, .int a2), (3, .int a3)] := hl
  refine lv_aload_n hx hb dX10_row_0 rfl (lv_at hl 0 rfl) ?_
  refine lv_iload_n hx hb dX10_row_1 rfl (lv_at hl 1 rfl) ?_
  refine behR (runVP (As := [.int 0]) (rest := []) ⟨hx, hb, hml, hown, ht⟩ (sX10_isSlot l G cs adm qm Fm Am Bm Dm hIm 0 ) okV_RX10_348 ⟨by decide, by decide⟩ hK hP [0, 1, 2] rfl 0 rfl rfl hl.1 rfl (Nat.le_of_ble_eq_true rfl) dX10_row_2 ⟨by decide, by decide⟩) hP hS hA (fun r1 H locs hr1 hP hS => ?_)
  have kk2 : (0 : Int32).toInt = 0 := by decide
  have hr1 : (r1.toInt = 1 ∧ 0 ≤ (0 : Int32).toInt ∧ (0 : Int32).toInt ≤ 3) ∨ (r1.toInt = 0 ∧ ((0 : Int32).toInt < 0 ∨ 3 < (0 : Int32).toInt)) := hr1
  refine lv_if_eq (tgt := 23) hx hb dX10_row_5 (by decide) (fun c3 => ?_) (fun c3 => ?_)
  · have zc3 := eqK rfl (show (0 : Int32).toInt = 0 by decide) c3
    refine lv_bipush (v := (-2)) hx hb dX10_row_23 (by decide) ?_
    exact retDi ((Fr0 1), (Fr0 2), (Fr0 3), (Br0 0)) hx hb hr hlk hP hD hS dX10_row_25 (⟨hIr0.1 1, hIr0.1 3, show ((-2 : Int32).toInt = -2 ∧ (a2.toInt < 0 ∨ 3 < a2.toInt ∨ 60 < a3.toInt) ∧ (Fr0 1).toInt = (Fr0 1).toInt ∧ (Fr0 2).toInt = (Fr0 2).toInt ∧ (Fr0 3).toInt = (Fr0 3).toInt) ∨ ((-2 : Int32).toInt = -3 ∧ 0 ≤ a2.toInt ∧ a2.toInt ≤ 3 ∧ a3.toInt < 0 ∧ (Fr0 1).toInt = (Fr0 1).toInt ∧ (Fr0 2).toInt = (Fr0 2).toInt ∧ (Fr0 3).toInt = (Fr0 3).toInt) ∨ ((-2 : Int32).toInt = 0 ∧ 0 ≤ a2.toInt ∧ a2.toInt ≤ 3 ∧ 0 ≤ a3.toInt ∧ a3.toInt ≤ 60 ∧ (Fr0 1).toInt = 1 ∧ (Fr0 2).toInt = a2.toInt ∧ (Fr0 3).toInt = a3.toInt) by have kk : (-2 : Int32).toInt = -2 := (by decide); omega⟩) (Nat.le_of_ble_eq_true rfl) (Nat.le_of_ble_eq_true rfl)
  · have zc3 := neK rfl (show (0 : Int32).toInt = 0 by decide) c3
    refine lv_iload_n hx hb dX10_row_8 rfl (lv_at hl 2 rfl) ?_
    refine lv_if_lt (tgt := 23) hx hb dX10_row_9 (by decide) (fun c4 => ?_) (fun c4 => ?_)
    · have zc4 := ltK rfl (show (0 : Int32).toInt = 0 by decide) c4
      refine lv_bipush (v := (-2)) hx hb dX10_row_23 (by decide) ?_
      exact retDi ((Fr0 1), (Fr0 2), (Fr0 3), (Br0 0)) hx hb hr hlk hP hD hS dX10_row_25 (⟨hIr0.1 1, hIr0.1 3, show ((-2 : Int32).toInt = -2 ∧ (a2.toInt < 0 ∨ 3 < a2.toInt ∨ 60 < a3.toInt) ∧ (Fr0 1).toInt = (Fr0 1).toInt ∧ (Fr0 2).toInt = (Fr0 2).toInt ∧ (Fr0 3).toInt = (Fr0 3).toInt) ∨ ((-2 : Int32).toInt = -3 ∧ 0 ≤ a2.toInt ∧ a2.toInt ≤ 3 ∧ a3.toInt < 0 ∧ (Fr0 1).toInt = (Fr0 1).toInt ∧ (Fr0 2).toInt = (Fr0 2).toInt ∧ (Fr0 3).toInt = (Fr0 3).toInt) ∨ ((-2 : Int32).toInt = 0 ∧ 0 ≤ a2.toInt ∧ a2.toInt ≤ 3 ∧ 0 ≤ a3.toInt ∧ a3.toInt ≤ 60 ∧ (Fr0 1).toInt = 1 ∧ (Fr0 2).toInt = a2.toInt ∧ (Fr0 3).toInt = a3.toInt) by have kk : (-2 : Int32).toInt = -2 := (by decide); omega⟩) (Nat.le_of_ble_eq_true rfl) (Nat.le_of_ble_eq_true rfl)
    · have zc4 := nltK rfl (show (0 : Int32).toInt = 0 by decide) c4
      refine lv_iload_n hx hb dX10_row_12 rfl (lv_at hl 2 rfl) ?_
      refine lv_iconst (v := 3) hx hb dX10_row_13 (by decide) ?_
      refine lv_icmp_gt (tgt := 23) hx hb dX10_row_14 (by decide) (fun c5 => ?_) (fun c5 => ?_)
      · have zc5 := ltK (show (3 : Int32).toInt = 3 by decide) rfl c5
        refine lv_bipush (v := (-2)) hx hb dX10_row_23 (by decide) ?_
        exact retDi ((Fr0 1), (Fr0 2), (Fr0 3), (Br0 0)) hx hb hr hlk hP hD hS dX10_row_25 (⟨hIr0.1 1, hIr0.1 3, show ((-2 : Int32).toInt = -2 ∧ (a2.toInt < 0 ∨ 3 < a2.toInt ∨ 60 < a3.toInt) ∧ (Fr0 1).toInt = (Fr0 1).toInt ∧ (Fr0 2).toInt = (Fr0 2).toInt ∧ (Fr0 3).toInt = (Fr0 3).toInt) ∨ ((-2 : Int32).toInt = -3 ∧ 0 ≤ a2.toInt ∧ a2.toInt ≤ 3 ∧ a3.toInt < 0 ∧ (Fr0 1).toInt = (Fr0 1).toInt ∧ (Fr0 2).toInt = (Fr0 2).toInt ∧ (Fr0 3).toInt = (Fr0 3).toInt) ∨ ((-2 : Int32).toInt = 0 ∧ 0 ≤ a2.toInt ∧ a2.toInt ≤ 3 ∧ 0 ≤ a3.toInt ∧ a3.toInt ≤ 60 ∧ (Fr0 1).toInt = 1 ∧ (Fr0 2).toInt = a2.toInt ∧ (Fr0 3).toInt = a3.toInt) by have kk : (-2 : Int32).toInt = -2 := (by decide); omega⟩) (Nat.le_of_ble_eq_true rfl) (Nat.le_of_ble_eq_true rfl)
      · have zc5 := nltK (show (3 : Int32).toInt = 3 by decide) rfl c5
        refine lv_iload_n hx hb dX10_row_17 rfl (lv_at hl 3 rfl) ?_
        refine lv_bipush (v := 60) hx hb dX10_row_18 (by decide) ?_
        refine lv_icmp_le (tgt := 26) hx hb dX10_row_20 (by decide) (fun c6 => ?_) (fun c6 => ?_)
        · have zc6 := leK rfl (show (60 : Int32).toInt = 60 by decide) c6
          refine lv_iload_n hx hb dX10_row_26 rfl (lv_at hl 3 rfl) ?_
          refine lv_if_ge (tgt := 33) hx hb dX10_row_27 (by decide) (fun c7 => ?_) (fun c7 => ?_)
          · have zc7 := leK (show (0 : Int32).toInt = 0 by decide) rfl c7
            refine lv_aload_n hx hb dX10_row_33 rfl (lv_at hl 0 rfl) ?_
            refine getF (v := .ref (qm 5)) hx hb ht hown hK hP iTX10 0 5 rfl rfl (by decide) fl_RX10_41 rfl dX10_row_34 ?_
            refine lv_iload_n hx hb dX10_row_37 rfl (lv_at hl 1 rfl) ?_
            refine va_aldq hx hb hK.1 hP 2 5 rfl rfl (show ¬ (_ ∨ _) by decide) dX10_row_38 ?_
            refine W.eq (g2 := F0 m 39 ls [.ref (qm 20)]) rfl ?_
            refine lv_iload_n hx hb dX10_row_39 rfl (lv_at hl 2 rfl) ?_
            refine lv_iload_n hx hb dX10_row_40 rfl (lv_at hl 3 rfl) ?_
            refine behDw (wr := (uX10 cs adm qm Fm Am Bm Dm)) (runVD (As := [.int a2, .int a3]) (rest := []) ⟨hx, hb, hml, hown, ht⟩ (sX7_make l G cs (qm 20) qr0 Fr0 Ar0 Br0 Dr0 hIr0 a2 a3 (by omega)) okV_RX10_351 ⟨by decide, by decide⟩ hK hP hD [3, 4] rfl (by decide) rfl 3 rfl rfl hl.1 rfl (Nat.le_of_ble_eq_true rfl) dX10_row_41 ⟨(Nat.le_of_ble_eq_true rfl), (Nat.le_of_ble_eq_true rfl)⟩) hP hD hS hA [3, 4] [0, 1, 2] rfl rfl (by decide) (by decide) (fun u H locs hu hP hD hS => ?_)
            obtain ⟨x8, x9, x10, y11⟩ := u
            obtain ⟨hbx8, hbx10, hr12⟩ := hu
            have hbx8 : (0 : Int) ≤ x8.toInt ∧ x8.toInt ≤ 1 := hbx8
            have hbx10 : (0 : Int) ≤ x10.toInt ∧ x10.toInt ≤ 60 := hbx10
            have hr12 : x8.toInt = 1 ∧ x9.toInt = a2.toInt ∧ x10.toInt = a3.toInt := hr12
            have hP : va_P G vwCl ((uX10 cs adm qm Fm Am Bm Dm) ++ (uX7 cs (qm 20) qr0 (upv 3 x10 (upv 2 x9 (upv 1 x8 Fr0))) Ar0 (vB 0 y11 Br0) Dr0)) H := hP.sub [0, 1, 2, 3, 4] rfl
            have hD : va_D A0 ((uX10 cs adm qm Fm Am Bm Dm) ++ (uX7 cs (qm 20) qr0 (upv 3 x10 (upv 2 x9 (upv 1 x8 Fr0))) Ar0 (vB 0 y11 Br0) Dr0)) := hD.sub [0, 1, 2, 3, 4] (by decide) rfl
            refine lv_iconst (v := 0) hx hb dX10_row_44 (by decide) ?_
            exact retDi (x8, x9, x10, y11) hx hb hr hlk hP hD hS dX10_row_45 (⟨show (0 : Int) ≤ x8.toInt ∧ x8.toInt ≤ 1 by omega, show (0 : Int) ≤ x10.toInt ∧ x10.toInt ≤ 60 by omega, show ((0 : Int32).toInt = -2 ∧ (a2.toInt < 0 ∨ 3 < a2.toInt ∨ 60 < a3.toInt) ∧ x8.toInt = (Fr0 1).toInt ∧ x9.toInt = (Fr0 2).toInt ∧ x10.toInt = (Fr0 3).toInt) ∨ ((0 : Int32).toInt = -3 ∧ 0 ≤ a2.toInt ∧ a2.toInt ≤ 3 ∧ a3.toInt < 0 ∧ x8.toInt = (Fr0 1).toInt ∧ x9.toInt = (Fr0 2).toInt ∧ x10.toInt = (Fr0 3).toInt) ∨ ((0 : Int32).toInt = 0 ∧ 0 ≤ a2.toInt ∧ a2.toInt ≤ 3 ∧ 0 ≤ a3.toInt ∧ a3.toInt ≤ 60 ∧ x8.toInt = 1 ∧ x9.toInt = a2.toInt ∧ x10.toInt = a3.toInt) by have kk : (0 : Int32).toInt = 0 := (by decide); omega⟩) (Nat.le_of_ble_eq_true rfl) (Nat.le_of_ble_eq_true rfl)
          · have zc7 := nleK (show (0 : Int32).toInt = 0 by decide) rfl c7
            refine lv_bipush (v := (-3)) hx hb dX10_row_30 (by decide) ?_
            exact retDi ((Fr0 1), (Fr0 2), (Fr0 3), (Br0 0)) hx hb hr hlk hP hD hS dX10_row_32 (⟨hIr0.1 1, hIr0.1 3, show ((-3 : Int32).toInt = -2 ∧ (a2.toInt < 0 ∨ 3 < a2.toInt ∨ 60 < a3.toInt) ∧ (Fr0 1).toInt = (Fr0 1).toInt ∧ (Fr0 2).toInt = (Fr0 2).toInt ∧ (Fr0 3).toInt = (Fr0 3).toInt) ∨ ((-3 : Int32).toInt = -3 ∧ 0 ≤ a2.toInt ∧ a2.toInt ≤ 3 ∧ a3.toInt < 0 ∧ (Fr0 1).toInt = (Fr0 1).toInt ∧ (Fr0 2).toInt = (Fr0 2).toInt ∧ (Fr0 3).toInt = (Fr0 3).toInt) ∨ ((-3 : Int32).toInt = 0 ∧ 0 ≤ a2.toInt ∧ a2.toInt ≤ 3 ∧ 0 ≤ a3.toInt ∧ a3.toInt ≤ 60 ∧ (Fr0 1).toInt = 1 ∧ (Fr0 2).toInt = a2.toInt ∧ (Fr0 3).toInt = a3.toInt) by have kk : (-3 : Int32).toInt = -3 := (by decide); omega⟩) (Nat.le_of_ble_eq_true rfl) (Nat.le_of_ble_eq_true rfl)
        · have zc6 := nleK rfl (show (60 : Int32).toInt = 60 by decide) c6
          refine lv_bipush (v := (-2)) hx hb dX10_row_23 (by decide) ?_
          exact retDi ((Fr0 1), (Fr0 2), (Fr0 3), (Br0 0)) hx hb hr hlk hP hD hS dX10_row_25 (⟨hIr0.1 1, hIr0.1 3, show ((-2 : Int32).toInt = -2 ∧ (a2.toInt < 0 ∨ 3 < a2.toInt ∨ 60 < a3.toInt) ∧ (Fr0 1).toInt = (Fr0 1).toInt ∧ (Fr0 2).toInt = (Fr0 2).toInt ∧ (Fr0 3).toInt = (Fr0 3).toInt) ∨ ((-2 : Int32).toInt = -3 ∧ 0 ≤ a2.toInt ∧ a2.toInt ≤ 3 ∧ a3.toInt < 0 ∧ (Fr0 1).toInt = (Fr0 1).toInt ∧ (Fr0 2).toInt = (Fr0 2).toInt ∧ (Fr0 3).toInt = (Fr0 3).toInt) ∨ ((-2 : Int32).toInt = 0 ∧ 0 ≤ a2.toInt ∧ a2.toInt ≤ 3 ∧ 0 ≤ a3.toInt ∧ a3.toInt ≤ 60 ∧ (Fr0 1).toInt = 1 ∧ (Fr0 2).toInt = a2.toInt ∧ (Fr0 3).toInt = a3.toInt) by have kk : (-2 : Int32).toInt = -2 := (by decide); omega⟩) (Nat.le_of_ble_eq_true rfl) (Nat.le_of_ble_eq_true rfl)

set_option maxRecDepth 100000 in
set_option maxHeartbeats 16000000 in
theorem sX10_write_0 (l : Launch) (G : va_G) (cs : Nat → ClassId) (adm : Nat) (qm : Nat → Nat) (Fm : Nat → Int32) (Am : Nat → Nat → Int32) (Bm : Nat → Nat → Int64) (Dm : Int64) (hIm : IX10 Fm Am) (qr0 : Nat → Nat) (Fr0 : Nat → Int32) (Ar0 : Nat → Nat → Int32) (Br0 : Nat → Nat → Int64) (Dr0 : Int64) (hIr0 : IX7 Fr0 Ar0) (a2 : Int32) (a3 : Int64) : ∀ sz : Nat, Met l yX10_write (wk yX10_write cX10_write 6 (some .int)) (rmk 1 0 0) (PreD G (TY cs) [.ref adm, .int 0, .int a2, .long a3] ((uX10 cs adm qm Fm Am Bm Dm) ++ (uX7 cs (qm 20) qr0 Fr0 Ar0 Br0 Dr0)) sz) ((QDi G (fun (r : Int32) (u : (Nat → Int64)) => ((Fr0 1).toInt = 0 ∧ r.toInt = -6) ∨ (¬ (Fr0 1).toInt = 0 ∧ (a2.toInt < 0 ∨ (Fr0 3).toInt ≤ a2.toInt) ∧ r.toInt = -7) ∨ (¬ (Fr0 1).toInt = 0 ∧ 0 ≤ a2.toInt ∧ a2.toInt < (Fr0 3).toInt ∧ r.toInt = 0)) (fun u : (Nat → Int64) => ((uX10 cs adm qm Fm Am Bm Dm) ++ (wX7 cs (qm 20) qr0 Fr0 Ar0 (vA Br0 0 u) Dr0)))) (va_A ((uX10 cs adm qm Fm Am Bm Dm) ++ (uX7 cs (qm 20) qr0 Fr0 Ar0 Br0 Dr0)) sz)) 0 0 (va_A ((uX10 cs adm qm Fm Am Bm Dm) ++ (uX7 cs (qm 20) qr0 Fr0 Ar0 Br0 Dr0)) sz) := by
  refine mkD (Qc := (QDi G (fun (r : Int32) (u : (Nat → Int64)) => ((Fr0 1).toInt = 0 ∧ r.toInt = -6) ∨ (¬ (Fr0 1).toInt = 0 ∧ (a2.toInt < 0 ∨ (Fr0 3).toInt ≤ a2.toInt) ∧ r.toInt = -7) ∨ (¬ (Fr0 1).toInt = 0 ∧ 0 ≤ a2.toInt ∧ a2.toInt < (Fr0 3).toInt ∧ r.toInt = 0)) (fun u : (Nat → Int64) => ((uX10 cs adm qm Fm Am Bm Dm) ++ (wX7 cs (qm 20) qr0 Fr0 Ar0 (vA Br0 0 u) Dr0))))) (by decide) (by simp [lg_sl, Value.category]) ?_
  intro p e s m args below meth c ls A0 hx hb hml hr hlk hown hmn ht hK hP hD hS hA hl
  have hl : lv_has ls 6 [(0, .ref adm), (1, .int 0), (2, .int a2), (3, .long a3)] := hl
  refine lv_aload_n hx hb dX10_write_0 rfl (lv_at hl 0 rfl) ?_
  refine lv_iload_n hx hb dX10_write_1 rfl (lv_at hl 1 rfl) ?_
  refine behR (runVP (As := [.int 0]) (rest := []) ⟨hx, hb, hml, hown, ht⟩ (sX10_isSlot l G cs adm qm Fm Am Bm Dm hIm 0 ) okV_RX10_348 ⟨by decide, by decide⟩ hK hP [0, 1, 2] rfl 0 rfl rfl hl.1 rfl (Nat.le_of_ble_eq_true rfl) dX10_write_2 ⟨by decide, by decide⟩) hP hS hA (fun r1 H locs hr1 hP hS => ?_)
  have kk2 : (0 : Int32).toInt = 0 := by decide
  have hr1 : (r1.toInt = 1 ∧ 0 ≤ (0 : Int32).toInt ∧ (0 : Int32).toInt ≤ 3) ∨ (r1.toInt = 0 ∧ ((0 : Int32).toInt < 0 ∨ 3 < (0 : Int32).toInt)) := hr1
  refine lv_if_ne (tgt := 11) hx hb dX10_write_5 (by decide) (fun c3 => ?_) (fun c3 => ?_)
  · have zc3 := neK rfl (show (0 : Int32).toInt = 0 by decide) c3
    refine lv_aload_n hx hb dX10_write_11 rfl (lv_at hl 0 rfl) ?_
    refine getF (v := .ref (qm 5)) hx hb ht hown hK hP iTX10 0 5 rfl rfl (by decide) fl_RX10_41 rfl dX10_write_12 ?_
    refine lv_iload_n hx hb dX10_write_15 rfl (lv_at hl 1 rfl) ?_
    refine va_aldq hx hb hK.1 hP 2 5 rfl rfl (show ¬ (_ ∨ _) by decide) dX10_write_16 ?_
    refine W.eq (g2 := F0 m 17 ls [.ref (qm 20)]) rfl ?_
    refine lv_astore (lv' := [(5, .ref (qm 20)), (0, .ref adm), (1, .int 0), (2, .int a2), (3, .long a3)]) hx hb dX10_write_17 hl (by decide) rfl (fun ls hl => ?_)
    refine lv_aload hx hb dX10_write_19 (lv_at hl 0 rfl) ?_
    refine getF (v := .int (Fr0 1)) hx hb ht hown hK hP iTX7 3 1 rfl rfl (by decide) fl_RX10_354 rfl dX10_write_21 ?_
    have zf4 : (0 : Int) ≤ (Fr0 1).toInt ∧ (Fr0 1).toInt ≤ 1 := hIr0.1 1
    refine lv_if_ne (tgt := 30) hx hb dX10_write_24 (by decide) (fun c5 => ?_) (fun c5 => ?_)
    · have zc5 := neK rfl (show (0 : Int32).toInt = 0 by decide) c5
      refine lv_iload_n hx hb dX10_write_30 rfl (lv_at hl 3 rfl) ?_
      refine lv_if_lt (tgt := 43) hx hb dX10_write_31 (by decide) (fun c6 => ?_) (fun c6 => ?_)
      · have zc6 := ltK rfl (show (0 : Int32).toInt = 0 by decide) c6
        refine lv_bipush (v := (-7)) hx hb dX10_write_43 (by decide) ?_
        exact retDi (Br0 0) hx hb hr hlk hP hD hS dX10_write_45 (show ((Fr0 1).toInt = 0 ∧ (-7 : Int32).toInt = -6) ∨ (¬ (Fr0 1).toInt = 0 ∧ (a2.toInt < 0 ∨ (Fr0 3).toInt ≤ a2.toInt) ∧ (-7 : Int32).toInt = -7) ∨ (¬ (Fr0 1).toInt = 0 ∧ 0 ≤ a2.toInt ∧ a2.toInt < (Fr0 3).toInt ∧ (-7 : Int32).toInt = 0) by have kk : (-7 : Int32).toInt = -7 := (by decide); omega) (Nat.le_of_ble_eq_true rfl) (Nat.le_of_ble_eq_true rfl)
      · have zc6 := nltK rfl (show (0 : Int32).toInt = 0 by decide) c6
        refine lv_iload_n hx hb dX10_write_34 rfl (lv_at hl 3 rfl) ?_
        refine lv_aload hx hb dX10_write_35 (lv_at hl 0 rfl) ?_
        refine getF (v := .int (Fr0 3)) hx hb ht hown hK hP iTX7 3 3 rfl rfl (by decide) fl_RX10_194 rfl dX10_write_37 ?_
        have zf7 : (0 : Int) ≤ (Fr0 3).toInt ∧ (Fr0 3).toInt ≤ 60 := hIr0.1 3
        refine lv_icmp_lt (tgt := 46) hx hb dX10_write_40 (by decide) (fun c8 => ?_) (fun c8 => ?_)
        · have zc8 := ltK rfl rfl c8
          refine lv_aload hx hb dX10_write_46 (lv_at hl 0 rfl) ?_
          refine getF (v := .ref (qr0 0)) hx hb ht hown hK hP iTX7 3 0 rfl rfl (by decide) fl_RX10_357 rfl dX10_write_48 ?_
          refine lv_iload_n hx hb dX10_write_51 rfl (lv_at hl 3 rfl) ?_
          refine lv_aload hx hb dX10_write_52 (lv_at hl 0 rfl) ?_
          refine lv_lload_n hx hb dX10_write_54 rfl (lv_at hl 4 rfl) ?_
          refine behRL (runVP (As := [.long a3]) (rest := [.int a2, .ref (qr0 0)]) ⟨hx, hb, hml, hown, ht⟩ (sX7_cut l G cs (qm 20) qr0 Fr0 Ar0 Br0 Dr0 hIr0 a3 ) okV_RX10_361 ⟨by decide, by decide⟩ hK hP [3, 4] rfl 3 rfl rfl hl.1 rfl (Nat.le_of_ble_eq_true rfl) dX10_write_55 ⟨by decide, by decide⟩) hP hS hA (fun r9 H locs hr9 hP hS => ?_)
          refine va_last hx hb hK.1 hP hD hS 4 2 rfl rfl (inK rfl (by omega) (by decide)) dX10_write_58 (fun H locs hP hD hS => ?_)
          obtain ⟨g10, hP, hD⟩ : ∃ g10 : Nat → Int64, va_P G vwCl ((uX10 cs adm qm Fm Am Bm Dm) ++ (uX7 cs (qm 20) qr0 Fr0 Ar0 (vB 0 g10 Br0) Dr0)) H ∧ va_D A0 ((uX10 cs adm qm Fm Am Bm Dm) ++ (uX7 cs (qm 20) qr0 Fr0 Ar0 (vB 0 g10 Br0) Dr0)) := ⟨vp_updL (Br0 0) a2.toNatClampNeg r9, hP, hD⟩
          refine lv_iconst (v := 0) hx hb dX10_write_59 (by decide) ?_
          exact retDi g10 hx hb hr hlk hP hD hS dX10_write_60 (show ((Fr0 1).toInt = 0 ∧ (0 : Int32).toInt = -6) ∨ (¬ (Fr0 1).toInt = 0 ∧ (a2.toInt < 0 ∨ (Fr0 3).toInt ≤ a2.toInt) ∧ (0 : Int32).toInt = -7) ∨ (¬ (Fr0 1).toInt = 0 ∧ 0 ≤ a2.toInt ∧ a2.toInt < (Fr0 3).toInt ∧ (0 : Int32).toInt = 0) by have kk : (0 : Int32).toInt = 0 := (by decide); omega) (Nat.le_of_ble_eq_true rfl) (Nat.le_of_ble_eq_true rfl)
        · have zc8 := nltK rfl rfl c8
          refine lv_bipush (v := (-7)) hx hb dX10_write_43 (by decide) ?_
          exact retDi (Br0 0) hx hb hr hlk hP hD hS dX10_write_45 (show ((Fr0 1).toInt = 0 ∧ (-7 : Int32).toInt = -6) ∨ (¬ (Fr0 1).toInt = 0 ∧ (a2.toInt < 0 ∨ (Fr0 3).toInt ≤ a2.toInt) ∧ (-7 : Int32).toInt = -7) ∨ (¬ (Fr0 1).toInt = 0 ∧ 0 ≤ a2.toInt ∧ a2.toInt < (Fr0 3).toInt ∧ (-7 : Int32).toInt = 0) by have kk : (-7 : Int32).toInt = -7 := (by decide); omega) (Nat.le_of_ble_eq_true rfl) (Nat.le_of_ble_eq_true rfl)
    · have zc5 := eqK rfl (show (0 : Int32).toInt = 0 by decide) c5
      refine lv_bipush (v := (-6)) hx hb dX10_write_27 (by decide) ?_
      exact retDi (Br0 0) hx hb hr hlk hP hD hS dX10_write_29 (show ((Fr0 1).toInt = 0 ∧ (-6 : Int32).toInt = -6) ∨ (¬ (Fr0 1).toInt = 0 ∧ (a2.toInt < 0 ∨ (Fr0 3).toInt ≤ a2.toInt) ∧ (-6 : Int32).toInt = -7) ∨ (¬ (Fr0 1).toInt = 0 ∧ 0 ≤ a2.toInt ∧ a2.toInt < (Fr0 3).toInt ∧ (-6 : Int32).toInt = 0) by have kk : (-6 : Int32).toInt = -6 := (by decide); omega) (Nat.le_of_ble_eq_true rfl) (Nat.le_of_ble_eq_true rfl)
  · have zc3 := eqK rfl (show (0 : Int32).toInt = 0 by decide) c3
    refine lv_bipush (v := (-2)) hx hb dX10_write_8 (by decide) ?_
    exact retDi (Br0 0) hx hb hr hlk hP hD hS dX10_write_10 (show ((Fr0 1).toInt = 0 ∧ (-2 : Int32).toInt = -6) ∨ (¬ (Fr0 1).toInt = 0 ∧ (a2.toInt < 0 ∨ (Fr0 3).toInt ≤ a2.toInt) ∧ (-2 : Int32).toInt = -7) ∨ (¬ (Fr0 1).toInt = 0 ∧ 0 ≤ a2.toInt ∧ a2.toInt < (Fr0 3).toInt ∧ (-2 : Int32).toInt = 0) by have kk : (-2 : Int32).toInt = -2 := (by decide); omega) (Nat.le_of_ble_eq_true rfl) (Nat.le_of_ble_eq_true rfl)

set_option maxRecDepth 100000 in
set_option maxHeartbeats 16000000 in
theorem sX10_paste_0_0 (l : Launch) (G : va_G) (cs : Nat → ClassId) (adm : Nat) (qm : Nat → Nat) (Fm : Nat → Int32) (Am : Nat → Nat → Int32) (Bm : Nat → Nat → Int64) (Dm : Int64) (hIm : IX10 Fm Am) (qr0 : Nat → Nat) (Fr0 : Nat → Int32) (Ar0 : Nat → Nat → Int32) (Br0 : Nat → Nat → Int64) (Dr0 : Int64) (hIr0 : IX7 Fr0 Ar0) (a2 : Int32) (a4 : Int32) (a5 : Int32) : ∀ sz : Nat, Met l yX10_paste (wk yX10_paste cX10_paste 8 (some .int)) (rmk 1 0 0) (PreD G (TY cs) [.ref adm, .int 0, .int a2, .int 0, .int a4, .int a5] ((uX10 cs adm qm Fm Am Bm Dm) ++ (uX7 cs (qm 20) qr0 Fr0 Ar0 Br0 Dr0)) sz) ((QDi G (fun (r : Int32) (u : (Nat → Int64)) => (((Fr0 1).toInt = 0 ∨ (Fr0 1).toInt = 0) ∧ r.toInt = -6) ∨ (¬ (Fr0 1).toInt = 0 ∧ ¬ (Fr0 1).toInt = 0 ∧ ¬ (Fr0 2).toInt = (Fr0 2).toInt ∧ r.toInt = -8) ∨ (¬ (Fr0 1).toInt = 0 ∧ ¬ (Fr0 1).toInt = 0 ∧ (Fr0 2).toInt = (Fr0 2).toInt ∧ (a2.toInt < 0 ∨ a4.toInt < 0 ∨ a5.toInt < 0 ∨ (Fr0 3).toInt < a2.toInt + a5.toInt ∨ (Fr0 3).toInt < a4.toInt + a5.toInt) ∧ r.toInt = -7) ∨ (¬ (Fr0 1).toInt = 0 ∧ ¬ (Fr0 1).toInt = 0 ∧ (Fr0 2).toInt = (Fr0 2).toInt ∧ ¬ (a2.toInt < 0 ∨ a4.toInt < 0 ∨ a5.toInt < 0 ∨ (Fr0 3).toInt < a2.toInt + a5.toInt ∨ (Fr0 3).toInt < a4.toInt + a5.toInt) ∧ r.toInt = 0)) (fun u : (Nat → Int64) => ((uX10 cs adm qm Fm Am Bm Dm) ++ (wX7 cs (qm 20) qr0 Fr0 Ar0 (vA Br0 0 u) Dr0)))) (va_A ((uX10 cs adm qm Fm Am Bm Dm) ++ (uX7 cs (qm 20) qr0 Fr0 Ar0 Br0 Dr0)) sz)) 0 0 (va_A ((uX10 cs adm qm Fm Am Bm Dm) ++ (uX7 cs (qm 20) qr0 Fr0 Ar0 Br0 Dr0)) sz) := by
  refine mkD (Qc := (QDi G (fun (r : Int32) (u : (Nat → Int64)) => (((Fr0 1).toInt = 0 ∨ (Fr0 1).toInt = 0) ∧ r.toInt = -6) ∨ (¬ (Fr0 1).toInt = 0 ∧ ¬ (Fr0 1).toInt = 0 ∧ ¬ (Fr0 2).toInt = (Fr0 2).toInt ∧ r.toInt = -8) ∨ (¬ (Fr0 1).toInt = 0 ∧ ¬ (Fr0 1).toInt = 0 ∧ (Fr0 2).toInt = (Fr0 2).toInt ∧ (a2.toInt < 0 ∨ a4.toInt < 0 ∨ a5.toInt < 0 ∨ (Fr0 3).toInt < a2.toInt + a5.toInt ∨ (Fr0 3).toInt < a4.toInt + a5.toInt) ∧ r.toInt = -7) ∨ (¬ (Fr0 1).toInt = 0 ∧ ¬ (Fr0 1).toInt = 0 ∧ (Fr0 2).toInt = (Fr0 2).toInt ∧ ¬ (a2.toInt < 0 ∨ a4.toInt < 0 ∨ a5.toInt < 0 ∨ (Fr0 3).toInt < a2.toInt + a5.toInt ∨ (Fr0 3).toInt < a4.toInt + a5.toInt) ∧ r.toInt = 0)) (fun u : (Nat → Int64) => ((uX10 cs adm qm Fm Am Bm Dm) ++ (wX7 cs (qm 20) qr0 Fr0 Ar0 (vA Br0 0 u) Dr0))))) (by decide) (by simp [lg_sl, Value.category]) ?_
  intro p e s m args below meth c ls A0 hx hb hml hr hlk hown hmn ht hK hP hD hS hA hl
  have hl : lv_has ls 8 [(0, .ref adm), (1, .int 0), (2, .int a2), (3, .int 0), (4, .int a4), (5, .int a5)] := hl
  refine lv_aload_n hx hb dX10_paste_0 rfl (lv_at hl 0 rfl) ?_
  refine lv_iload_n hx hb dX10_paste_1 rfl (lv_at hl 1 rfl) ?_
  refine behR (runVP (As := [.int 0]) (rest := []) ⟨hx, hb, hml, hown, ht⟩ (sX10_isSlot l G cs adm qm Fm Am Bm Dm hIm 0 ) okV_RX10_348 ⟨by decide, by decide⟩ hK hP [0, 1, 2] rfl 0 rfl rfl hl.1 rfl (Nat.le_of_ble_eq_true rfl) dX10_paste_2 ⟨by decide, by decide⟩) hP hS hA (fun r1 H locs hr1 hP hS => ?_)
  have kk2 : (0 : Int32).toInt = 0 := by decide
  have hr1 : (r1.toInt = 1 ∧ 0 ≤ (0 : Int32).toInt ∧ (0 : Int32).toInt ≤ 3) ∨ (r1.toInt = 0 ∧ ((0 : Int32).toInt < 0 ∨ 3 < (0 : Int32).toInt)) := hr1
  refine lv_if_eq (tgt := 16) hx hb dX10_paste_5 (by decide) (fun c3 => ?_) (fun c3 => ?_)
  · have zc3 := eqK rfl (show (0 : Int32).toInt = 0 by decide) c3
    refine lv_bipush (v := (-2)) hx hb dX10_paste_16 (by decide) ?_
    exact retDi (Br0 0) hx hb hr hlk hP hD hS dX10_paste_18 (False.elim (by omega)) (Nat.le_of_ble_eq_true rfl) (Nat.le_of_ble_eq_true rfl)
  · have zc3 := neK rfl (show (0 : Int32).toInt = 0 by decide) c3
    refine lv_aload_n hx hb dX10_paste_8 rfl (lv_at hl 0 rfl) ?_
    refine lv_iload_n hx hb dX10_paste_9 rfl (lv_at hl 3 rfl) ?_
    refine behR (runVP (As := [.int 0]) (rest := []) ⟨hx, hb, hml, hown, ht⟩ (sX10_isSlot l G cs adm qm Fm Am Bm Dm hIm 0 ) okV_RX10_348 ⟨by decide, by decide⟩ hK hP [0, 1, 2] rfl 0 rfl rfl hl.1 rfl (Nat.le_of_ble_eq_true rfl) dX10_paste_10 ⟨by decide, by decide⟩) hP hS hA (fun r4 H locs hr4 hP hS => ?_)
    have kk5 : (0 : Int32).toInt = 0 := by decide
    have hr4 : (r4.toInt = 1 ∧ 0 ≤ (0 : Int32).toInt ∧ (0 : Int32).toInt ≤ 3) ∨ (r4.toInt = 0 ∧ ((0 : Int32).toInt < 0 ∨ 3 < (0 : Int32).toInt)) := hr4
    refine lv_if_ne (tgt := 19) hx hb dX10_paste_13 (by decide) (fun c6 => ?_) (fun c6 => ?_)
    · have zc6 := neK rfl (show (0 : Int32).toInt = 0 by decide) c6
      refine lv_aload_n hx hb dX10_paste_19 rfl (lv_at hl 0 rfl) ?_
      refine getF (v := .ref (qm 5)) hx hb ht hown hK hP iTX10 0 5 rfl rfl (by decide) fl_RX10_41 rfl dX10_paste_20 ?_
      refine lv_iload_n hx hb dX10_paste_23 rfl (lv_at hl 1 rfl) ?_
      refine va_aldq hx hb hK.1 hP 2 5 rfl rfl (show ¬ (_ ∨ _) by decide) dX10_paste_24 ?_
      refine W.eq (g2 := F0 m 25 ls [.ref (qm 20)]) rfl ?_
      refine lv_astore (lv' := [(6, .ref (qm 20)), (0, .ref adm), (1, .int 0), (2, .int a2), (3, .int 0), (4, .int a4), (5, .int a5)]) hx hb dX10_paste_25 hl (by decide) rfl (fun ls hl => ?_)
      refine lv_aload_n hx hb dX10_paste_27 rfl (lv_at hl 1 rfl) ?_
      refine getF (v := .ref (qm 5)) hx hb ht hown hK hP iTX10 0 5 rfl rfl (by decide) fl_RX10_41 rfl dX10_paste_28 ?_
      refine lv_iload_n hx hb dX10_paste_31 rfl (lv_at hl 4 rfl) ?_
      refine va_aldq hx hb hK.1 hP 2 5 rfl rfl (show ¬ (_ ∨ _) by decide) dX10_paste_32 ?_
      refine W.eq (g2 := F0 m 33 ls [.ref (qm 20)]) rfl ?_
      refine lv_astore (lv' := [(7, .ref (qm 20)), (6, .ref (qm 20)), (0, .ref adm), (1, .int 0), (2, .int a2), (3, .int 0), (4, .int a4), (5, .int a5)]) hx hb dX10_paste_33 hl (by decide) rfl (fun ls hl => ?_)
      refine lv_aload hx hb dX10_paste_35 (lv_at hl 1 rfl) ?_
      refine getF (v := .int (Fr0 1)) hx hb ht hown hK hP iTX7 3 1 rfl rfl (by decide) fl_RX10_354 rfl dX10_paste_37 ?_
      have zf7 : (0 : Int) ≤ (Fr0 1).toInt ∧ (Fr0 1).toInt ≤ 1 := hIr0.1 1
      refine lv_if_eq (tgt := 51) hx hb dX10_paste_40 (by decide) (fun c8 => ?_) (fun c8 => ?_)
      · have zc8 := eqK rfl (show (0 : Int32).toInt = 0 by decide) c8
        refine lv_bipush (v := (-6)) hx hb dX10_paste_51 (by decide) ?_
        exact retDi (Br0 0) hx hb hr hlk hP hD hS dX10_paste_53 (Or.inl ⟨by omega, by decide⟩) (Nat.le_of_ble_eq_true rfl) (Nat.le_of_ble_eq_true rfl)
      · have zc8 := neK rfl (show (0 : Int32).toInt = 0 by decide) c8
        refine lv_aload hx hb dX10_paste_43 (lv_at hl 0 rfl) ?_
        refine getF (v := .int (Fr0 1)) hx hb ht hown hK hP iTX7 3 1 rfl rfl (by decide) fl_RX10_354 rfl dX10_paste_45 ?_
        have zf9 : (0 : Int) ≤ (Fr0 1).toInt ∧ (Fr0 1).toInt ≤ 1 := hIr0.1 1
        refine lv_if_ne (tgt := 54) hx hb dX10_paste_48 (by decide) (fun c10 => ?_) (fun c10 => False.elim (by have zz := eqK rfl (show (0 : Int32).toInt = 0 by decide) c10; omega))
        refine lv_aload hx hb dX10_paste_54 (lv_at hl 1 rfl) ?_
        refine getF (v := .int (Fr0 2)) hx hb ht hown hK hP iTX7 3 2 rfl rfl (by decide) fl_RX10_365 rfl dX10_paste_56 ?_
        refine lv_aload hx hb dX10_paste_59 (lv_at hl 0 rfl) ?_
        refine getF (v := .int (Fr0 2)) hx hb ht hown hK hP iTX7 3 2 rfl rfl (by decide) fl_RX10_365 rfl dX10_paste_61 ?_
        refine lv_icmp_eq (tgt := 70) hx hb dX10_paste_64 (by decide) (fun c11 => ?_) (fun c11 => False.elim (by have zz := neK rfl rfl c11; omega))
        refine lv_aload hx hb dX10_paste_70 (lv_at hl 1 rfl) ?_
        refine lv_iload_n hx hb dX10_paste_72 rfl (lv_at hl 4 rfl) ?_
        refine lv_iload hx hb dX10_paste_73 (lv_at hl 7 rfl) ?_
        refine behR (runVP (As := [.int a2, .int a5]) (rest := []) ⟨hx, hb, hml, hown, ht⟩ (sX7_holds l G cs (qm 20) qr0 Fr0 Ar0 Br0 Dr0 hIr0 a2 a5 ) okV_RX10_368 ⟨by decide, by decide⟩ hK hP [3, 4] rfl 3 rfl rfl hl.1 rfl (Nat.le_of_ble_eq_true rfl) dX10_paste_75 ⟨by decide, by decide⟩) hP hS hA (fun r12 H locs hr12 hP hS => ?_)
        have hr12 : (r12.toInt = 1 ∧ 0 ≤ a2.toInt ∧ 0 ≤ a5.toInt ∧ a2.toInt + a5.toInt ≤ 60 ∧ a2.toInt + a5.toInt ≤ (Fr0 3).toInt) ∨ (r12.toInt = 0 ∧ (a2.toInt < 0 ∨ a5.toInt < 0 ∨ (Fr0 3).toInt < a2.toInt + a5.toInt)) := hr12
        refine lv_if_eq (tgt := 93) hx hb dX10_paste_78 (by decide) (fun c13 => ?_) (fun c13 => ?_)
        · have zc13 := eqK rfl (show (0 : Int32).toInt = 0 by decide) c13
          refine lv_bipush (v := (-7)) hx hb dX10_paste_93 (by decide) ?_
          exact retDi (Br0 0) hx hb hr hlk hP hD hS dX10_paste_95 (Or.inr (Or.inr (Or.inl ⟨by omega, by omega, by omega, by omega, by decide⟩))) (Nat.le_of_ble_eq_true rfl) (Nat.le_of_ble_eq_true rfl)
        · have zc13 := neK rfl (show (0 : Int32).toInt = 0 by decide) c13
          refine lv_aload hx hb dX10_paste_81 (lv_at hl 0 rfl) ?_
          refine lv_iload hx hb dX10_paste_83 (lv_at hl 6 rfl) ?_
          refine lv_iload hx hb dX10_paste_85 (lv_at hl 7 rfl) ?_
          refine behR (runVP (As := [.int a4, .int a5]) (rest := []) ⟨hx, hb, hml, hown, ht⟩ (sX7_holds l G cs (qm 20) qr0 Fr0 Ar0 Br0 Dr0 hIr0 a4 a5 ) okV_RX10_368 ⟨by decide, by decide⟩ hK hP [3, 4] rfl 3 rfl rfl hl.1 rfl (Nat.le_of_ble_eq_true rfl) dX10_paste_87 ⟨by decide, by decide⟩) hP hS hA (fun r14 H locs hr14 hP hS => ?_)
          have hr14 : (r14.toInt = 1 ∧ 0 ≤ a4.toInt ∧ 0 ≤ a5.toInt ∧ a4.toInt + a5.toInt ≤ 60 ∧ a4.toInt + a5.toInt ≤ (Fr0 3).toInt) ∨ (r14.toInt = 0 ∧ (a4.toInt < 0 ∨ a5.toInt < 0 ∨ (Fr0 3).toInt < a4.toInt + a5.toInt)) := hr14
          refine lv_if_ne (tgt := 96) hx hb dX10_paste_90 (by decide) (fun c15 => ?_) (fun c15 => ?_)
          · have zc15 := neK rfl (show (0 : Int32).toInt = 0 by decide) c15
            refine lv_aload hx hb dX10_paste_96 (lv_at hl 1 rfl) ?_
            refine getF (v := .ref (qr0 0)) hx hb ht hown hK hP iTX7 3 0 rfl rfl (by decide) fl_RX10_357 rfl dX10_paste_98 ?_
            refine lv_iload_n hx hb dX10_paste_101 rfl (lv_at hl 4 rfl) ?_
            refine lv_aload hx hb dX10_paste_102 (lv_at hl 0 rfl) ?_
            refine getF (v := .ref (qr0 0)) hx hb ht hown hK hP iTX7 3 0 rfl rfl (by decide) fl_RX10_357 rfl dX10_paste_104 ?_
            refine lv_iload hx hb dX10_paste_107 (lv_at hl 6 rfl) ?_
            refine lv_iload hx hb dX10_paste_109 (lv_at hl 7 rfl) ?_
            refine va_copyl hx hb (by rw [hml]; exact hl.1.symm) hown (ht _ cp_RX10_371) (ht _ cp_nat) (ht _ cp_st) (ht _ cp_in) hK.1 hP hD hS 4 4 2 2 rfl rfl rfl rfl rfl (fun q9 => by have zz := ltK rfl (show (0 : Int32).toInt = 0 by decide) q9; omega) (fun q9 => by have zz := ltK rfl (show (0 : Int32).toInt = 0 by decide) q9; omega) (fun q9 => by have zz := ltK rfl (show (0 : Int32).toInt = 0 by decide) q9; omega) (by have y1 := clK (i := a2) rfl (by omega); have y2 := clK (i := a5) rfl (by omega); omega) (by have y1 := clK (i := a4) rfl (by omega); have y2 := clK (i := a5) rfl (by omega); omega) (fun i hi9 => rfl) (Nat.le_of_ble_eq_true rfl) (Nat.le_of_ble_eq_true rfl) dX10_paste_111 (fun H locs hP hD hS => ?_)
            obtain ⟨g16, hP, hD⟩ : ∃ g16 : Nat → Int64, va_P G vwCl ((uX10 cs adm qm Fm Am Bm Dm) ++ (uX7 cs (qm 20) qr0 Fr0 Ar0 (vB 0 g16 Br0) Dr0)) H ∧ va_D A0 ((uX10 cs adm qm Fm Am Bm Dm) ++ (uX7 cs (qm 20) qr0 Fr0 Ar0 (vB 0 g16 Br0) Dr0)) := ⟨_, hP, hD⟩
            refine lv_iconst (v := 0) hx hb dX10_paste_114 (by decide) ?_
            exact retDi g16 hx hb hr hlk hP hD hS dX10_paste_115 (Or.inr (Or.inr (Or.inr ⟨by omega, by omega, by omega, by omega, by decide⟩))) (Nat.le_of_ble_eq_true rfl) (Nat.le_of_ble_eq_true rfl)
          · have zc15 := eqK rfl (show (0 : Int32).toInt = 0 by decide) c15
            refine lv_bipush (v := (-7)) hx hb dX10_paste_93 (by decide) ?_
            exact retDi (Br0 0) hx hb hr hlk hP hD hS dX10_paste_95 (Or.inr (Or.inr (Or.inl ⟨by omega, by omega, by omega, by omega, by decide⟩))) (Nat.le_of_ble_eq_true rfl) (Nat.le_of_ble_eq_true rfl)
    · have zc6 := eqK rfl (show (0 : Int32).toInt = 0 by decide) c6
      refine lv_bipush (v := (-2)) hx hb dX10_paste_16 (by decide) ?_
      exact retDi (Br0 0) hx hb hr hlk hP hD hS dX10_paste_18 (False.elim (by omega)) (Nat.le_of_ble_eq_true rfl) (Nat.le_of_ble_eq_true rfl)

set_option maxRecDepth 100000 in
set_option maxHeartbeats 16000000 in
theorem sX10_paste_0_1 (l : Launch) (G : va_G) (cs : Nat → ClassId) (adm : Nat) (qm : Nat → Nat) (Fm : Nat → Int32) (Am : Nat → Nat → Int32) (Bm : Nat → Nat → Int64) (Dm : Int64) (hIm : IX10 Fm Am) (qr0 : Nat → Nat) (Fr0 : Nat → Int32) (Ar0 : Nat → Nat → Int32) (Br0 : Nat → Nat → Int64) (Dr0 : Int64) (hIr0 : IX7 Fr0 Ar0) (qr1 : Nat → Nat) (Fr1 : Nat → Int32) (Ar1 : Nat → Nat → Int32) (Br1 : Nat → Nat → Int64) (Dr1 : Int64) (hIr1 : IX7 Fr1 Ar1) (a2 : Int32) (a4 : Int32) (a5 : Int32) : ∀ sz : Nat, Met l yX10_paste (wk yX10_paste cX10_paste 8 (some .int)) (rmk 1 0 0) (PreD G (TY cs) [.ref adm, .int 0, .int a2, .int 1, .int a4, .int a5] ((uX10 cs adm qm Fm Am Bm Dm) ++ ((uX7 cs (qm 20) qr0 Fr0 Ar0 Br0 Dr0) ++ (uX7 cs (qm 21) qr1 Fr1 Ar1 Br1 Dr1))) sz) ((QDi G (fun (r : Int32) (u : (Nat → Int64)) => (((Fr0 1).toInt = 0 ∨ (Fr1 1).toInt = 0) ∧ r.toInt = -6) ∨ (¬ (Fr0 1).toInt = 0 ∧ ¬ (Fr1 1).toInt = 0 ∧ ¬ (Fr0 2).toInt = (Fr1 2).toInt ∧ r.toInt = -8) ∨ (¬ (Fr0 1).toInt = 0 ∧ ¬ (Fr1 1).toInt = 0 ∧ (Fr0 2).toInt = (Fr1 2).toInt ∧ (a2.toInt < 0 ∨ a4.toInt < 0 ∨ a5.toInt < 0 ∨ (Fr0 3).toInt < a2.toInt + a5.toInt ∨ (Fr1 3).toInt < a4.toInt + a5.toInt) ∧ r.toInt = -7) ∨ (¬ (Fr0 1).toInt = 0 ∧ ¬ (Fr1 1).toInt = 0 ∧ (Fr0 2).toInt = (Fr1 2).toInt ∧ ¬ (a2.toInt < 0 ∨ a4.toInt < 0 ∨ a5.toInt < 0 ∨ (Fr0 3).toInt < a2.toInt + a5.toInt ∨ (Fr1 3).toInt < a4.toInt + a5.toInt) ∧ r.toInt = 0)) (fun u : (Nat → Int64) => ((uX10 cs adm qm Fm Am Bm Dm) ++ ((uX7 cs (qm 20) qr0 Fr0 Ar0 Br0 Dr0) ++ (wX7 cs (qm 21) qr1 Fr1 Ar1 (vA Br1 0 u) Dr1))))) (va_A ((uX10 cs adm qm Fm Am Bm Dm) ++ ((uX7 cs (qm 20) qr0 Fr0 Ar0 Br0 Dr0) ++ (uX7 cs (qm 21) qr1 Fr1 Ar1 Br1 Dr1))) sz)) 0 0 (va_A ((uX10 cs adm qm Fm Am Bm Dm) ++ ((uX7 cs (qm 20) qr0 Fr0 Ar0 Br0 Dr0) ++ (uX7 cs (qm 21) qr1 Fr1 Ar1 Br1 Dr1))) sz) := by
  refine mkD (Qc := (QDi G (fun (r : Int32) (u : (Nat → Int64)) => (((Fr0 1).toInt = 0 ∨ (Fr1 1).toInt = 0) ∧ r.toInt = -6) ∨ (¬ (Fr0 1).toInt = 0 ∧ ¬ (Fr1 1).toInt = 0 ∧ ¬ (Fr0 2).toInt = (Fr1 2).toInt ∧ r.toInt = -8) ∨ (¬ (Fr0 1).toInt = 0 ∧ ¬ (Fr1 1).toInt = 0 ∧ (Fr0 2).toInt = (Fr1 2).toInt ∧ (a2.toInt < 0 ∨ a4.toInt < 0 ∨ a5.toInt < 0 ∨ (Fr0 3).toInt < a2.toInt + a5.toInt ∨ (Fr1 3).toInt < a4.toInt + a5.toInt) ∧ r.toInt = -7) ∨ (¬ (Fr0 1).toInt = 0 ∧ ¬ (Fr1 1).toInt = 0 ∧ (Fr0 2).toInt = (Fr1 2).toInt ∧ ¬ (a2.toInt < 0 ∨ a4.toInt < 0 ∨ a5.toInt < 0 ∨ (Fr0 3).toInt < a2.toInt + a5.toInt ∨ (Fr1 3).toInt < a4.toInt + a5.toInt) ∧ r.toInt = 0)) (fun u : (Nat → Int64) => ((uX10 cs adm qm Fm Am Bm Dm) ++ ((uX7 cs (qm 20) qr0 Fr0 Ar0 Br0 Dr0) ++ (wX7 cs (qm 21) qr1 Fr1 Ar1 (vA Br1 0 u) Dr1)))))) (by decide) (by simp [lg_sl, Value.category]) ?_
  intro p e s m args below meth c ls A0 hx hb hml hr hlk hown hmn ht hK hP hD hS hA hl
  have hl : lv_has ls 8 [(0, .ref adm), (1, .int 0), (2, .int a2), (3, .int 1), (4, .int a4), (5, .int a5)] := hl
  refine lv_aload_n hx hb dX10_paste_0 rfl (lv_at hl 0 rfl) ?_
  refine lv_iload_n hx hb dX10_paste_1 rfl (lv_at hl 1 rfl) ?_
  refine behR (runVP (As := [.int 0]) (rest := []) ⟨hx, hb, hml, hown, ht⟩ (sX10_isSlot l G cs adm qm Fm Am Bm Dm hIm 0 ) okV_RX10_348 ⟨by decide, by decide⟩ hK hP [0, 1, 2] rfl 0 rfl rfl hl.1 rfl (Nat.le_of_ble_eq_true rfl) dX10_paste_2 ⟨by decide, by decide⟩) hP hS hA (fun r1 H locs hr1 hP hS => ?_)
  have kk2 : (0 : Int32).toInt = 0 := by decide
  have hr1 : (r1.toInt = 1 ∧ 0 ≤ (0 : Int32).toInt ∧ (0 : Int32).toInt ≤ 3) ∨ (r1.toInt = 0 ∧ ((0 : Int32).toInt < 0 ∨ 3 < (0 : Int32).toInt)) := hr1
  refine lv_if_eq (tgt := 16) hx hb dX10_paste_5 (by decide) (fun c3 => ?_) (fun c3 => ?_)
  · have zc3 := eqK rfl (show (0 : Int32).toInt = 0 by decide) c3
    refine lv_bipush (v := (-2)) hx hb dX10_paste_16 (by decide) ?_
    exact retDi (Br1 0) hx hb hr hlk hP hD hS dX10_paste_18 (False.elim (by omega)) (Nat.le_of_ble_eq_true rfl) (Nat.le_of_ble_eq_true rfl)
  · have zc3 := neK rfl (show (0 : Int32).toInt = 0 by decide) c3
    refine lv_aload_n hx hb dX10_paste_8 rfl (lv_at hl 0 rfl) ?_
    refine lv_iload_n hx hb dX10_paste_9 rfl (lv_at hl 3 rfl) ?_
    refine behR (runVP (As := [.int 1]) (rest := []) ⟨hx, hb, hml, hown, ht⟩ (sX10_isSlot l G cs adm qm Fm Am Bm Dm hIm 1 ) okV_RX10_348 ⟨by decide, by decide⟩ hK hP [0, 1, 2] rfl 0 rfl rfl hl.1 rfl (Nat.le_of_ble_eq_true rfl) dX10_paste_10 ⟨by decide, by decide⟩) hP hS hA (fun r4 H locs hr4 hP hS => ?_)
    have kk5 : (1 : Int32).toInt = 1 := by decide
    have hr4 : (r4.toInt = 1 ∧ 0 ≤ (1 : Int32).toInt ∧ (1 : Int32).toInt ≤ 3) ∨ (r4.toInt = 0 ∧ ((1 : Int32).toInt < 0 ∨ 3 < (1 : Int32).toInt)) := hr4
    refine lv_if_ne (tgt := 19) hx hb dX10_paste_13 (by decide) (fun c6 => ?_) (fun c6 => ?_)
    · have zc6 := neK rfl (show (0 : Int32).toInt = 0 by decide) c6
      refine lv_aload_n hx hb dX10_paste_19 rfl (lv_at hl 0 rfl) ?_
      refine getF (v := .ref (qm 5)) hx hb ht hown hK hP iTX10 0 5 rfl rfl (by decide) fl_RX10_41 rfl dX10_paste_20 ?_
      refine lv_iload_n hx hb dX10_paste_23 rfl (lv_at hl 1 rfl) ?_
      refine va_aldq hx hb hK.1 hP 2 5 rfl rfl (show ¬ (_ ∨ _) by decide) dX10_paste_24 ?_
      refine W.eq (g2 := F0 m 25 ls [.ref (qm 20)]) rfl ?_
      refine lv_astore (lv' := [(6, .ref (qm 20)), (0, .ref adm), (1, .int 0), (2, .int a2), (3, .int 1), (4, .int a4), (5, .int a5)]) hx hb dX10_paste_25 hl (by decide) rfl (fun ls hl => ?_)
      refine lv_aload_n hx hb dX10_paste_27 rfl (lv_at hl 1 rfl) ?_
      refine getF (v := .ref (qm 5)) hx hb ht hown hK hP iTX10 0 5 rfl rfl (by decide) fl_RX10_41 rfl dX10_paste_28 ?_
      refine lv_iload_n hx hb dX10_paste_31 rfl (lv_at hl 4 rfl) ?_
      refine va_aldq hx hb hK.1 hP 2 5 rfl rfl (show ¬ (_ ∨ _) by decide) dX10_paste_32 ?_
      refine W.eq (g2 := F0 m 33 ls [.ref (qm 21)]) rfl ?_
      refine lv_astore (lv' := [(7, .ref (qm 21)), (6, .ref (qm 20)), (0, .ref adm), (1, .int 0), (2, .int a2), (3, .int 1), (4, .int a4), (5, .int a5)]) hx hb dX10_paste_33 hl (by decide) rfl (fun ls hl => ?_)
      refine lv_aload hx hb dX10_paste_35 (lv_at hl 1 rfl) ?_
      refine getF (v := .int (Fr0 1)) hx hb ht hown hK hP iTX7 3 1 rfl rfl (by decide) fl_RX10_354 rfl dX10_paste_37 ?_
      have zf7 : (0 : Int) ≤ (Fr0 1).toInt ∧ (Fr0 1).toInt ≤ 1 := hIr0.1 1
      refine lv_if_eq (tgt := 51) hx hb dX10_paste_40 (by decide) (fun c8 => ?_) (fun c8 => ?_)
      · have zc8 := eqK rfl (show (0 : Int32).toInt = 0 by decide) c8
        refine lv_bipush (v := (-6)) hx hb dX10_paste_51 (by decide) ?_
        exact retDi (Br1 0) hx hb hr hlk hP hD hS dX10_paste_53 (Or.inl ⟨by omega, by decide⟩) (Nat.le_of_ble_eq_true rfl) (Nat.le_of_ble_eq_true rfl)
      · have zc8 := neK rfl (show (0 : Int32).toInt = 0 by decide) c8
        refine lv_aload hx hb dX10_paste_43 (lv_at hl 0 rfl) ?_
        refine getF (v := .int (Fr1 1)) hx hb ht hown hK hP iTX7 5 1 rfl rfl (by decide) fl_RX10_354 rfl dX10_paste_45 ?_
        have zf9 : (0 : Int) ≤ (Fr1 1).toInt ∧ (Fr1 1).toInt ≤ 1 := hIr1.1 1
        refine lv_if_ne (tgt := 54) hx hb dX10_paste_48 (by decide) (fun c10 => ?_) (fun c10 => ?_)
        · have zc10 := neK rfl (show (0 : Int32).toInt = 0 by decide) c10
          refine lv_aload hx hb dX10_paste_54 (lv_at hl 1 rfl) ?_
          refine getF (v := .int (Fr0 2)) hx hb ht hown hK hP iTX7 3 2 rfl rfl (by decide) fl_RX10_365 rfl dX10_paste_56 ?_
          refine lv_aload hx hb dX10_paste_59 (lv_at hl 0 rfl) ?_
          refine getF (v := .int (Fr1 2)) hx hb ht hown hK hP iTX7 5 2 rfl rfl (by decide) fl_RX10_365 rfl dX10_paste_61 ?_
          refine lv_icmp_eq (tgt := 70) hx hb dX10_paste_64 (by decide) (fun c11 => ?_) (fun c11 => ?_)
          · have zc11 := eqK rfl rfl c11
            refine lv_aload hx hb dX10_paste_70 (lv_at hl 1 rfl) ?_
            refine lv_iload_n hx hb dX10_paste_72 rfl (lv_at hl 4 rfl) ?_
            refine lv_iload hx hb dX10_paste_73 (lv_at hl 7 rfl) ?_
            refine behR (runVP (As := [.int a2, .int a5]) (rest := []) ⟨hx, hb, hml, hown, ht⟩ (sX7_holds l G cs (qm 20) qr0 Fr0 Ar0 Br0 Dr0 hIr0 a2 a5 ) okV_RX10_368 ⟨by decide, by decide⟩ hK hP [3, 4] rfl 3 rfl rfl hl.1 rfl (Nat.le_of_ble_eq_true rfl) dX10_paste_75 ⟨by decide, by decide⟩) hP hS hA (fun r12 H locs hr12 hP hS => ?_)
            have hr12 : (r12.toInt = 1 ∧ 0 ≤ a2.toInt ∧ 0 ≤ a5.toInt ∧ a2.toInt + a5.toInt ≤ 60 ∧ a2.toInt + a5.toInt ≤ (Fr0 3).toInt) ∨ (r12.toInt = 0 ∧ (a2.toInt < 0 ∨ a5.toInt < 0 ∨ (Fr0 3).toInt < a2.toInt + a5.toInt)) := hr12
            refine lv_if_eq (tgt := 93) hx hb dX10_paste_78 (by decide) (fun c13 => ?_) (fun c13 => ?_)
            · have zc13 := eqK rfl (show (0 : Int32).toInt = 0 by decide) c13
              refine lv_bipush (v := (-7)) hx hb dX10_paste_93 (by decide) ?_
              exact retDi (Br1 0) hx hb hr hlk hP hD hS dX10_paste_95 (Or.inr (Or.inr (Or.inl ⟨by omega, by omega, by omega, by omega, by decide⟩))) (Nat.le_of_ble_eq_true rfl) (Nat.le_of_ble_eq_true rfl)
            · have zc13 := neK rfl (show (0 : Int32).toInt = 0 by decide) c13
              refine lv_aload hx hb dX10_paste_81 (lv_at hl 0 rfl) ?_
              refine lv_iload hx hb dX10_paste_83 (lv_at hl 6 rfl) ?_
              refine lv_iload hx hb dX10_paste_85 (lv_at hl 7 rfl) ?_
              refine behR (runVP (As := [.int a4, .int a5]) (rest := []) ⟨hx, hb, hml, hown, ht⟩ (sX7_holds l G cs (qm 21) qr1 Fr1 Ar1 Br1 Dr1 hIr1 a4 a5 ) okV_RX10_368 ⟨by decide, by decide⟩ hK hP [5, 6] rfl 5 rfl rfl hl.1 rfl (Nat.le_of_ble_eq_true rfl) dX10_paste_87 ⟨by decide, by decide⟩) hP hS hA (fun r14 H locs hr14 hP hS => ?_)
              have hr14 : (r14.toInt = 1 ∧ 0 ≤ a4.toInt ∧ 0 ≤ a5.toInt ∧ a4.toInt + a5.toInt ≤ 60 ∧ a4.toInt + a5.toInt ≤ (Fr1 3).toInt) ∨ (r14.toInt = 0 ∧ (a4.toInt < 0 ∨ a5.toInt < 0 ∨ (Fr1 3).toInt < a4.toInt + a5.toInt)) := hr14
              refine lv_if_ne (tgt := 96) hx hb dX10_paste_90 (by decide) (fun c15 => ?_) (fun c15 => ?_)
              · have zc15 := neK rfl (show (0 : Int32).toInt = 0 by decide) c15
                refine lv_aload hx hb dX10_paste_96 (lv_at hl 1 rfl) ?_
                refine getF (v := .ref (qr0 0)) hx hb ht hown hK hP iTX7 3 0 rfl rfl (by decide) fl_RX10_357 rfl dX10_paste_98 ?_
                refine lv_iload_n hx hb dX10_paste_101 rfl (lv_at hl 4 rfl) ?_
                refine lv_aload hx hb dX10_paste_102 (lv_at hl 0 rfl) ?_
                refine getF (v := .ref (qr1 0)) hx hb ht hown hK hP iTX7 5 0 rfl rfl (by decide) fl_RX10_357 rfl dX10_paste_104 ?_
                refine lv_iload hx hb dX10_paste_107 (lv_at hl 6 rfl) ?_
                refine lv_iload hx hb dX10_paste_109 (lv_at hl 7 rfl) ?_
                refine va_copyl hx hb (by rw [hml]; exact hl.1.symm) hown (ht _ cp_RX10_371) (ht _ cp_nat) (ht _ cp_st) (ht _ cp_in) hK.1 hP hD hS 4 6 2 2 rfl rfl rfl rfl rfl (fun q9 => by have zz := ltK rfl (show (0 : Int32).toInt = 0 by decide) q9; omega) (fun q9 => by have zz := ltK rfl (show (0 : Int32).toInt = 0 by decide) q9; omega) (fun q9 => by have zz := ltK rfl (show (0 : Int32).toInt = 0 by decide) q9; omega) (by have y1 := clK (i := a2) rfl (by omega); have y2 := clK (i := a5) rfl (by omega); omega) (by have y1 := clK (i := a4) rfl (by omega); have y2 := clK (i := a5) rfl (by omega); omega) (fun i hi9 => rfl) (Nat.le_of_ble_eq_true rfl) (Nat.le_of_ble_eq_true rfl) dX10_paste_111 (fun H locs hP hD hS => ?_)
                obtain ⟨g16, hP, hD⟩ : ∃ g16 : Nat → Int64, va_P G vwCl ((uX10 cs adm qm Fm Am Bm Dm) ++ ((uX7 cs (qm 20) qr0 Fr0 Ar0 Br0 Dr0) ++ (uX7 cs (qm 21) qr1 Fr1 Ar1 (vB 0 g16 Br1) Dr1))) H ∧ va_D A0 ((uX10 cs adm qm Fm Am Bm Dm) ++ ((uX7 cs (qm 20) qr0 Fr0 Ar0 Br0 Dr0) ++ (uX7 cs (qm 21) qr1 Fr1 Ar1 (vB 0 g16 Br1) Dr1))) := ⟨_, hP, hD⟩
                refine lv_iconst (v := 0) hx hb dX10_paste_114 (by decide) ?_
                exact retDi g16 hx hb hr hlk hP hD hS dX10_paste_115 (Or.inr (Or.inr (Or.inr ⟨by omega, by omega, by omega, by omega, by decide⟩))) (Nat.le_of_ble_eq_true rfl) (Nat.le_of_ble_eq_true rfl)
              · have zc15 := eqK rfl (show (0 : Int32).toInt = 0 by decide) c15
                refine lv_bipush (v := (-7)) hx hb dX10_paste_93 (by decide) ?_
                exact retDi (Br1 0) hx hb hr hlk hP hD hS dX10_paste_95 (Or.inr (Or.inr (Or.inl ⟨by omega, by omega, by omega, by omega, by decide⟩))) (Nat.le_of_ble_eq_true rfl) (Nat.le_of_ble_eq_true rfl)
          · have zc11 := neK rfl rfl c11
            refine lv_bipush (v := (-8)) hx hb dX10_paste_67 (by decide) ?_
            exact retDi (Br1 0) hx hb hr hlk hP hD hS dX10_paste_69 (Or.inr (Or.inl ⟨by omega, by omega, by omega, by decide⟩)) (Nat.le_of_ble_eq_true rfl) (Nat.le_of_ble_eq_true rfl)
        · have zc10 := eqK rfl (show (0 : Int32).toInt = 0 by decide) c10
          refine lv_bipush (v := (-6)) hx hb dX10_paste_51 (by decide) ?_
          exact retDi (Br1 0) hx hb hr hlk hP hD hS dX10_paste_53 (Or.inl ⟨by omega, by decide⟩) (Nat.le_of_ble_eq_true rfl) (Nat.le_of_ble_eq_true rfl)
    · have zc6 := eqK rfl (show (0 : Int32).toInt = 0 by decide) c6
      refine lv_bipush (v := (-2)) hx hb dX10_paste_16 (by decide) ?_
      exact retDi (Br1 0) hx hb hr hlk hP hD hS dX10_paste_18 (False.elim (by omega)) (Nat.le_of_ble_eq_true rfl) (Nat.le_of_ble_eq_true rfl)

set_option maxRecDepth 100000 in
set_option maxHeartbeats 16000000 in
theorem sX10_paste_0_2 (l : Launch) (G : va_G) (cs : Nat → ClassId) (adm : Nat) (qm : Nat → Nat) (Fm : Nat → Int32) (Am : Nat → Nat → Int32) (Bm : Nat → Nat → Int64) (Dm : Int64) (hIm : IX10 Fm Am) (qr0 : Nat → Nat) (Fr0 : Nat → Int32) (Ar0 : Nat → Nat → Int32) (Br0 : Nat → Nat → Int64) (Dr0 : Int64) (hIr0 : IX7 Fr0 Ar0) (qr2 : Nat → Nat) (Fr2 : Nat → Int32) (Ar2 : Nat → Nat → Int32) (Br2 : Nat → Nat → Int64) (Dr2 : Int64) (hIr2 : IX7 Fr2 Ar2) (a2 : Int32) (a4 : Int32) (a5 : Int32) : ∀ sz : Nat, Met l yX10_paste (wk yX10_paste cX10_paste 8 (some .int)) (rmk 1 0 0) (PreD G (TY cs) [.ref adm, .int 0, .int a2, .int 2, .int a4, .int a5] ((uX10 cs adm qm Fm Am Bm Dm) ++ ((uX7 cs (qm 20) qr0 Fr0 Ar0 Br0 Dr0) ++ (uX7 cs (qm 22) qr2 Fr2 Ar2 Br2 Dr2))) sz) ((QDi G (fun (r : Int32) (u : (Nat → Int64)) => (((Fr0 1).toInt = 0 ∨ (Fr2 1).toInt = 0) ∧ r.toInt = -6) ∨ (¬ (Fr0 1).toInt = 0 ∧ ¬ (Fr2 1).toInt = 0 ∧ ¬ (Fr0 2).toInt = (Fr2 2).toInt ∧ r.toInt = -8) ∨ (¬ (Fr0 1).toInt = 0 ∧ ¬ (Fr2 1).toInt = 0 ∧ (Fr0 2).toInt = (Fr2 2).toInt ∧ (a2.toInt < 0 ∨ a4.toInt < 0 ∨ a5.toInt < 0 ∨ (Fr0 3).toInt < a2.toInt + a5.toInt ∨ (Fr2 3).toInt < a4.toInt + a5.toInt) ∧ r.toInt = -7) ∨ (¬ (Fr0 1).toInt = 0 ∧ ¬ (Fr2 1).toInt = 0 ∧ (Fr0 2).toInt = (Fr2 2).toInt ∧ ¬ (a2.toInt < 0 ∨ a4.toInt < 0 ∨ a5.toInt < 0 ∨ (Fr0 3).toInt < a2.toInt + a5.toInt ∨ (Fr2 3).toInt < a4.toInt + a5.toInt) ∧ r.toInt = 0)) (fun u : (Nat → Int64) => ((uX10 cs adm qm Fm Am Bm Dm) ++ ((uX7 cs (qm 20) qr0 Fr0 Ar0 Br0 Dr0) ++ (wX7 cs (qm 22) qr2 Fr2 Ar2 (vA Br2 0 u) Dr2))))) (va_A ((uX10 cs adm qm Fm Am Bm Dm) ++ ((uX7 cs (qm 20) qr0 Fr0 Ar0 Br0 Dr0) ++ (uX7 cs (qm 22) qr2 Fr2 Ar2 Br2 Dr2))) sz)) 0 0 (va_A ((uX10 cs adm qm Fm Am Bm Dm) ++ ((uX7 cs (qm 20) qr0 Fr0 Ar0 Br0 Dr0) ++ (uX7 cs (qm 22) qr2 Fr2 Ar2 Br2 Dr2))) sz) := by
  refine mkD (Qc := (QDi G (fun (r : Int32) (u : (Nat → Int64)) => (((Fr0 1).toInt = 0 ∨ (Fr2 1).toInt = 0) ∧ r.toInt = -6) ∨ (¬ (Fr0 1).toInt = 0 ∧ ¬ (Fr2 1).toInt = 0 ∧ ¬ (Fr0 2).toInt = (Fr2 2).toInt ∧ r.toInt = -8) ∨ (¬ (Fr0 1).toInt = 0 ∧ ¬ (Fr2 1).toInt = 0 ∧ (Fr0 2).toInt = (Fr2 2).toInt ∧ (a2.toInt < 0 ∨ a4.toInt < 0 ∨ a5.toInt < 0 ∨ (Fr0 3).toInt < a2.toInt + a5.toInt ∨ (Fr2 3).toInt < a4.toInt + a5.toInt) ∧ r.toInt = -7) ∨ (¬ (Fr0 1).toInt = 0 ∧ ¬ (Fr2 1).toInt = 0 ∧ (Fr0 2).toInt = (Fr2 2).toInt ∧ ¬ (a2.toInt < 0 ∨ a4.toInt < 0 ∨ a5.toInt < 0 ∨ (Fr0 3).toInt < a2.toInt + a5.toInt ∨ (Fr2 3).toInt < a4.toInt + a5.toInt) ∧ r.toInt = 0)) (fun u : (Nat → Int64) => ((uX10 cs adm qm Fm Am Bm Dm) ++ ((uX7 cs (qm 20) qr0 Fr0 Ar0 Br0 Dr0) ++ (wX7 cs (qm 22) qr2 Fr2 Ar2 (vA Br2 0 u) Dr2)))))) (by decide) (by simp [lg_sl, Value.category]) ?_
  intro p e s m args below meth c ls A0 hx hb hml hr hlk hown hmn ht hK hP hD hS hA hl
  have hl : lv_has ls 8 [(0, .ref adm), (1, .int 0), (2, .int a2), (3, .int 2), (4, .int a4), (5, .int a5)] := hl
  refine lv_aload_n hx hb dX10_paste_0 rfl (lv_at hl 0 rfl) ?_
  refine lv_iload_n hx hb dX10_paste_1 rfl (lv_at hl 1 rfl) ?_
  refine behR (runVP (As := [.int 0]) (rest := []) ⟨hx, hb, hml, hown, ht⟩ (sX10_isSlot l G cs adm qm Fm Am Bm Dm hIm 0 ) okV_RX10_348 ⟨by decide, by decide⟩ hK hP [0, 1, 2] rfl 0 rfl rfl hl.1 rfl (Nat.le_of_ble_eq_true rfl) dX10_paste_2 ⟨by decide, by decide⟩) hP hS hA (fun r1 H locs hr1 hP hS => ?_)
  have kk2 : (0 : Int32).toInt = 0 := by decide
  have hr1 : (r1.toInt = 1 ∧ 0 ≤ (0 : Int32).toInt ∧ (0 : Int32).toInt ≤ 3) ∨ (r1.toInt = 0 ∧ ((0 : Int32).toInt < 0 ∨ 3 < (0 : Int32).toInt)) := hr1
  refine lv_if_eq (tgt := 16) hx hb dX10_paste_5 (by decide) (fun c3 => ?_) (fun c3 => ?_)
  · have zc3 := eqK rfl (show (0 : Int32).toInt = 0 by decide) c3
    refine lv_bipush (v := (-2)) hx hb dX10_paste_16 (by decide) ?_
    exact retDi (Br2 0) hx hb hr hlk hP hD hS dX10_paste_18 (False.elim (by omega)) (Nat.le_of_ble_eq_true rfl) (Nat.le_of_ble_eq_true rfl)
  · have zc3 := neK rfl (show (0 : Int32).toInt = 0 by decide) c3
    refine lv_aload_n hx hb dX10_paste_8 rfl (lv_at hl 0 rfl) ?_
    refine lv_iload_n hx hb dX10_paste_9 rfl (lv_at hl 3 rfl) ?_
    refine behR (runVP (As := [.int 2]) (rest := []) ⟨hx, hb, hml, hown, ht⟩ (sX10_isSlot l G cs adm qm Fm Am Bm Dm hIm 2 ) okV_RX10_348 ⟨by decide, by decide⟩ hK hP [0, 1, 2] rfl 0 rfl rfl hl.1 rfl (Nat.le_of_ble_eq_true rfl) dX10_paste_10 ⟨by decide, by decide⟩) hP hS hA (fun r4 H locs hr4 hP hS => ?_)
    have kk5 : (2 : Int32).toInt = 2 := by decide
    have hr4 : (r4.toInt = 1 ∧ 0 ≤ (2 : Int32).toInt ∧ (2 : Int32).toInt ≤ 3) ∨ (r4.toInt = 0 ∧ ((2 : Int32).toInt < 0 ∨ 3 < (2 : Int32).toInt)) := hr4
    refine lv_if_ne (tgt := 19) hx hb dX10_paste_13 (by decide) (fun c6 => ?_) (fun c6 => ?_)
    · have zc6 := neK rfl (show (0 : Int32).toInt = 0 by decide) c6
      refine lv_aload_n hx hb dX10_paste_19 rfl (lv_at hl 0 rfl) ?_
      refine getF (v := .ref (qm 5)) hx hb ht hown hK hP iTX10 0 5 rfl rfl (by decide) fl_RX10_41 rfl dX10_paste_20 ?_
      refine lv_iload_n hx hb dX10_paste_23 rfl (lv_at hl 1 rfl) ?_
      refine va_aldq hx hb hK.1 hP 2 5 rfl rfl (show ¬ (_ ∨ _) by decide) dX10_paste_24 ?_
      refine W.eq (g2 := F0 m 25 ls [.ref (qm 20)]) rfl ?_
      refine lv_astore (lv' := [(6, .ref (qm 20)), (0, .ref adm), (1, .int 0), (2, .int a2), (3, .int 2), (4, .int a4), (5, .int a5)]) hx hb dX10_paste_25 hl (by decide) rfl (fun ls hl => ?_)
      refine lv_aload_n hx hb dX10_paste_27 rfl (lv_at hl 1 rfl) ?_
      refine getF (v := .ref (qm 5)) hx hb ht hown hK hP iTX10 0 5 rfl rfl (by decide) fl_RX10_41 rfl dX10_paste_28 ?_
      refine lv_iload_n hx hb dX10_paste_31 rfl (lv_at hl 4 rfl) ?_
      refine va_aldq hx hb hK.1 hP 2 5 rfl rfl (show ¬ (_ ∨ _) by decide) dX10_paste_32 ?_
      refine W.eq (g2 := F0 m 33 ls [.ref (qm 22)]) rfl ?_
      refine lv_astore (lv' := [(7, .ref (qm 22)), (6, .ref (qm 20)), (0, .ref adm), (1, .int 0), (2, .int a2), (3, .int 2), (4, .int a4), (5, .int a5)]) hx hb dX10_paste_33 hl (by decide) rfl (fun ls hl => ?_)
      refine lv_aload hx hb dX10_paste_35 (lv_at hl 1 rfl) ?_
      refine getF (v := .int (Fr0 1)) hx hb ht hown hK hP iTX7 3 1 rfl rfl (by decide) fl_RX10_354 rfl dX10_paste_37 ?_
      have zf7 : (0 : Int) ≤ (Fr0 1).toInt ∧ (Fr0 1).toInt ≤ 1 := hIr0.1 1
      refine lv_if_eq (tgt := 51) hx hb dX10_paste_40 (by decide) (fun c8 => ?_) (fun c8 => ?_)
      · have zc8 := eqK rfl (show (0 : Int32).toInt = 0 by decide) c8
        refine lv_bipush (v := (-6)) hx hb dX10_paste_51 (by decide) ?_
        exact retDi (Br2 0) hx hb hr hlk hP hD hS dX10_paste_53 (Or.inl ⟨by omega, by decide⟩) (Nat.le_of_ble_eq_true rfl) (Nat.le_of_ble_eq_true rfl)
      · have zc8 := neK rfl (show (0 : Int32).toInt = 0 by decide) c8
        refine lv_aload hx hb dX10_paste_43 (lv_at hl 0 rfl) ?_
        refine getF (v := .int (Fr2 1)) hx hb ht hown hK hP iTX7 5 1 rfl rfl (by decide) fl_RX10_354 rfl dX10_paste_45 ?_
        have zf9 : (0 : Int) ≤ (Fr2 1).toInt ∧ (Fr2 1).toInt ≤ 1 := hIr2.1 1
        refine lv_if_ne (tgt := 54) hx hb dX10_paste_48 (by decide) (fun c10 => ?_) (fun c10 => ?_)
        · have zc10 := neK rfl (show (0 : Int32).toInt = 0 by decide) c10
          refine lv_aload hx hb dX10_paste_54 (lv_at hl 1 rfl) ?_
          refine getF (v := .int (Fr0 2)) hx hb ht hown hK hP iTX7 3 2 rfl rfl (by decide) fl_RX10_365 rfl dX10_paste_56 ?_
          refine lv_aload hx hb dX10_paste_59 (lv_at hl 0 rfl) ?_
          refine getF (v := .int (Fr2 2)) hx hb ht hown hK hP iTX7 5 2 rfl rfl (by decide) fl_RX10_365 rfl dX10_paste_61 ?_
          refine lv_icmp_eq (tgt := 70) hx hb dX10_paste_64 (by decide) (fun c11 => ?_) (fun c11 => ?_)
          · have zc11 := eqK rfl rfl c11
            refine lv_aload hx hb dX10_paste_70 (lv_at hl 1 rfl) ?_
            refine lv_iload_n hx hb dX10_paste_72 rfl (lv_at hl 4 rfl) ?_
            refine lv_iload hx hb dX10_paste_73 (lv_at hl 7 rfl) ?_
            refine behR (runVP (As := [.int a2, .int a5]) (rest := []) ⟨hx, hb, hml, hown, ht⟩ (sX7_holds l G cs (qm 20) qr0 Fr0 Ar0 Br0 Dr0 hIr0 a2 a5 ) okV_RX10_368 ⟨by decide, by decide⟩ hK hP [3, 4] rfl 3 rfl rfl hl.1 rfl (Nat.le_of_ble_eq_true rfl) dX10_paste_75 ⟨by decide, by decide⟩) hP hS hA (fun r12 H locs hr12 hP hS => ?_)
            have hr12 : (r12.toInt = 1 ∧ 0 ≤ a2.toInt ∧ 0 ≤ a5.toInt ∧ a2.toInt + a5.toInt ≤ 60 ∧ a2.toInt + a5.toInt ≤ (Fr0 3).toInt) ∨ (r12.toInt = 0 ∧ (a2.toInt < 0 ∨ a5.toInt < 0 ∨ (Fr0 3).toInt < a2.toInt + a5.toInt)) := hr12
            refine lv_if_eq (tgt := 93) hx hb dX10_paste_78 (by decide) (fun c13 => ?_) (fun c13 => ?_)
            · have zc13 := eqK rfl (show (0 : Int32).toInt = 0 by decide) c13
              refine lv_bipush (v := (-7)) hx hb dX10_paste_93 (by decide) ?_
              exact retDi (Br2 0) hx hb hr hlk hP hD hS dX10_paste_95 (Or.inr (Or.inr (Or.inl ⟨by omega, by omega, by omega, by omega, by decide⟩))) (Nat.le_of_ble_eq_true rfl) (Nat.le_of_ble_eq_true rfl)
            · have zc13 := neK rfl (show (0 : Int32).toInt = 0 by decide) c13
              refine lv_aload hx hb dX10_paste_81 (lv_at hl 0 rfl) ?_
              refine lv_iload hx hb dX10_paste_83 (lv_at hl 6 rfl) ?_
              refine lv_iload hx hb dX10_paste_85 (lv_at hl 7 rfl) ?_
              refine behR (runVP (As := [.int a4, .int a5]) (rest := []) ⟨hx, hb, hml, hown, ht⟩ (sX7_holds l G cs (qm 22) qr2 Fr2 Ar2 Br2 Dr2 hIr2 a4 a5 ) okV_RX10_368 ⟨by decide, by decide⟩ hK hP [5, 6] rfl 5 rfl rfl hl.1 rfl (Nat.le_of_ble_eq_true rfl) dX10_paste_87 ⟨by decide, by decide⟩) hP hS hA (fun r14 H locs hr14 hP hS => ?_)
              have hr14 : (r14.toInt = 1 ∧ 0 ≤ a4.toInt ∧ 0 ≤ a5.toInt ∧ a4.toInt + a5.toInt ≤ 60 ∧ a4.toInt + a5.toInt ≤ (Fr2 3).toInt) ∨ (r14.toInt = 0 ∧ (a4.toInt < 0 ∨ a5.toInt < 0 ∨ (Fr2 3).toInt < a4.toInt + a5.toInt)) := hr14
              refine lv_if_ne (tgt := 96) hx hb dX10_paste_90 (by decide) (fun c15 => ?_) (fun c15 => ?_)
              · have zc15 := neK rfl (show (0 : Int32).toInt = 0 by decide) c15
                refine lv_aload hx hb dX10_paste_96 (lv_at hl 1 rfl) ?_
                refine getF (v := .ref (qr0 0)) hx hb ht hown hK hP iTX7 3 0 rfl rfl (by decide) fl_RX10_357 rfl dX10_paste_98 ?_
                refine lv_iload_n hx hb dX10_paste_101 rfl (lv_at hl 4 rfl) ?_
                refine lv_aload hx hb dX10_paste_102 (lv_at hl 0 rfl) ?_
                refine getF (v := .ref (qr2 0)) hx hb ht hown hK hP iTX7 5 0 rfl rfl (by decide) fl_RX10_357 rfl dX10_paste_104 ?_
                refine lv_iload hx hb dX10_paste_107 (lv_at hl 6 rfl) ?_
                refine lv_iload hx hb dX10_paste_109 (lv_at hl 7 rfl) ?_
                refine va_copyl hx hb (by rw [hml]; exact hl.1.symm) hown (ht _ cp_RX10_371) (ht _ cp_nat) (ht _ cp_st) (ht _ cp_in) hK.1 hP hD hS 4 6 2 2 rfl rfl rfl rfl rfl (fun q9 => by have zz := ltK rfl (show (0 : Int32).toInt = 0 by decide) q9; omega) (fun q9 => by have zz := ltK rfl (show (0 : Int32).toInt = 0 by decide) q9; omega) (fun q9 => by have zz := ltK rfl (show (0 : Int32).toInt = 0 by decide) q9; omega) (by have y1 := clK (i := a2) rfl (by omega); have y2 := clK (i := a5) rfl (by omega); omega) (by have y1 := clK (i := a4) rfl (by omega); have y2 := clK (i := a5) rfl (by omega); omega) (fun i hi9 => rfl) (Nat.le_of_ble_eq_true rfl) (Nat.le_of_ble_eq_true rfl) dX10_paste_111 (fun H locs hP hD hS => ?_)
                obtain ⟨g16, hP, hD⟩ : ∃ g16 : Nat → Int64, va_P G vwCl ((uX10 cs adm qm Fm Am Bm Dm) ++ ((uX7 cs (qm 20) qr0 Fr0 Ar0 Br0 Dr0) ++ (uX7 cs (qm 22) qr2 Fr2 Ar2 (vB 0 g16 Br2) Dr2))) H ∧ va_D A0 ((uX10 cs adm qm Fm Am Bm Dm) ++ ((uX7 cs (qm 20) qr0 Fr0 Ar0 Br0 Dr0) ++ (uX7 cs (qm 22) qr2 Fr2 Ar2 (vB 0 g16 Br2) Dr2))) := ⟨_, hP, hD⟩
                refine lv_iconst (v := 0) hx hb dX10_paste_114 (by decide) ?_
                exact retDi g16 hx hb hr hlk hP hD hS dX10_paste_115 (Or.inr (Or.inr (Or.inr ⟨by omega, by omega, by omega, by omega, by decide⟩))) (Nat.le_of_ble_eq_true rfl) (Nat.le_of_ble_eq_true rfl)
              · have zc15 := eqK rfl (show (0 : Int32).toInt = 0 by decide) c15
                refine lv_bipush (v := (-7)) hx hb dX10_paste_93 (by decide) ?_
                exact retDi (Br2 0) hx hb hr hlk hP hD hS dX10_paste_95 (Or.inr (Or.inr (Or.inl ⟨by omega, by omega, by omega, by omega, by decide⟩))) (Nat.le_of_ble_eq_true rfl) (Nat.le_of_ble_eq_true rfl)
          · have zc11 := neK rfl rfl c11
            refine lv_bipush (v := (-8)) hx hb dX10_paste_67 (by decide) ?_
            exact retDi (Br2 0) hx hb hr hlk hP hD hS dX10_paste_69 (Or.inr (Or.inl ⟨by omega, by omega, by omega, by decide⟩)) (Nat.le_of_ble_eq_true rfl) (Nat.le_of_ble_eq_true rfl)
        · have zc10 := eqK rfl (show (0 : Int32).toInt = 0 by decide) c10
          refine lv_bipush (v := (-6)) hx hb dX10_paste_51 (by decide) ?_
          exact retDi (Br2 0) hx hb hr hlk hP hD hS dX10_paste_53 (Or.inl ⟨by omega, by decide⟩) (Nat.le_of_ble_eq_true rfl) (Nat.le_of_ble_eq_true rfl)
    · have zc6 := eqK rfl (show (0 : Int32).toInt = 0 by decide) c6
      refine lv_bipush (v := (-2)) hx hb dX10_paste_16 (by decide) ?_
      exact retDi (Br2 0) hx hb hr hlk hP hD hS dX10_paste_18 (False.elim (by omega)) (Nat.le_of_ble_eq_true rfl) (Nat.le_of_ble_eq_true rfl)

set_option maxRecDepth 100000 in
set_option maxHeartbeats 16000000 in
theorem sX10_paste_0_3 (l : Launch) (G : va_G) (cs : Nat → ClassId) (adm : Nat) (qm : Nat → Nat) (Fm : Nat → Int32) (Am : Nat → Nat → Int32) (Bm : Nat → Nat → Int64) (Dm : Int64) (hIm : IX10 Fm Am) (qr0 : Nat → Nat) (Fr0 : Nat → Int32) (Ar0 : Nat → Nat → Int32) (Br0 : Nat → Nat → Int64) (Dr0 : Int64) (hIr0 : IX7 Fr0 Ar0) (qr3 : Nat → Nat) (Fr3 : Nat → Int32) (Ar3 : Nat → Nat → Int32) (Br3 : Nat → Nat → Int64) (Dr3 : Int64) (hIr3 : IX7 Fr3 Ar3) (a2 : Int32) (a4 : Int32) (a5 : Int32) : ∀ sz : Nat, Met l yX10_paste (wk yX10_paste cX10_paste 8 (some .int)) (rmk 1 0 0) (PreD G (TY cs) [.ref adm, .int 0, .int a2, .int 3, .int a4, .int a5] ((uX10 cs adm qm Fm Am Bm Dm) ++ ((uX7 cs (qm 20) qr0 Fr0 Ar0 Br0 Dr0) ++ (uX7 cs (qm 23) qr3 Fr3 Ar3 Br3 Dr3))) sz) ((QDi G (fun (r : Int32) (u : (Nat → Int64)) => (((Fr0 1).toInt = 0 ∨ (Fr3 1).toInt = 0) ∧ r.toInt = -6) ∨ (¬ (Fr0 1).toInt = 0 ∧ ¬ (Fr3 1).toInt = 0 ∧ ¬ (Fr0 2).toInt = (Fr3 2).toInt ∧ r.toInt = -8) ∨ (¬ (Fr0 1).toInt = 0 ∧ ¬ (Fr3 1).toInt = 0 ∧ (Fr0 2).toInt = (Fr3 2).toInt ∧ (a2.toInt < 0 ∨ a4.toInt < 0 ∨ a5.toInt < 0 ∨ (Fr0 3).toInt < a2.toInt + a5.toInt ∨ (Fr3 3).toInt < a4.toInt + a5.toInt) ∧ r.toInt = -7) ∨ (¬ (Fr0 1).toInt = 0 ∧ ¬ (Fr3 1).toInt = 0 ∧ (Fr0 2).toInt = (Fr3 2).toInt ∧ ¬ (a2.toInt < 0 ∨ a4.toInt < 0 ∨ a5.toInt < 0 ∨ (Fr0 3).toInt < a2.toInt + a5.toInt ∨ (Fr3 3).toInt < a4.toInt + a5.toInt) ∧ r.toInt = 0)) (fun u : (Nat → Int64) => ((uX10 cs adm qm Fm Am Bm Dm) ++ ((uX7 cs (qm 20) qr0 Fr0 Ar0 Br0 Dr0) ++ (wX7 cs (qm 23) qr3 Fr3 Ar3 (vA Br3 0 u) Dr3))))) (va_A ((uX10 cs adm qm Fm Am Bm Dm) ++ ((uX7 cs (qm 20) qr0 Fr0 Ar0 Br0 Dr0) ++ (uX7 cs (qm 23) qr3 Fr3 Ar3 Br3 Dr3))) sz)) 0 0 (va_A ((uX10 cs adm qm Fm Am Bm Dm) ++ ((uX7 cs (qm 20) qr0 Fr0 Ar0 Br0 Dr0) ++ (uX7 cs (qm 23) qr3 Fr3 Ar3 Br3 Dr3))) sz) := by
  refine mkD (Qc := (QDi G (fun (r : Int32) (u : (Nat → Int64)) => (((Fr0 1).toInt = 0 ∨ (Fr3 1).toInt = 0) ∧ r.toInt = -6) ∨ (¬ (Fr0 1).toInt = 0 ∧ ¬ (Fr3 1).toInt = 0 ∧ ¬ (Fr0 2).toInt = (Fr3 2).toInt ∧ r.toInt = -8) ∨ (¬ (Fr0 1).toInt = 0 ∧ ¬ (Fr3 1).toInt = 0 ∧ (Fr0 2).toInt = (Fr3 2).toInt ∧ (a2.toInt < 0 ∨ a4.toInt < 0 ∨ a5.toInt < 0 ∨ (Fr0 3).toInt < a2.toInt + a5.toInt ∨ (Fr3 3).toInt < a4.toInt + a5.toInt) ∧ r.toInt = -7) ∨ (¬ (Fr0 1).toInt = 0 ∧ ¬ (Fr3 1).toInt = 0 ∧ (Fr0 2).toInt = (Fr3 2).toInt ∧ ¬ (a2.toInt < 0 ∨ a4.toInt < 0 ∨ a5.toInt < 0 ∨ (Fr0 3).toInt < a2.toInt + a5.toInt ∨ (Fr3 3).toInt < a4.toInt + a5.toInt) ∧ r.toInt = 0)) (fun u : (Nat → Int64) => ((uX10 cs adm qm Fm Am Bm Dm) ++ ((uX7 cs (qm 20) qr0 Fr0 Ar0 Br0 Dr0) ++ (wX7 cs (qm 23) qr3 Fr3 Ar3 (vA Br3 0 u) Dr3)))))) (by decide) (by simp [lg_sl, Value.category]) ?_
  intro p e s m args below meth c ls A0 hx hb hml hr hlk hown hmn ht hK hP hD hS hA hl
  have hl : lv_has ls 8 [(0, .ref adm), (1, .int 0), (2, .int a2), (3, .int 3), (4, .int a4), (5, .int a5)] := hl
  refine lv_aload_n hx hb dX10_paste_0 rfl (lv_at hl 0 rfl) ?_
  refine lv_iload_n hx hb dX10_paste_1 rfl (lv_at hl 1 rfl) ?_
  refine behR (runVP (As := [.int 0]) (rest := []) ⟨hx, hb, hml, hown, ht⟩ (sX10_isSlot l G cs adm qm Fm Am Bm Dm hIm 0 ) okV_RX10_348 ⟨by decide, by decide⟩ hK hP [0, 1, 2] rfl 0 rfl rfl hl.1 rfl (Nat.le_of_ble_eq_true rfl) dX10_paste_2 ⟨by decide, by decide⟩) hP hS hA (fun r1 H locs hr1 hP hS => ?_)
  have kk2 : (0 : Int32).toInt = 0 := by decide
  have hr1 : (r1.toInt = 1 ∧ 0 ≤ (0 : Int32).toInt ∧ (0 : Int32).toInt ≤ 3) ∨ (r1.toInt = 0 ∧ ((0 : Int32).toInt < 0 ∨ 3 < (0 : Int32).toInt)) := hr1
  refine lv_if_eq (tgt := 16) hx hb dX10_paste_5 (by decide) (fun c3 => ?_) (fun c3 => ?_)
  · have zc3 := eqK rfl (show (0 : Int32).toInt = 0 by decide) c3
    refine lv_bipush (v := (-2)) hx hb dX10_paste_16 (by decide) ?_
    exact retDi (Br3 0) hx hb hr hlk hP hD hS dX10_paste_18 (False.elim (by omega)) (Nat.le_of_ble_eq_true rfl) (Nat.le_of_ble_eq_true rfl)
  · have zc3 := neK rfl (show (0 : Int32).toInt = 0 by decide) c3
    refine lv_aload_n hx hb dX10_paste_8 rfl (lv_at hl 0 rfl) ?_
    refine lv_iload_n hx hb dX10_paste_9 rfl (lv_at hl 3 rfl) ?_
    refine behR (runVP (As := [.int 3]) (rest := []) ⟨hx, hb, hml, hown, ht⟩ (sX10_isSlot l G cs adm qm Fm Am Bm Dm hIm 3 ) okV_RX10_348 ⟨by decide, by decide⟩ hK hP [0, 1, 2] rfl 0 rfl rfl hl.1 rfl (Nat.le_of_ble_eq_true rfl) dX10_paste_10 ⟨by decide, by decide⟩) hP hS hA (fun r4 H locs hr4 hP hS => ?_)
    have kk5 : (3 : Int32).toInt = 3 := by decide
    have hr4 : (r4.toInt = 1 ∧ 0 ≤ (3 : Int32).toInt ∧ (3 : Int32).toInt ≤ 3) ∨ (r4.toInt = 0 ∧ ((3 : Int32).toInt < 0 ∨ 3 < (3 : Int32).toInt)) := hr4
    refine lv_if_ne (tgt := 19) hx hb dX10_paste_13 (by decide) (fun c6 => ?_) (fun c6 => ?_)
    · have zc6 := neK rfl (show (0 : Int32).toInt = 0 by decide) c6
      refine lv_aload_n hx hb dX10_paste_19 rfl (lv_at hl 0 rfl) ?_
      refine getF (v := .ref (qm 5)) hx hb ht hown hK hP iTX10 0 5 rfl rfl (by decide) fl_RX10_41 rfl dX10_paste_20 ?_
      refine lv_iload_n hx hb dX10_paste_23 rfl (lv_at hl 1 rfl) ?_
      refine va_aldq hx hb hK.1 hP 2 5 rfl rfl (show ¬ (_ ∨ _) by decide) dX10_paste_24 ?_
      refine W.eq (g2 := F0 m 25 ls [.ref (qm 20)]) rfl ?_
      refine lv_astore (lv' := [(6, .ref (qm 20)), (0, .ref adm), (1, .int 0), (2, .int a2), (3, .int 3), (4, .int a4), (5, .int a5)]) hx hb dX10_paste_25 hl (by decide) rfl (fun ls hl => ?_)
      refine lv_aload_n hx hb dX10_paste_27 rfl (lv_at hl 1 rfl) ?_
      refine getF (v := .ref (qm 5)) hx hb ht hown hK hP iTX10 0 5 rfl rfl (by decide) fl_RX10_41 rfl dX10_paste_28 ?_
      refine lv_iload_n hx hb dX10_paste_31 rfl (lv_at hl 4 rfl) ?_
      refine va_aldq hx hb hK.1 hP 2 5 rfl rfl (show ¬ (_ ∨ _) by decide) dX10_paste_32 ?_
      refine W.eq (g2 := F0 m 33 ls [.ref (qm 23)]) rfl ?_
      refine lv_astore (lv' := [(7, .ref (qm 23)), (6, .ref (qm 20)), (0, .ref adm), (1, .int 0), (2, .int a2), (3, .int 3), (4, .int a4), (5, .int a5)]) hx hb dX10_paste_33 hl (by decide) rfl (fun ls hl => ?_)
      refine lv_aload hx hb dX10_paste_35 (lv_at hl 1 rfl) ?_
      refine getF (v := .int (Fr0 1)) hx hb ht hown hK hP iTX7 3 1 rfl rfl (by decide) fl_RX10_354 rfl dX10_paste_37 ?_
      have zf7 : (0 : Int) ≤ (Fr0 1).toInt ∧ (Fr0 1).toInt ≤ 1 := hIr0.1 1
      refine lv_if_eq (tgt := 51) hx hb dX10_paste_40 (by decide) (fun c8 => ?_) (fun c8 => ?_)
      · have zc8 := eqK rfl (show (0 : Int32).toInt = 0 by decide) c8
        refine lv_bipush (v := (-6)) hx hb dX10_paste_51 (by decide) ?_
        exact retDi (Br3 0) hx hb hr hlk hP hD hS dX10_paste_53 (Or.inl ⟨by omega, by decide⟩) (Nat.le_of_ble_eq_true rfl) (Nat.le_of_ble_eq_true rfl)
      · have zc8 := neK rfl (show (0 : Int32).toInt = 0 by decide) c8
        refine lv_aload hx hb dX10_paste_43 (lv_at hl 0 rfl) ?_
        refine getF (v := .int (Fr3 1)) hx hb ht hown hK hP iTX7 5 1 rfl rfl (by decide) fl_RX10_354 rfl dX10_paste_45 ?_
        have zf9 : (0 : Int) ≤ (Fr3 1).toInt ∧ (Fr3 1).toInt ≤ 1 := hIr3.1 1
        refine lv_if_ne (tgt := 54) hx hb dX10_paste_48 (by decide) (fun c10 => ?_) (fun c10 => ?_)
        · have zc10 := neK rfl (show (0 : Int32).toInt = 0 by decide) c10
          refine lv_aload hx hb dX10_paste_54 (lv_at hl 1 rfl) ?_
          refine getF (v := .int (Fr0 2)) hx hb ht hown hK hP iTX7 3 2 rfl rfl (by decide) fl_RX10_365 rfl dX10_paste_56 ?_
          refine lv_aload hx hb dX10_paste_59 (lv_at hl 0 rfl) ?_
          refine getF (v := .int (Fr3 2)) hx hb ht hown hK hP iTX7 5 2 rfl rfl (by decide) fl_RX10_365 rfl dX10_paste_61 ?_
          refine lv_icmp_eq (tgt := 70) hx hb dX10_paste_64 (by decide) (fun c11 => ?_) (fun c11 => ?_)
          · have zc11 := eqK rfl rfl c11
            refine lv_aload hx hb dX10_paste_70 (lv_at hl 1 rfl) ?_
            refine lv_iload_n hx hb dX10_paste_72 rfl (lv_at hl 4 rfl) ?_
            refine lv_iload hx hb dX10_paste_73 (lv_at hl 7 rfl) ?_
            refine behR (runVP (As := [.int a2, .int a5]) (rest := []) ⟨hx, hb, hml, hown, ht⟩ (sX7_holds l G cs (qm 20) qr0 Fr0 Ar0 Br0 Dr0 hIr0 a2 a5 ) okV_RX10_368 ⟨by decide, by decide⟩ hK hP [3, 4] rfl 3 rfl rfl hl.1 rfl (Nat.le_of_ble_eq_true rfl) dX10_paste_75 ⟨by decide, by decide⟩) hP hS hA (fun r12 H locs hr12 hP hS => ?_)
            have hr12 : (r12.toInt = 1 ∧ 0 ≤ a2.toInt ∧ 0 ≤ a5.toInt ∧ a2.toInt + a5.toInt ≤ 60 ∧ a2.toInt + a5.toInt ≤ (Fr0 3).toInt) ∨ (r12.toInt = 0 ∧ (a2.toInt < 0 ∨ a5.toInt < 0 ∨ (Fr0 3).toInt < a2.toInt + a5.toInt)) := hr12
            refine lv_if_eq (tgt := 93) hx hb dX10_paste_78 (by decide) (fun c13 => ?_) (fun c13 => ?_)
            · have zc13 := eqK rfl (show (0 : Int32).toInt = 0 by decide) c13
              refine lv_bipush (v := (-7)) hx hb dX10_paste_93 (by decide) ?_
              exact retDi (Br3 0) hx hb hr hlk hP hD hS dX10_paste_95 (Or.inr (Or.inr (Or.inl ⟨by omega, by omega, by omega, by omega, by decide⟩))) (Nat.le_of_ble_eq_true rfl) (Nat.le_of_ble_eq_true rfl)
            · have zc13 := neK rfl (show (0 : Int32).toInt = 0 by decide) c13
              refine lv_aload hx hb dX10_paste_81 (lv_at hl 0 rfl) ?_
              refine lv_iload hx hb dX10_paste_83 (lv_at hl 6 rfl) ?_
              refine lv_iload hx hb dX10_paste_85 (lv_at hl 7 rfl) ?_
              refine behR (runVP (As := [.int a4, .int a5]) (rest := []) ⟨hx, hb, hml, hown, ht⟩ (sX7_holds l G cs (qm 23) qr3 Fr3 Ar3 Br3 Dr3 hIr3 a4 a5 ) okV_RX10_368 ⟨by decide, by decide⟩ hK hP [5, 6] rfl 5 rfl rfl hl.1 rfl (Nat.le_of_ble_eq_true rfl) dX10_paste_87 ⟨by decide, by decide⟩) hP hS hA (fun r14 H locs hr14 hP hS => ?_)
              have hr14 : (r14.toInt = 1 ∧ 0 ≤ a4.toInt ∧ 0 ≤ a5.toInt ∧ a4.toInt + a5.toInt ≤ 60 ∧ a4.toInt + a5.toInt ≤ (Fr3 3).toInt) ∨ (r14.toInt = 0 ∧ (a4.toInt < 0 ∨ a5.toInt < 0 ∨ (Fr3 3).toInt < a4.toInt + a5.toInt)) := hr14
              refine lv_if_ne (tgt := 96) hx hb dX10_paste_90 (by decide) (fun c15 => ?_) (fun c15 => ?_)
              · have zc15 := neK rfl (show (0 : Int32).toInt = 0 by decide) c15
                refine lv_aload hx hb dX10_paste_96 (lv_at hl 1 rfl) ?_
                refine getF (v := .ref (qr0 0)) hx hb ht hown hK hP iTX7 3 0 rfl rfl (by decide) fl_RX10_357 rfl dX10_paste_98 ?_
                refine lv_iload_n hx hb dX10_paste_101 rfl (lv_at hl 4 rfl) ?_
                refine lv_aload hx hb dX10_paste_102 (lv_at hl 0 rfl) ?_
                refine getF (v := .ref (qr3 0)) hx hb ht hown hK hP iTX7 5 0 rfl rfl (by decide) fl_RX10_357 rfl dX10_paste_104 ?_
                refine lv_iload hx hb dX10_paste_107 (lv_at hl 6 rfl) ?_
                refine lv_iload hx hb dX10_paste_109 (lv_at hl 7 rfl) ?_
                refine va_copyl hx hb (by rw [hml]; exact hl.1.symm) hown (ht _ cp_RX10_371) (ht _ cp_nat) (ht _ cp_st) (ht _ cp_in) hK.1 hP hD hS 4 6 2 2 rfl rfl rfl rfl rfl (fun q9 => by have zz := ltK rfl (show (0 : Int32).toInt = 0 by decide) q9; omega) (fun q9 => by have zz := ltK rfl (show (0 : Int32).toInt = 0 by decide) q9; omega) (fun q9 => by have zz := ltK rfl (show (0 : Int32).toInt = 0 by decide) q9; omega) (by have y1 := clK (i := a2) rfl (by omega); have y2 := clK (i := a5) rfl (by omega); omega) (by have y1 := clK (i := a4) rfl (by omega); have y2 := clK (i := a5) rfl (by omega); omega) (fun i hi9 => rfl) (Nat.le_of_ble_eq_true rfl) (Nat.le_of_ble_eq_true rfl) dX10_paste_111 (fun H locs hP hD hS => ?_)
                obtain ⟨g16, hP, hD⟩ : ∃ g16 : Nat → Int64, va_P G vwCl ((uX10 cs adm qm Fm Am Bm Dm) ++ ((uX7 cs (qm 20) qr0 Fr0 Ar0 Br0 Dr0) ++ (uX7 cs (qm 23) qr3 Fr3 Ar3 (vB 0 g16 Br3) Dr3))) H ∧ va_D A0 ((uX10 cs adm qm Fm Am Bm Dm) ++ ((uX7 cs (qm 20) qr0 Fr0 Ar0 Br0 Dr0) ++ (uX7 cs (qm 23) qr3 Fr3 Ar3 (vB 0 g16 Br3) Dr3))) := ⟨_, hP, hD⟩
                refine lv_iconst (v := 0) hx hb dX10_paste_114 (by decide) ?_
                exact retDi g16 hx hb hr hlk hP hD hS dX10_paste_115 (Or.inr (Or.inr (Or.inr ⟨by omega, by omega, by omega, by omega, by decide⟩))) (Nat.le_of_ble_eq_true rfl) (Nat.le_of_ble_eq_true rfl)
              · have zc15 := eqK rfl (show (0 : Int32).toInt = 0 by decide) c15
                refine lv_bipush (v := (-7)) hx hb dX10_paste_93 (by decide) ?_
                exact retDi (Br3 0) hx hb hr hlk hP hD hS dX10_paste_95 (Or.inr (Or.inr (Or.inl ⟨by omega, by omega, by omega, by omega, by decide⟩))) (Nat.le_of_ble_eq_true rfl) (Nat.le_of_ble_eq_true rfl)
          · have zc11 := neK rfl rfl c11
            refine lv_bipush (v := (-8)) hx hb dX10_paste_67 (by decide) ?_
            exact retDi (Br3 0) hx hb hr hlk hP hD hS dX10_paste_69 (Or.inr (Or.inl ⟨by omega, by omega, by omega, by decide⟩)) (Nat.le_of_ble_eq_true rfl) (Nat.le_of_ble_eq_true rfl)
        · have zc10 := eqK rfl (show (0 : Int32).toInt = 0 by decide) c10
          refine lv_bipush (v := (-6)) hx hb dX10_paste_51 (by decide) ?_
          exact retDi (Br3 0) hx hb hr hlk hP hD hS dX10_paste_53 (Or.inl ⟨by omega, by decide⟩) (Nat.le_of_ble_eq_true rfl) (Nat.le_of_ble_eq_true rfl)
    · have zc6 := eqK rfl (show (0 : Int32).toInt = 0 by decide) c6
      refine lv_bipush (v := (-2)) hx hb dX10_paste_16 (by decide) ?_
      exact retDi (Br3 0) hx hb hr hlk hP hD hS dX10_paste_18 (False.elim (by omega)) (Nat.le_of_ble_eq_true rfl) (Nat.le_of_ble_eq_true rfl)

