set_option maxRecDepth 100000 in
set_option maxHeartbeats 16000000 in
theorem sX3_closeDoor (l : Launch) (G : va_G) (cs : Nat → ClassId) (adt : Nat) (qt : Nat → Nat) (Ft : Nat → Int32) (At : Nat → Nat → Int32) (Bt : Nat → Nat → Int64) (Dt : Int64) (hIt : IX3 Ft At) (a1 : Int32) (a2 : Int32) : ∀ sz : Nat, Met l yX3_closeDoor (wk yX3_closeDoor cX3_closeDoor 3 none) (rmk 1 0 0) (PreD G (TY cs) [.ref adt, .int a1, .int a2] (uX3 cs adt qt Ft At Bt Dt) sz) ((QDw G (fun u : (Nat → Int32) => AJ (0) 127 u ∧ (True)) (fun u : (Nat → Int32) => (wX3 cs adt qt Ft (vA At 10 u) Bt Dt))) (va_A (uX3 cs adt qt Ft At Bt Dt) sz)) 0 0 (va_A (uX3 cs adt qt Ft At Bt Dt) sz) := by
  refine mkD (Qc := (QDw G (fun u : (Nat → Int32) => AJ (0) 127 u ∧ (True)) (fun u : (Nat → Int32) => (wX3 cs adt qt Ft (vA At 10 u) Bt Dt)))) (by decide) (by simp [lg_sl, Value.category]) ?_
  intro p e s m args below meth c ls A0 hx hb hml hr hlk hown hmn ht hK hP hD hS hA hl
  have hl : lv_has ls 3 [(0, .ref adt), (1, .int a1), (2, .int a2)] := hl
  refine lv_aload_n hx hb dX3_closeDoor_0 rfl (lv_at hl 0 rfl) ?_
  refine lv_iload_n hx hb dX3_closeDoor_1 rfl (lv_at hl 1 rfl) ?_
  refine behR (runVP (As := [.int a1]) (rest := []) ⟨hx, hb, hml, hown, ht⟩ (sX3_hasRoom l G cs adt qt Ft At Bt Dt hIt a1 ) okV_RX3_61 ⟨by decide, by decide⟩ hK hP [0, 1, 2, 3, 4, 5, 6, 7] rfl 0 rfl rfl hl.1 rfl (Nat.le_of_ble_eq_true rfl) dX3_closeDoor_2 ⟨by decide, by decide⟩) hP hS hA (fun r1 H locs hr1 hP hS => ?_)
  have hr1 : (r1.toInt = 1 ∧ 0 ≤ a1.toInt ∧ a1.toInt < (Ft 5).toInt ∧ a1.toInt ≤ 6) ∨ r1.toInt = 0 := hr1
  refine lv_if_eq (tgt := 44) hx hb dX3_closeDoor_5 (by decide) (fun c2 => ?_) (fun c2 => ?_)
  · have zc2 := eqK rfl (show (0 : Int32).toInt = 0 by decide) c2
    exact retDw (At 10) hx hb hr hlk hP hD hS dX3_closeDoor_44 (⟨fun j => hIt.2 10 j, trivial⟩) (Nat.le_of_ble_eq_true rfl) (Nat.le_of_ble_eq_true rfl)
  · have zc2 := neK rfl (show (0 : Int32).toInt = 0 by decide) c2
    refine lv_aload_n hx hb dX3_closeDoor_8 rfl (lv_at hl 0 rfl) ?_
    refine lv_iload_n hx hb dX3_closeDoor_9 rfl (lv_at hl 2 rfl) ?_
    refine behR (runVP (As := [.int a2]) (rest := []) ⟨hx, hb, hml, hown, ht⟩ (sX3_hasRoom l G cs adt qt Ft At Bt Dt hIt a2 ) okV_RX3_61 ⟨by decide, by decide⟩ hK hP [0, 1, 2, 3, 4, 5, 6, 7] rfl 0 rfl rfl hl.1 rfl (Nat.le_of_ble_eq_true rfl) dX3_closeDoor_10 ⟨by decide, by decide⟩) hP hS hA (fun r3 H locs hr3 hP hS => ?_)
    have hr3 : (r3.toInt = 1 ∧ 0 ≤ a2.toInt ∧ a2.toInt < (Ft 5).toInt ∧ a2.toInt ≤ 6) ∨ r3.toInt = 0 := hr3
    refine lv_if_eq (tgt := 44) hx hb dX3_closeDoor_13 (by decide) (fun c4 => ?_) (fun c4 => ?_)
    · have zc4 := eqK rfl (show (0 : Int32).toInt = 0 by decide) c4
      exact retDw (At 10) hx hb hr hlk hP hD hS dX3_closeDoor_44 (⟨fun j => hIt.2 10 j, trivial⟩) (Nat.le_of_ble_eq_true rfl) (Nat.le_of_ble_eq_true rfl)
    · have zc4 := neK rfl (show (0 : Int32).toInt = 0 by decide) c4
      refine lv_aload_n hx hb dX3_closeDoor_16 rfl (lv_at hl 0 rfl) ?_
      refine getF (v := .ref (qt 10)) hx hb ht hown hK hP iTX3 0 10 rfl rfl (by decide) fl_RX3_21 rfl dX3_closeDoor_17 ?_
      refine lv_iload_n hx hb dX3_closeDoor_20 rfl (lv_at hl 1 rfl) ?_
      refine lv_dup2_11 hx hb dX3_closeDoor_21 rfl rfl ?_
      refine va_iald hx hb hK.1 hP 4 0 rfl rfl (inK rfl (by omega) (by decide)) dX3_closeDoor_22 ?_
      refine lv_topi (fun v5 ev5 => ?_)
      have zf6 : (0 : Int) ≤ v5.toInt ∧ v5.toInt ≤ 127 := by rw [ev5]; exact (hIt.2 10 _)
      refine lv_iconst (v := 1) hx hb dX3_closeDoor_23 (by decide) ?_
      refine lv_iload_n hx hb dX3_closeDoor_24 rfl (lv_at hl 2 rfl) ?_
      refine lv_ishl hx hb dX3_closeDoor_25 ?_
      refine lv_topi (fun v7 ev7 => ?_)
      have tv7 : (1 : Int) ≤ v7.toInt ∧ v7.toInt ≤ 64 := by rw [ev7]; exact shlT 6 (by decide) rfl (by omega) (by decide)
      have pv7 : v7.toInt = P2 a2.toInt := by rw [ev7]; exact shlP rfl (by omega)
      refine lv_iconst (v := (-1)) hx hb dX3_closeDoor_26 (by decide) ?_
      refine lv_ixor hx hb dX3_closeDoor_27 ?_
      refine lv_topi (fun v8 ev8 => ?_)
      refine lv_iand hx hb dX3_closeDoor_28 ?_
      refine lv_topi (fun v9 ev9 => ?_)
      have tv9 : 0 ≤ v9.toInt ∧ v9.toInt ≤ 127 := by rw [ev9]; exact andA 7 rfl (by omega) (by decide)
      refine va_iast hx hb hK.1 hP hD hS 4 0 rfl rfl (inK rfl (by omega) (by decide)) dX3_closeDoor_29 (fun H locs hP hD hS => ?_)
      have hP : va_P G vwCl (uX3 cs adt qt Ft (vB 10 (upd (At 10) a1.toNatClampNeg v9) At) Bt Dt) H := hP
      have hD : va_D A0 (uX3 cs adt qt Ft (vB 10 (upd (At 10) a1.toNatClampNeg v9) At) Bt Dt) := hD
      obtain ⟨g10, eg10⟩ : ∃ z : Nat → Int32, z = upd (At 10) a1.toNatClampNeg v9 := ⟨_, rfl⟩
      rw [← eg10] at hP hD
      have hg10 : AJ (0) 127 g10 := by rw [eg10]; exact AJ_upd (fun j => hIt.2 10 j) (show (0 : Int) ≤ v9.toInt ∧ v9.toInt ≤ 127 by omega)
      refine lv_aload_n hx hb dX3_closeDoor_30 rfl (lv_at hl 0 rfl) ?_
      refine getF (v := .ref (qt 10)) hx hb ht hown hK hP iTX3 0 10 rfl rfl (by decide) fl_RX3_21 rfl dX3_closeDoor_31 ?_
      refine lv_iload_n hx hb dX3_closeDoor_34 rfl (lv_at hl 2 rfl) ?_
      refine lv_dup2_11 hx hb dX3_closeDoor_35 rfl rfl ?_
      refine va_iald hx hb hK.1 hP 4 0 rfl rfl (inK rfl (by omega) (by decide)) dX3_closeDoor_36 ?_
      refine lv_topi (fun v11 ev11 => ?_)
      have zf12 : (0 : Int) ≤ v11.toInt ∧ v11.toInt ≤ 127 := by rw [ev11]; exact (hg10 _)
      refine lv_iconst (v := 1) hx hb dX3_closeDoor_37 (by decide) ?_
      refine lv_iload_n hx hb dX3_closeDoor_38 rfl (lv_at hl 1 rfl) ?_
      refine lv_ishl hx hb dX3_closeDoor_39 ?_
      refine lv_topi (fun v13 ev13 => ?_)
      have tv13 : (1 : Int) ≤ v13.toInt ∧ v13.toInt ≤ 64 := by rw [ev13]; exact shlT 6 (by decide) rfl (by omega) (by decide)
      have pv13 : v13.toInt = P2 a1.toInt := by rw [ev13]; exact shlP rfl (by omega)
      refine lv_iconst (v := (-1)) hx hb dX3_closeDoor_40 (by decide) ?_
      refine lv_ixor hx hb dX3_closeDoor_41 ?_
      refine lv_topi (fun v14 ev14 => ?_)
      refine lv_iand hx hb dX3_closeDoor_42 ?_
      refine lv_topi (fun v15 ev15 => ?_)
      have tv15 : 0 ≤ v15.toInt ∧ v15.toInt ≤ 127 := by rw [ev15]; exact andA 7 rfl (by omega) (by decide)
      refine va_iast hx hb hK.1 hP hD hS 4 0 rfl rfl (inK rfl (by omega) (by decide)) dX3_closeDoor_43 (fun H locs hP hD hS => ?_)
      have hP : va_P G vwCl (uX3 cs adt qt Ft (vB 10 (upd g10 a2.toNatClampNeg v15) At) Bt Dt) H := hP
      have hD : va_D A0 (uX3 cs adt qt Ft (vB 10 (upd g10 a2.toNatClampNeg v15) At) Bt Dt) := hD
      obtain ⟨g16, eg16⟩ : ∃ z : Nat → Int32, z = upd g10 a2.toNatClampNeg v15 := ⟨_, rfl⟩
      rw [← eg16] at hP hD
      have hg16 : AJ (0) 127 g16 := by rw [eg16]; exact AJ_upd hg10 (show (0 : Int) ≤ v15.toInt ∧ v15.toInt ≤ 127 by omega)
      exact retDw g16 hx hb hr hlk hP hD hS dX3_closeDoor_44 (⟨hg16, trivial⟩) (Nat.le_of_ble_eq_true rfl) (Nat.le_of_ble_eq_true rfl)

set_option maxRecDepth 100000 in
set_option maxHeartbeats 16000000 in
theorem sX8_copyFrom (l : Launch) (G : va_G) (cs : Nat → ClassId) (adt : Nat) (qt : Nat → Nat) (Ft : Nat → Int32) (At : Nat → Nat → Int32) (Bt : Nat → Nat → Int64) (Dt : Int64) (hIt : IX8 Ft At) (qth : Nat → Nat) (Fth : Nat → Int32) (Ath : Nat → Nat → Int32) (Bth : Nat → Nat → Int64) (Dth : Int64) (hIth : IX3 Fth Ath) (ado : Nat) (qo : Nat → Nat) (Fo : Nat → Int32) (Ao : Nat → Nat → Int32) (Bo : Nat → Nat → Int64) (Do : Int64) (hIo : IX8 Fo Ao) (qoh : Nat → Nat) (Foh : Nat → Int32) (Aoh : Nat → Nat → Int32) (Boh : Nat → Nat → Int64) (Doh : Int64) (hIoh : IX3 Foh Aoh) : ∀ sz : Nat, Met l yX8_copyFrom (wk yX8_copyFrom cX8_copyFrom 2 none) (rmk 2 0 0) (PreD G (TY cs) [.ref adt, .ref ado] ((uX8 cs adt qt Ft At Bt Dt) ++ ((uX3 cs (qt 0) qth Fth Ath Bth Dth) ++ ((uX8 cs ado qo Fo Ao Bo Do) ++ (uX3 cs (qo 0) qoh Foh Aoh Boh Doh)))) sz) ((QDw G (fun u : Int32 × Int32 × Int32 × Int32 × Int32 × Int32 × Int32 × Int32 × (Nat → Int32) × (Nat → Int32) × (Nat → Int32) × (Nat → Int32) × (Nat → Int32) × (Nat → Int32) × (Nat → Int32) × (Nat → Int32) => ((0 : Int) ≤ u.1.toInt ∧ u.1.toInt ≤ 60) ∧ ((0 : Int) ≤ u.2.2.2.2.2.2.1.toInt ∧ u.2.2.2.2.2.2.1.toInt ≤ 7) ∧ ((0 : Int) ≤ u.2.2.2.2.2.2.2.1.toInt ∧ u.2.2.2.2.2.2.2.1.toInt ≤ 6) ∧ AJ (0) 127 u.2.2.2.2.2.2.2.2.2.2.2.2.1 ∧ AJ (0) 63 u.2.2.2.2.2.2.2.2.2.2.2.2.2.2.1 ∧ (True)) (fun u : Int32 × Int32 × Int32 × Int32 × Int32 × Int32 × Int32 × Int32 × (Nat → Int32) × (Nat → Int32) × (Nat → Int32) × (Nat → Int32) × (Nat → Int32) × (Nat → Int32) × (Nat → Int32) × (Nat → Int32) => ((wX8 cs adt qt (upd Ft 2 u.1) (vA At 1 u.2.2.2.2.2.2.2.2.1) Bt Dt) ++ ((wX3 cs (qt 0) qth (upd (upd (upd (upd (upd (upd (upd Fth 0 u.2.1) 1 u.2.2.1) 2 u.2.2.2.1) 3 u.2.2.2.2.1) 4 u.2.2.2.2.2.1) 5 u.2.2.2.2.2.2.1) 6 u.2.2.2.2.2.2.2.1) (vA (vA (vA (vA (vA (vA (vA Ath 7 u.2.2.2.2.2.2.2.2.2.1) 8 u.2.2.2.2.2.2.2.2.2.2.1) 9 u.2.2.2.2.2.2.2.2.2.2.2.1) 10 u.2.2.2.2.2.2.2.2.2.2.2.2.1) 11 u.2.2.2.2.2.2.2.2.2.2.2.2.2.1) 12 u.2.2.2.2.2.2.2.2.2.2.2.2.2.2.1) 13 u.2.2.2.2.2.2.2.2.2.2.2.2.2.2.2) Bth Dth) ++ ((uX8 cs ado qo Fo Ao Bo Do) ++ (uX3 cs (qo 0) qoh Foh Aoh Boh Doh)))))) (va_A ((uX8 cs adt qt Ft At Bt Dt) ++ ((uX3 cs (qt 0) qth Fth Ath Bth Dth) ++ ((uX8 cs ado qo Fo Ao Bo Do) ++ (uX3 cs (qo 0) qoh Foh Aoh Boh Doh)))) sz)) 0 0 (va_A ((uX8 cs adt qt Ft At Bt Dt) ++ ((uX3 cs (qt 0) qth Fth Ath Bth Dth) ++ ((uX8 cs ado qo Fo Ao Bo Do) ++ (uX3 cs (qo 0) qoh Foh Aoh Boh Doh)))) sz) := by
  refine mkD (Qc := (QDw G (fun u : Int32 × Int32 × Int32 × Int32 × Int32 × Int32 × Int32 × Int32 × (Nat → Int32) × (Nat → Int32) × (Nat → Int32) × (Nat → Int32) × (Nat → Int32) × (Nat → Int32) × (Nat → Int32) × (Nat → Int32) => ((0 : Int) ≤ u.1.toInt ∧ u.1.toInt ≤ 60) ∧ ((0 : Int) ≤ u.2.2.2.2.2.2.1.toInt ∧ u.2.2.2.2.2.2.1.toInt ≤ 7) ∧ ((0 : Int) ≤ u.2.2.2.2.2.2.2.1.toInt ∧ u.2.2.2.2.2.2.2.1.toInt ≤ 6) ∧ AJ (0) 127 u.2.2.2.2.2.2.2.2.2.2.2.2.1 ∧ AJ (0) 63 u.2.2.2.2.2.2.2.2.2.2.2.2.2.2.1 ∧ (True)) (fun u : Int32 × Int32 × Int32 × Int32 × Int32 × Int32 × Int32 × Int32 × (Nat → Int32) × (Nat → Int32) × (Nat → Int32) × (Nat → Int32) × (Nat → Int32) × (Nat → Int32) × (Nat → Int32) × (Nat → Int32) => ((wX8 cs adt qt (upd Ft 2 u.1) (vA At 1 u.2.2.2.2.2.2.2.2.1) Bt Dt) ++ ((wX3 cs (qt 0) qth (upd (upd (upd (upd (upd (upd (upd Fth 0 u.2.1) 1 u.2.2.1) 2 u.2.2.2.1) 3 u.2.2.2.2.1) 4 u.2.2.2.2.2.1) 5 u.2.2.2.2.2.2.1) 6 u.2.2.2.2.2.2.2.1) (vA (vA (vA (vA (vA (vA (vA Ath 7 u.2.2.2.2.2.2.2.2.2.1) 8 u.2.2.2.2.2.2.2.2.2.2.1) 9 u.2.2.2.2.2.2.2.2.2.2.2.1) 10 u.2.2.2.2.2.2.2.2.2.2.2.2.1) 11 u.2.2.2.2.2.2.2.2.2.2.2.2.2.1) 12 u.2.2.2.2.2.2.2.2.2.2.2.2.2.2.1) 13 u.2.2.2.2.2.2.2.2.2.2.2.2.2.2.2) Bth Dth) ++ ((uX8 cs ado qo Fo Ao Bo Do) ++ (uX3 cs (qo 0) qoh Foh Aoh Boh Doh))))))) (by decide) (by simp [lg_sl, Value.category]) ?_
  intro p e s m args below meth c ls A0 hx hb hml hr hlk hown hmn ht hK hP hD hS hA hl
  have hl : lv_has ls 2 [(0, .ref adt), (1, .ref ado)] := hl
  refine lv_aload_n hx hb dX8_copyFrom_0 rfl (lv_at hl 0 rfl) ?_
  refine getF (v := .ref (qt 0)) hx hb ht hown hK hP iTX8 0 0 rfl rfl (by decide) fl_RX8_12 rfl dX8_copyFrom_1 ?_
  refine lv_aload_n hx hb dX8_copyFrom_4 rfl (lv_at hl 1 rfl) ?_
  refine getF (v := .ref (qo 0)) hx hb ht hown hK hP iTX8 10 0 rfl rfl (by decide) fl_RX8_12 rfl dX8_copyFrom_5 ?_
  refine behDw (wr := ((uX8 cs adt qt Ft At Bt Dt) ++ (uX8 cs ado qo Fo Ao Bo Do))) (runVD (As := [.ref (qo 0)]) (rest := []) ⟨hx, hb, hml, hown, ht⟩ (sX3_copyFrom l G cs (qt 0) qth Fth Ath Bth Dth hIth (qo 0) qoh Foh Aoh Boh Doh hIoh ) okV_RX8_22 ⟨by decide, by decide⟩ hK hP hD [2, 3, 4, 5, 6, 7, 8, 9, 12, 13, 14, 15, 16, 17, 18, 19] rfl (by decide) rfl 2 rfl rfl hl.1 rfl (Nat.le_of_ble_eq_true rfl) dX8_copyFrom_8 ⟨(Nat.le_of_ble_eq_true rfl), (Nat.le_of_ble_eq_true rfl)⟩) hP hD hS hA [2, 3, 4, 5, 6, 7, 8, 9, 12, 13, 14, 15, 16, 17, 18, 19] [0, 1, 10, 11] rfl rfl (by decide) (by decide) (fun u H locs hu hP hD hS => ?_)
  obtain ⟨x1, x2, x3, x4, x5, x6, x7, g8, g9, g10, g11, g12, g13, g14⟩ := u
  obtain ⟨hbx6, hbx7, hg11, hg13, hr15⟩ := hu
  have hbx6 : (0 : Int) ≤ x6.toInt ∧ x6.toInt ≤ 7 := hbx6
  have hbx7 : (0 : Int) ≤ x7.toInt ∧ x7.toInt ≤ 6 := hbx7
  have hg11 : AJ (0) 127 g11 := hg11
  have hg13 : AJ (0) 63 g13 := hg13
  have hP : va_P G vwCl ((uX8 cs adt qt Ft At Bt Dt) ++ ((uX3 cs (qt 0) qth (upv 6 x7 (upv 5 x6 (upv 4 x5 (upv 3 x4 (upv 2 x3 (upv 1 x2 (upv 0 x1 Fth))))))) (vB 13 g14 (vB 12 g13 (vB 11 g12 (vB 10 g11 (vB 9 g10 (vB 8 g9 (vB 7 g8 Ath))))))) Bth Dth) ++ ((uX8 cs ado qo Fo Ao Bo Do) ++ (uX3 cs (qo 0) qoh Foh Aoh Boh Doh)))) H := hP.sub [0, 1, 4, 5, 6, 7, 8, 9, 10, 11, 2, 3, 12, 13, 14, 15, 16, 17, 18, 19] rfl
  have hD : va_D A0 ((uX8 cs adt qt Ft At Bt Dt) ++ ((uX3 cs (qt 0) qth (upv 6 x7 (upv 5 x6 (upv 4 x5 (upv 3 x4 (upv 2 x3 (upv 1 x2 (upv 0 x1 Fth))))))) (vB 13 g14 (vB 12 g13 (vB 11 g12 (vB 10 g11 (vB 9 g10 (vB 8 g9 (vB 7 g8 Ath))))))) Bth Dth) ++ ((uX8 cs ado qo Fo Ao Bo Do) ++ (uX3 cs (qo 0) qoh Foh Aoh Boh Doh)))) := hD.sub [0, 1, 4, 5, 6, 7, 8, 9, 10, 11, 2, 3, 12, 13, 14, 15, 16, 17, 18, 19] (by decide) rfl
  refine lv_aload_n hx hb dX8_copyFrom_11 rfl (lv_at hl 1 rfl) ?_
  refine getF (v := .ref (qo 1)) hx hb ht hown hK hP iTX8 10 1 rfl rfl (by decide) fl_RX8_18 rfl dX8_copyFrom_12 ?_
  refine lv_iconst (v := 0) hx hb dX8_copyFrom_15 (by decide) ?_
  refine lv_aload_n hx hb dX8_copyFrom_16 rfl (lv_at hl 0 rfl) ?_
  refine getF (v := .ref (qt 1)) hx hb ht hown hK hP iTX8 0 1 rfl rfl (by decide) fl_RX8_18 rfl dX8_copyFrom_17 ?_
  refine lv_iconst (v := 0) hx hb dX8_copyFrom_20 (by decide) ?_
  refine lv_bipush (v := 60) hx hb dX8_copyFrom_21 (by decide) ?_
  refine va_copyi hx hb (by rw [hml]; exact hl.1.symm) hown (ht _ cp_RX8_26) (ht _ cp_nat) (ht _ cp_st) (ht _ cp_in) hK.1 hP hD hS 11 1 0 0 rfl rfl rfl rfl rfl (by decide) (by decide) (by decide) (by decide) (by decide) (fun i hi9 => rfl) (Nat.le_of_ble_eq_true rfl) (Nat.le_of_ble_eq_true rfl) dX8_copyFrom_23 (fun H locs hP hD hS => ?_)
  obtain ⟨g16, hP, hD⟩ : ∃ g16 : Nat → Int32, va_P G vwCl ((uX8 cs adt qt Ft (vB 1 g16 At) Bt Dt) ++ ((uX3 cs (qt 0) qth (upv 6 x7 (upv 5 x6 (upv 4 x5 (upv 3 x4 (upv 2 x3 (upv 1 x2 (upv 0 x1 Fth))))))) (vB 13 g14 (vB 12 g13 (vB 11 g12 (vB 10 g11 (vB 9 g10 (vB 8 g9 (vB 7 g8 Ath))))))) Bth Dth) ++ ((uX8 cs ado qo Fo Ao Bo Do) ++ (uX3 cs (qo 0) qoh Foh Aoh Boh Doh)))) H ∧ va_D A0 ((uX8 cs adt qt Ft (vB 1 g16 At) Bt Dt) ++ ((uX3 cs (qt 0) qth (upv 6 x7 (upv 5 x6 (upv 4 x5 (upv 3 x4 (upv 2 x3 (upv 1 x2 (upv 0 x1 Fth))))))) (vB 13 g14 (vB 12 g13 (vB 11 g12 (vB 10 g11 (vB 9 g10 (vB 8 g9 (vB 7 g8 Ath))))))) Bth Dth) ++ ((uX8 cs ado qo Fo Ao Bo Do) ++ (uX3 cs (qo 0) qoh Foh Aoh Boh Doh)))) := ⟨_, hP, hD⟩
  refine lv_aload_n hx hb dX8_copyFrom_26 rfl (lv_at hl 0 rfl) ?_
  refine lv_aload_n hx hb dX8_copyFrom_27 rfl (lv_at hl 1 rfl) ?_
  refine getF (v := .int (Fo 2)) hx hb ht hown hK hP iTX8 10 2 rfl rfl (by decide) fl_RX8_32 rfl dX8_copyFrom_28 ?_
  have zf17 : (0 : Int) ≤ (Fo 2).toInt ∧ (Fo 2).toInt ≤ 60 := hIo.1 2
  refine putD hx hb ht hown hK hP hD hS iTX8 tyX8 tyX8_ok nmX8 0 2 rfl rfl (by decide) fl_RX8_32 rfl rfl rfl (Nat.le_of_ble_eq_true rfl) dX8_copyFrom_31 (fun H locs hP hD hS => ?_)
  have hP : va_P G vwCl ((uX8 cs adt qt (upv 2 (Fo 2) Ft) (vB 1 g16 At) Bt Dt) ++ ((uX3 cs (qt 0) qth (upv 6 x7 (upv 5 x6 (upv 4 x5 (upv 3 x4 (upv 2 x3 (upv 1 x2 (upv 0 x1 Fth))))))) (vB 13 g14 (vB 12 g13 (vB 11 g12 (vB 10 g11 (vB 9 g10 (vB 8 g9 (vB 7 g8 Ath))))))) Bth Dth) ++ ((uX8 cs ado qo Fo Ao Bo Do) ++ (uX3 cs (qo 0) qoh Foh Aoh Boh Doh)))) H := hP
  have hD : va_D A0 ((uX8 cs adt qt (upv 2 (Fo 2) Ft) (vB 1 g16 At) Bt Dt) ++ ((uX3 cs (qt 0) qth (upv 6 x7 (upv 5 x6 (upv 4 x5 (upv 3 x4 (upv 2 x3 (upv 1 x2 (upv 0 x1 Fth))))))) (vB 13 g14 (vB 12 g13 (vB 11 g12 (vB 10 g11 (vB 9 g10 (vB 8 g9 (vB 7 g8 Ath))))))) Bth Dth) ++ ((uX8 cs ado qo Fo Ao Bo Do) ++ (uX3 cs (qo 0) qoh Foh Aoh Boh Doh)))) := hD
  exact retDw ((Fo 2), x1, x2, x3, x4, x5, x6, x7, g16, g8, g9, g10, g11, g12, g13, g14) hx hb hr hlk hP hD hS dX8_copyFrom_34 (⟨show (0 : Int) ≤ (Fo 2).toInt ∧ (Fo 2).toInt ≤ 60 by omega, show (0 : Int) ≤ x6.toInt ∧ x6.toInt ≤ 7 by omega, show (0 : Int) ≤ x7.toInt ∧ x7.toInt ≤ 6 by omega, hg11, hg13, trivial⟩) (Nat.le_of_ble_eq_true rfl) (Nat.le_of_ble_eq_true rfl)

set_option maxRecDepth 100000 in
set_option maxHeartbeats 16000000 in
theorem sX7_make (l : Launch) (G : va_G) (cs : Nat → ClassId) (adt : Nat) (qt : Nat → Nat) (Ft : Nat → Int32) (At : Nat → Nat → Int32) (Bt : Nat → Nat → Int64) (Dt : Int64) (hIt : IX7 Ft At) (a1 : Int32) (a2 : Int32) (ha2 : (0 : Int) ≤ a2.toInt ∧ a2.toInt ≤ 60) : ∀ sz : Nat, Met l yX7_make (wk yX7_make cX7_make 3 none) (rmk 1 0 0) (PreD G (TY cs) [.ref adt, .int a1, .int a2] (uX7 cs adt qt Ft At Bt Dt) sz) ((QDw G (fun u : Int32 × Int32 × Int32 × (Nat → Int64) => ((0 : Int) ≤ u.1.toInt ∧ u.1.toInt ≤ 1) ∧ ((0 : Int) ≤ u.2.2.1.toInt ∧ u.2.2.1.toInt ≤ 60) ∧ (u.1.toInt = 1 ∧ u.2.1.toInt = a1.toInt ∧ u.2.2.1.toInt = a2.toInt)) (fun u : Int32 × Int32 × Int32 × (Nat → Int64) => (wX7 cs adt qt (upd (upd (upd Ft 1 u.1) 2 u.2.1) 3 u.2.2.1) At (vA Bt 0 u.2.2.2) Dt))) (va_A (uX7 cs adt qt Ft At Bt Dt) sz)) 0 0 (va_A (uX7 cs adt qt Ft At Bt Dt) sz) := by
  refine mkD (Qc := (QDw G (fun u : Int32 × Int32 × Int32 × (Nat → Int64) => ((0 : Int) ≤ u.1.toInt ∧ u.1.toInt ≤ 1) ∧ ((0 : Int) ≤ u.2.2.1.toInt ∧ u.2.2.1.toInt ≤ 60) ∧ (u.1.toInt = 1 ∧ u.2.1.toInt = a1.toInt ∧ u.2.2.1.toInt = a2.toInt)) (fun u : Int32 × Int32 × Int32 × (Nat → Int64) => (wX7 cs adt qt (upd (upd (upd Ft 1 u.1) 2 u.2.1) 3 u.2.2.1) At (vA Bt 0 u.2.2.2) Dt)))) (by decide) (by simp [lg_sl, Value.category]) ?_
  intro p e s m args below meth c ls A0 hx hb hml hr hlk hown hmn ht hK hP hD hS hA hl
  have hl : lv_has ls 3 [(0, .ref adt), (1, .int a1), (2, .int a2)] := hl
  refine lv_aload_n hx hb dX7_make_0 rfl (lv_at hl 0 rfl) ?_
  refine lv_iconst (v := 1) hx hb dX7_make_1 (by decide) ?_
  refine putD hx hb ht hown hK hP hD hS iTX7 tyX7 tyX7_ok nmX7 0 1 rfl rfl (by decide) fl_RX7_15 rfl rfl rfl (Nat.le_of_ble_eq_true rfl) dX7_make_2 (fun H locs hP hD hS => ?_)
  have hP : va_P G vwCl (uX7 cs adt qt (upv 1 (1 : Int32) Ft) At Bt Dt) H := hP
  have hD : va_D A0 (uX7 cs adt qt (upv 1 (1 : Int32) Ft) At Bt Dt) := hD
  refine lv_aload_n hx hb dX7_make_5 rfl (lv_at hl 0 rfl) ?_
  refine lv_iload_n hx hb dX7_make_6 rfl (lv_at hl 1 rfl) ?_
  refine putD hx hb ht hown hK hP hD hS iTX7 tyX7 tyX7_ok nmX7 0 2 rfl rfl (by decide) fl_RX7_19 rfl rfl rfl (Nat.le_of_ble_eq_true rfl) dX7_make_7 (fun H locs hP hD hS => ?_)
  have hP : va_P G vwCl (uX7 cs adt qt (upv 2 a1 (upv 1 (1 : Int32) Ft)) At Bt Dt) H := hP
  have hD : va_D A0 (uX7 cs adt qt (upv 2 a1 (upv 1 (1 : Int32) Ft)) At Bt Dt) := hD
  refine lv_aload_n hx hb dX7_make_10 rfl (lv_at hl 0 rfl) ?_
  refine lv_iload_n hx hb dX7_make_11 rfl (lv_at hl 2 rfl) ?_
  refine putD hx hb ht hown hK hP hD hS iTX7 tyX7 tyX7_ok nmX7 0 3 rfl rfl (by decide) fl_RX7_23 rfl rfl rfl (Nat.le_of_ble_eq_true rfl) dX7_make_12 (fun H locs hP hD hS => ?_)
  have hP : va_P G vwCl (uX7 cs adt qt (upv 3 a2 (upv 2 a1 (upv 1 (1 : Int32) Ft))) At Bt Dt) H := hP
  have hD : va_D A0 (uX7 cs adt qt (upv 3 a2 (upv 2 a1 (upv 1 (1 : Int32) Ft))) At Bt Dt) := hD
  refine lv_aload_n hx hb dX7_make_15 rfl (lv_at hl 0 rfl) ?_
  refine getF (v := .ref (qt 0)) hx hb ht hown hK hP iTX7 0 0 rfl rfl (by decide) fl_RX7_9 rfl dX7_make_16 ?_
  refine lv_lconst (v := 0) hx hb dX7_make_19 (by decide) ?_
  refine behDv (wr := ((uX7 cs adt qt (upv 3 a2 (upv 2 a1 (upv 1 (1 : Int32) Ft))) At Bt Dt)).take 1 ++ ((uX7 cs adt qt (upv 3 a2 (upv 2 a1 (upv 1 (1 : Int32) Ft))) At Bt Dt)).drop 2) (runTD (As := [.ref (qt 0), .long 0]) (rest := []) ⟨hx, hb, hml, hown, ht⟩ (dJ7_fill_d0a16 l G cs (qt 0) 60 (by decide) 0 (Bt 0)) okT_RX7_26 ⟨by decide, by decide⟩ hK hP hD [1] rfl (by decide) rfl hl.1 rfl (Nat.le_of_ble_eq_true rfl) dX7_make_20 ⟨(Nat.le_of_ble_eq_true rfl), (Nat.le_of_ble_eq_true rfl)⟩) hP hD hS hA [1] [0] rfl rfl (by decide) (by decide) (fun y1 H locs hP hD hS => ?_)
  have hP : va_P G vwCl (uX7 cs adt qt (upv 3 a2 (upv 2 a1 (upv 1 (1 : Int32) Ft))) At (vB 0 y1 Bt) Dt) H := hP.sub [0, 1] rfl
  have hD : va_D A0 (uX7 cs adt qt (upv 3 a2 (upv 2 a1 (upv 1 (1 : Int32) Ft))) At (vB 0 y1 Bt) Dt) := hD.sub [0, 1] (by decide) rfl
  exact retDw ((1 : Int32), a1, a2, y1) hx hb hr hlk hP hD hS dX7_make_23 (⟨show (0 : Int) ≤ (1 : Int32).toInt ∧ (1 : Int32).toInt ≤ 1 by decide, show (0 : Int) ≤ a2.toInt ∧ a2.toInt ≤ 60 by omega, ⟨show (1 : Int32).toInt = 1 by decide, rfl, rfl⟩⟩) (Nat.le_of_ble_eq_true rfl) (Nat.le_of_ble_eq_true rfl)

set_option maxRecDepth 100000 in
set_option maxHeartbeats 16000000 in
theorem sX7_cut (l : Launch) (G : va_G) (cs : Nat → ClassId) (adt : Nat) (qt : Nat → Nat) (Ft : Nat → Int32) (At : Nat → Nat → Int32) (Bt : Nat → Nat → Int64) (Dt : Int64) (hIt : IX7 Ft At) (a1 : Int64) : ∀ sz : Nat, Met l yX7_cut (wk yX7_cut cX7_cut 3 (some .long)) (rmk 0 0 0) (PreP G (TY cs) [.ref adt, .long a1] (uX7 cs adt qt Ft At Bt Dt) sz) (QRl (fun r : Int64 => True) sz) 0 0 (fun q => sz ≤ q) := by
  refine mkP (Qc := QRl (fun r : Int64 => True)) (by decide) (by simp [lg_sl, Value.category]) ?_
  intro p e s m args below meth c ls hx hb hml hr hlk hown ht hK hP hS hl
  have hl : lv_has ls 3 [(0, .ref adt), (1, .long a1)] := hl
  refine lv_aload_n hx hb dX7_cut_0 rfl (lv_at hl 0 rfl) ?_
  refine getF (v := .int (Ft 2)) hx hb ht hown hK hP iTX7 0 2 rfl rfl (by decide) fl_RX7_19 rfl dX7_cut_1 ?_
  refine lv_topi (fun v1 ev1 => ?_)
  rcases csN3 v1 with hN | hN | rfl | rfl | rfl
  · refine lv_tableOut (tgt := 46) hx hb dX7_cut_4 (by left; omega) (by decide) ?_
    refine lv_lload_n hx hb dX7_cut_46 rfl (lv_at hl 1 rfl) ?_
    exact retRl hx hb hr hlk hS dX7_cut_47 (trivial)
  · refine lv_tableOut (tgt := 46) hx hb dX7_cut_4 (by right; omega) (by decide) ?_
    refine lv_lload_n hx hb dX7_cut_46 rfl (lv_at hl 1 rfl) ?_
    exact retRl hx hb hr hlk hS dX7_cut_47 (trivial)
  · refine lv_tableIn (off := 28) (tgt := 32) hx hb dX7_cut_4 (by decide) (by decide) (by decide) (by decide) ?_
    refine lv_lload_n hx hb dX7_cut_32 rfl (lv_at hl 1 rfl) ?_
    refine lv_l2i hx hb dX7_cut_33 rfl ?_
    refine lv_topi (fun v2 ev2 => ?_)
    refine lv_i2b hx hb dX7_cut_34 rfl ?_
    refine lv_topi (fun v3 ev3 => ?_)
    refine lv_i2l hx hb dX7_cut_35 rfl ?_
    have bb4 := i32b v3
    refine lv_topl (fun v5 ev5 => ?_)
    have tv5 : v5.toInt = v3.toInt := by rw [ev5]; exact Int32.toInt_toInt64 _
    exact retRl hx hb hr hlk hS dX7_cut_36 (trivial)
  · refine lv_tableIn (off := 33) (tgt := 37) hx hb dX7_cut_4 (by decide) (by decide) (by decide) (by decide) ?_
    refine lv_lload_n hx hb dX7_cut_37 rfl (lv_at hl 1 rfl) ?_
    refine lv_l2i hx hb dX7_cut_38 rfl ?_
    refine lv_topi (fun v6 ev6 => ?_)
    refine lv_i2s hx hb dX7_cut_39 rfl ?_
    refine lv_topi (fun v7 ev7 => ?_)
    refine lv_i2l hx hb dX7_cut_40 rfl ?_
    have bb8 := i32b v7
    refine lv_topl (fun v9 ev9 => ?_)
    have tv9 : v9.toInt = v7.toInt := by rw [ev9]; exact Int32.toInt_toInt64 _
    exact retRl hx hb hr hlk hS dX7_cut_41 (trivial)
  · refine lv_tableIn (off := 38) (tgt := 42) hx hb dX7_cut_4 (by decide) (by decide) (by decide) (by decide) ?_
    refine lv_lload_n hx hb dX7_cut_42 rfl (lv_at hl 1 rfl) ?_
    refine lv_l2i hx hb dX7_cut_43 rfl ?_
    refine lv_topi (fun v10 ev10 => ?_)
    refine lv_i2l hx hb dX7_cut_44 rfl ?_
    have bb11 := i32b v10
    refine lv_topl (fun v12 ev12 => ?_)
    have tv12 : v12.toInt = v10.toInt := by rw [ev12]; exact Int32.toInt_toInt64 _
    exact retRl hx hb hr hlk hS dX7_cut_45 (trivial)

set_option maxRecDepth 100000 in
set_option maxHeartbeats 16000000 in
theorem sX7_holds (l : Launch) (G : va_G) (cs : Nat → ClassId) (adt : Nat) (qt : Nat → Nat) (Ft : Nat → Int32) (At : Nat → Nat → Int32) (Bt : Nat → Nat → Int64) (Dt : Int64) (hIt : IX7 Ft At) (a1 : Int32) (a2 : Int32) : ∀ sz : Nat, Met l yX7_holds (wk yX7_holds cX7_holds 3 (some .boolean)) (rmk 0 0 0) (PreP G (TY cs) [.ref adt, .int a1, .int a2] (uX7 cs adt qt Ft At Bt Dt) sz) (QRi (fun r : Int32 => (r.toInt = 1 ∧ 0 ≤ a1.toInt ∧ 0 ≤ a2.toInt ∧ a1.toInt + a2.toInt ≤ 60 ∧ a1.toInt + a2.toInt ≤ (Ft 3).toInt) ∨ (r.toInt = 0 ∧ (a1.toInt < 0 ∨ a2.toInt < 0 ∨ (Ft 3).toInt < a1.toInt + a2.toInt))) sz) 0 0 (fun q => sz ≤ q) := by
  refine mkP (Qc := QRi (fun r : Int32 => (r.toInt = 1 ∧ 0 ≤ a1.toInt ∧ 0 ≤ a2.toInt ∧ a1.toInt + a2.toInt ≤ 60 ∧ a1.toInt + a2.toInt ≤ (Ft 3).toInt) ∨ (r.toInt = 0 ∧ (a1.toInt < 0 ∨ a2.toInt < 0 ∨ (Ft 3).toInt < a1.toInt + a2.toInt)))) (by decide) (by simp [lg_sl, Value.category]) ?_
  intro p e s m args below meth c ls hx hb hml hr hlk hown ht hK hP hS hl
  have hl : lv_has ls 3 [(0, .ref adt), (1, .int a1), (2, .int a2)] := hl
  refine lv_iload_n hx hb dX7_holds_0 rfl (lv_at hl 1 rfl) ?_
  refine lv_if_lt (tgt := 26) hx hb dX7_holds_1 (by decide) (fun c1 => ?_) (fun c1 => ?_)
  · have zc1 := ltK rfl (show (0 : Int32).toInt = 0 by decide) c1
    refine lv_iconst (v := 0) hx hb dX7_holds_26 (by decide) ?_
    exact retRz hx hb hr hlk hS dX7_holds_27 (rfl) (show ((0 : Int32).toInt = 1 ∧ 0 ≤ a1.toInt ∧ 0 ≤ a2.toInt ∧ a1.toInt + a2.toInt ≤ 60 ∧ a1.toInt + a2.toInt ≤ (Ft 3).toInt) ∨ ((0 : Int32).toInt = 0 ∧ (a1.toInt < 0 ∨ a2.toInt < 0 ∨ (Ft 3).toInt < a1.toInt + a2.toInt)) by have kk : (0 : Int32).toInt = 0 := (by decide); omega)
  · have zc1 := nltK rfl (show (0 : Int32).toInt = 0 by decide) c1
    refine lv_iload_n hx hb dX7_holds_4 rfl (lv_at hl 2 rfl) ?_
    refine lv_if_lt (tgt := 26) hx hb dX7_holds_5 (by decide) (fun c2 => ?_) (fun c2 => ?_)
    · have zc2 := ltK rfl (show (0 : Int32).toInt = 0 by decide) c2
      refine lv_iconst (v := 0) hx hb dX7_holds_26 (by decide) ?_
      exact retRz hx hb hr hlk hS dX7_holds_27 (rfl) (show ((0 : Int32).toInt = 1 ∧ 0 ≤ a1.toInt ∧ 0 ≤ a2.toInt ∧ a1.toInt + a2.toInt ≤ 60 ∧ a1.toInt + a2.toInt ≤ (Ft 3).toInt) ∨ ((0 : Int32).toInt = 0 ∧ (a1.toInt < 0 ∨ a2.toInt < 0 ∨ (Ft 3).toInt < a1.toInt + a2.toInt)) by have kk : (0 : Int32).toInt = 0 := (by decide); omega)
    · have zc2 := nltK rfl (show (0 : Int32).toInt = 0 by decide) c2
      refine lv_iload_n hx hb dX7_holds_8 rfl (lv_at hl 1 rfl) ?_
      refine lv_i2l hx hb dX7_holds_9 rfl ?_
      have bb3 := i32b a1
      refine lv_topl (fun v4 ev4 => ?_)
      have tv4 : v4.toInt = a1.toInt := by rw [ev4]; exact Int32.toInt_toInt64 _
      refine lv_iload_n hx hb dX7_holds_10 rfl (lv_at hl 2 rfl) ?_
      refine lv_i2l hx hb dX7_holds_11 rfl ?_
      have bb5 := i32b a2
      refine lv_topl (fun v6 ev6 => ?_)
      have tv6 : v6.toInt = a2.toInt := by rw [ev6]; exact Int32.toInt_toInt64 _
      refine lv_ladd hx hb dX7_holds_12 ?_
      refine lv_topl (fun v7 ev7 => ?_)
      have tv7 : v7.toInt = v4.toInt + v6.toInt := by rw [ev7]; exact addL rfl rfl (by omega)
      refine lv_aload_n hx hb dX7_holds_13 rfl (lv_at hl 0 rfl) ?_
      refine getF (v := .int (Ft 3)) hx hb ht hown hK hP iTX7 0 3 rfl rfl (by decide) fl_RX7_23 rfl dX7_holds_14 ?_
      have zf8 : (0 : Int) ≤ (Ft 3).toInt ∧ (Ft 3).toInt ≤ 60 := hIt.1 3
      refine lv_i2l hx hb dX7_holds_17 rfl ?_
      refine lv_topl (fun v9 ev9 => ?_)
      have tv9 : v9.toInt = (Ft 3).toInt := by rw [ev9]; exact Int32.toInt_toInt64 _
      refine W.lcmp hx hb dX7_holds_18 ?_
      refine lv_topi (fun v10 ev10 => ?_)
      refine lv_if_gt (tgt := 26) hx hb dX7_holds_19 (by decide) (fun c11 => ?_) (fun c11 => ?_)
      · have zc11 := ltK (show (0 : Int32).toInt = 0 by decide) rfl c11
        have yc11 := cmpGT rfl rfl ev10 (by omega)
        refine lv_iconst (v := 0) hx hb dX7_holds_26 (by decide) ?_
        exact retRz hx hb hr hlk hS dX7_holds_27 (rfl) (show ((0 : Int32).toInt = 1 ∧ 0 ≤ a1.toInt ∧ 0 ≤ a2.toInt ∧ a1.toInt + a2.toInt ≤ 60 ∧ a1.toInt + a2.toInt ≤ (Ft 3).toInt) ∨ ((0 : Int32).toInt = 0 ∧ (a1.toInt < 0 ∨ a2.toInt < 0 ∨ (Ft 3).toInt < a1.toInt + a2.toInt)) by have kk : (0 : Int32).toInt = 0 := (by decide); omega)
      · have zc11 := nltK (show (0 : Int32).toInt = 0 by decide) rfl c11
        have yc11 := cmpGTn rfl rfl ev10 (by omega)
        refine lv_iconst (v := 1) hx hb dX7_holds_22 (by decide) ?_
        refine lv_goto (tgt := 27) hx hb dX7_holds_23 (by decide) ?_
        exact retRz hx hb hr hlk hS dX7_holds_27 (rfl) (show ((1 : Int32).toInt = 1 ∧ 0 ≤ a1.toInt ∧ 0 ≤ a2.toInt ∧ a1.toInt + a2.toInt ≤ 60 ∧ a1.toInt + a2.toInt ≤ (Ft 3).toInt) ∨ ((1 : Int32).toInt = 0 ∧ (a1.toInt < 0 ∨ a2.toInt < 0 ∨ (Ft 3).toInt < a1.toInt + a2.toInt)) by have kk : (1 : Int32).toInt = 1 := (by decide); omega)

set_option maxRecDepth 100000 in
set_option maxHeartbeats 16000000 in
theorem sX7_isWithin (l : Launch) (G : va_G) (cs : Nat → ClassId) (adt : Nat) (qt : Nat → Nat) (Ft : Nat → Int32) (At : Nat → Nat → Int32) (Bt : Nat → Nat → Int64) (Dt : Int64) (hIt : IX7 Ft At) (a1 : Int32) (a2 : Int32) : ∀ sz : Nat, Met l yX7_isWithin (wk yX7_isWithin cX7_isWithin 4 (some .boolean)) (rmk 0 0 0) (PreP G (TY cs) [.ref adt, .int a1, .int a2] (uX7 cs adt qt Ft At Bt Dt) sz) (QRi (fun r : Int32 => RWk r 1 (Bt 0) a1.toInt a2.toInt (Ft 3).toInt ∧ (0 : Int) ≤ r.toInt ∧ r.toInt ≤ 1) sz) 0 0 (fun q => sz ≤ q) := by
  refine mkP (Qc := QRi (fun r : Int32 => RWk r 1 (Bt 0) a1.toInt a2.toInt (Ft 3).toInt ∧ (0 : Int) ≤ r.toInt ∧ r.toInt ≤ 1)) (by decide) (by simp [lg_sl, Value.category]) ?_
  intro p e s m args below meth c ls hx hb hml hr hlk hown ht hK hP hS hl
  have hl : lv_has ls 4 [(0, .ref adt), (1, .int a1), (2, .int a2)] := hl
  refine lv_iconst (v := 0) hx hb dX7_isWithin_0 (by decide) ?_
  refine lv_istore_n (lv' := [(3, .int 0), (0, .ref adt), (1, .int a1), (2, .int a2)]) hx hb dX7_isWithin_1 rfl hl (by decide) rfl (fun ls hl => ?_)
  have B2 : ∀ (n : Nat) (x2_3 : Int32) (H : Heap) (locs : List Loc) (ls : Array Slot), (60 - x2_3.toInt).toNat < n → (0 : Int) ≤ x2_3.toInt ∧ x2_3.toInt ≤ 60 → (RWn (Bt 0) a1.toInt a2.toInt x2_3.toInt) → va_P G vwCl (uX7 cs adt qt Ft At Bt Dt) H → va_S (fun q => s.heap.size ≤ q) s.heap H locs → lv_has ls 4 [(0, .ref adt), (1, .int a1), (2, .int a2), (3, .int x2_3)] → W p l e (rmk 0 0 0) s m args below meth c H locs 0 0 (MQ below (QRi (fun r : Int32 => RWk r 1 (Bt 0) a1.toInt a2.toInt (Ft 3).toInt ∧ (0 : Int) ≤ r.toInt ∧ r.toInt ≤ 1) s.heap.size) args s 0 0 (fun q => s.heap.size ≤ q)) (F0 m 2 ls []) := by
    intro n
    induction n with
    | zero => intro x2_3 H locs ls hmeas hx2_3 hrw hP hS hl; exact absurd hmeas (Nat.not_lt_zero _)
    | succ n ih2 =>
      intro x2_3 H locs ls hmeas hx2_3 hrw hP hS hl
      refine lv_iload_n hx hb dX7_isWithin_2 rfl (lv_at hl 3 rfl) ?_
      refine lv_aload_n hx hb dX7_isWithin_3 rfl (lv_at hl 0 rfl) ?_
      refine getF (v := .int (Ft 3)) hx hb ht hown hK hP iTX7 0 3 rfl rfl (by decide) fl_RX7_23 rfl dX7_isWithin_4 ?_
      have zf3001 : (0 : Int) ≤ (Ft 3).toInt ∧ (Ft 3).toInt ≤ 60 := hIt.1 3
      refine lv_icmp_ge (tgt := 42) hx hb dX7_isWithin_7 (by decide) (fun c3002 => ?_) (fun c3002 => ?_)
      · have zc3002 := leK rfl rfl c3002
        refine lv_iconst (v := 1) hx hb dX7_isWithin_42 (by decide) ?_
        exact retRz hx hb hr hlk hS dX7_isWithin_43 (rfl) (⟨fun q9 => RWnle hrw (by omega), by decide⟩)
      · have zc3002 := nleK rfl rfl c3002
        refine lv_aload_n hx hb dX7_isWithin_10 rfl (lv_at hl 0 rfl) ?_
        refine getF (v := .ref (qt 0)) hx hb ht hown hK hP iTX7 0 0 rfl rfl (by decide) fl_RX7_9 rfl dX7_isWithin_11 ?_
        refine lv_iload_n hx hb dX7_isWithin_14 rfl (lv_at hl 3 rfl) ?_
        refine va_lald hx hb hK.1 hP 1 2 rfl rfl (inK rfl (by omega) (by decide)) dX7_isWithin_15 ?_
        refine lv_topl (fun v3003 ev3003 => ?_)
        have ev3003 : v3003 = (Bt 0) x2_3.toNatClampNeg := ev3003
        have znv3003 : v3003.toInt = ((Bt 0) x2_3.toNatClampNeg).toInt := congrArg Int64.toInt ev3003
        refine lv_iload_n hx hb dX7_isWithin_16 rfl (lv_at hl 1 rfl) ?_
        refine lv_i2l hx hb dX7_isWithin_17 rfl ?_
        have bb3004 := i32b a1
        refine lv_topl (fun v3005 ev3005 => ?_)
        have tv3005 : v3005.toInt = a1.toInt := by rw [ev3005]; exact Int32.toInt_toInt64 _
        refine W.lcmp hx hb dX7_isWithin_18 ?_
        refine lv_topi (fun v3006 ev3006 => ?_)
        refine lv_if_lt (tgt := 34) hx hb dX7_isWithin_19 (by decide) (fun c3007 => ?_) (fun c3007 => ?_)
        · have zc3007 := ltK rfl (show (0 : Int32).toInt = 0 by decide) c3007
          have yc3007 := cmpLT rfl rfl ev3006 (by omega)
          refine lv_iconst (v := 0) hx hb dX7_isWithin_34 (by decide) ?_
          exact retRz hx hb hr hlk hS dX7_isWithin_35 (rfl) (⟨fun q9 => absurd q9 (by decide), by decide⟩)
        · have zc3007 := nltK rfl (show (0 : Int32).toInt = 0 by decide) c3007
          have yc3007 := cmpLTn rfl rfl ev3006 (by omega)
          refine lv_aload_n hx hb dX7_isWithin_22 rfl (lv_at hl 0 rfl) ?_
          refine getF (v := .ref (qt 0)) hx hb ht hown hK hP iTX7 0 0 rfl rfl (by decide) fl_RX7_9 rfl dX7_isWithin_23 ?_
          refine lv_iload_n hx hb dX7_isWithin_26 rfl (lv_at hl 3 rfl) ?_
          refine va_lald hx hb hK.1 hP 1 2 rfl rfl (inK rfl (by omega) (by decide)) dX7_isWithin_27 ?_
          refine lv_topl (fun v3008 ev3008 => ?_)
          have ev3008 : v3008 = (Bt 0) x2_3.toNatClampNeg := ev3008
          have znv3008 : v3008.toInt = ((Bt 0) x2_3.toNatClampNeg).toInt := congrArg Int64.toInt ev3008
          refine lv_iload_n hx hb dX7_isWithin_28 rfl (lv_at hl 2 rfl) ?_
          refine lv_i2l hx hb dX7_isWithin_29 rfl ?_
          have bb3009 := i32b a2
          refine lv_topl (fun v3010 ev3010 => ?_)
          have tv3010 : v3010.toInt = a2.toInt := by rw [ev3010]; exact Int32.toInt_toInt64 _
          refine W.lcmp hx hb dX7_isWithin_30 ?_
          refine lv_topi (fun v3011 ev3011 => ?_)
          refine lv_if_le (tgt := 36) hx hb dX7_isWithin_31 (by decide) (fun c3012 => ?_) (fun c3012 => ?_)
          · have zc3012 := leK rfl (show (0 : Int32).toInt = 0 by decide) c3012
            have yc3012 := cmpGTn rfl rfl ev3011 (by omega)
            obtain ⟨v3013, ev3013⟩ : ∃ z : Int32, z = x2_3 + 1 := ⟨_, rfl⟩
            have tv3013 : v3013.toInt = x2_3.toInt + 1 := by rw [ev3013]; exact addT rfl (by decide) (by omega)
            refine lv_iinc (v := v3013) (lv' := [(3, .int v3013), (0, .ref adt), (1, .int a1), (2, .int a2)]) hx hb dX7_isWithin_36 hl (k := 3) rfl (by rw [ev3013]; rfl) (by decide) rfl (fun ls hl => ?_)
            refine lv_goto (tgt := 2) hx hb dX7_isWithin_39 (by decide) ?_
            exact ih2 v3013 H locs ls (by omega) (by omega) (RWns hrw (clK (i := x2_3) rfl (by omega)) (by rw [← ev3008]; omega) tv3013) hP hS (lv_sub hl [1, 2, 3, 0] rfl)
          · have zc3012 := nleK rfl (show (0 : Int32).toInt = 0 by decide) c3012
            have yc3012 := cmpGT rfl rfl ev3011 (by omega)
            refine lv_iconst (v := 0) hx hb dX7_isWithin_34 (by decide) ?_
            exact retRz hx hb hr hlk hS dX7_isWithin_35 (rfl) (⟨fun q9 => absurd q9 (by decide), by decide⟩)
  exact B2 _ 0 s.heap [] ls (Nat.lt_succ_self _) (by decide) (RWn0 (by decide)) hP hS (lv_sub hl [1, 2, 3, 0] rfl)

