set_option maxRecDepth 100000 in
set_option maxHeartbeats 16000000 in
theorem sX6_readDoor (l : Launch) (G : va_G) (cs : Nat → ClassId) (adt : Nat) (qt : Nat → Nat) (Ft : Nat → Int32) (At : Nat → Nat → Int32) (Bt : Nat → Nat → Int64) (Dt : Int64) (hIt : IX6 Ft At) (qtp : Nat → Nat) (Ftp : Nat → Int32) (Atp : Nat → Nat → Int32) (Btp : Nat → Nat → Int64) (Dtp : Int64) (hItp : IX9 Ftp Atp) (adh : Nat) (qh : Nat → Nat) (Fh : Nat → Int32) (Ah : Nat → Nat → Int32) (Bh : Nat → Nat → Int64) (Dh : Int64) (hIh : IX3 Fh Ah) : ∀ sz : Nat, Met l yX6_readDoor (wk yX6_readDoor cX6_readDoor 4 (some .boolean)) (rmk 3 0 0) (PreD G (TY cs) [.ref adt, .ref adh] ((uX6 cs adt qt Ft At Bt Dt) ++ ((uX9 cs (qt 0) qtp Ftp Atp Btp Dtp) ++ (uX3 cs adh qh Fh Ah Bh Dh))) sz) ((QDi G (fun (r : Int32) (u : Int32 × Int32 × Int32 × Int32 × Int32 × Int32 × (Nat → Int32)) => ((0 : Int) ≤ u.1.toInt ∧ u.1.toInt ≤ 900) ∧ ((0 : Int) ≤ u.2.1.toInt ∧ u.2.1.toInt ≤ 4) ∧ ((0 : Int) ≤ u.2.2.1.toInt ∧ u.2.2.1.toInt ≤ 900) ∧ AJ (0) 127 u.2.2.2.2.2.2 ∧ ((0 : Int) ≤ r.toInt ∧ r.toInt ≤ 1)) (fun u : Int32 × Int32 × Int32 × Int32 × Int32 × Int32 × (Nat → Int32) => ((wX6 cs adt qt (upd (upd (upd (upd (upd (upd Ft 1 u.1) 2 u.2.1) 3 u.2.2.1) 4 u.2.2.2.1) 5 u.2.2.2.2.1) 6 u.2.2.2.2.2.1) At Bt Dt) ++ ((uX9 cs (qt 0) qtp Ftp Atp Btp Dtp) ++ (wX3 cs adh qh Fh (vA Ah 10 u.2.2.2.2.2.2) Bh Dh))))) (va_A ((uX6 cs adt qt Ft At Bt Dt) ++ ((uX9 cs (qt 0) qtp Ftp Atp Btp Dtp) ++ (uX3 cs adh qh Fh Ah Bh Dh))) sz)) 0 0 (va_A ((uX6 cs adt qt Ft At Bt Dt) ++ ((uX9 cs (qt 0) qtp Ftp Atp Btp Dtp) ++ (uX3 cs adh qh Fh Ah Bh Dh))) sz) := by
  refine mkD (Qc := (QDi G (fun (r : Int32) (u : Int32 × Int32 × Int32 × Int32 × Int32 × Int32 × (Nat → Int32)) => ((0 : Int) ≤ u.1.toInt ∧ u.1.toInt ≤ 900) ∧ ((0 : Int) ≤ u.2.1.toInt ∧ u.2.1.toInt ≤ 4) ∧ ((0 : Int) ≤ u.2.2.1.toInt ∧ u.2.2.1.toInt ≤ 900) ∧ AJ (0) 127 u.2.2.2.2.2.2 ∧ ((0 : Int) ≤ r.toInt ∧ r.toInt ≤ 1)) (fun u : Int32 × Int32 × Int32 × Int32 × Int32 × Int32 × (Nat → Int32) => ((wX6 cs adt qt (upd (upd (upd (upd (upd (upd Ft 1 u.1) 2 u.2.1) 3 u.2.2.1) 4 u.2.2.2.1) 5 u.2.2.2.2.1) 6 u.2.2.2.2.2.1) At Bt Dt) ++ ((uX9 cs (qt 0) qtp Ftp Atp Btp Dtp) ++ (wX3 cs adh qh Fh (vA Ah 10 u.2.2.2.2.2.2) Bh Dh)))))) (by decide) (by simp [lg_sl, Value.category]) ?_
  intro p e s m args below meth c ls A0 hx hb hml hr hlk hown hmn ht hK hP hD hS hA hl
  have hl : lv_has ls 4 [(0, .ref adt), (1, .ref adh)] := hl
  refine lv_aload_n hx hb dX6_readDoor_0 rfl (lv_at hl 0 rfl) ?_
  refine behDw (wr := (uX3 cs adh qh Fh Ah Bh Dh)) (runVD (As := []) (rest := []) ⟨hx, hb, hml, hown, ht⟩ (sX6_advance l G cs adt qt Ft At Bt Dt hIt qtp Ftp Atp Btp Dtp hItp ) okV_RX6_33 ⟨by decide, by decide⟩ hK hP hD [0, 1, 2] rfl (by decide) rfl 0 rfl rfl hl.1 rfl (Nat.le_of_ble_eq_true rfl) dX6_readDoor_1 ⟨(Nat.le_of_ble_eq_true rfl), (Nat.le_of_ble_eq_true rfl)⟩) hP hD hS hA [0, 1, 2] [3, 4, 5, 6, 7, 8, 9, 10] rfl rfl (by decide) (by decide) (fun u H locs hu hP hD hS => ?_)
  obtain ⟨x1, x2, x3, x4⟩ := u
  obtain ⟨hbx1, hbx2, hbx3, hr5⟩ := hu
  have hbx1 : (0 : Int) ≤ x1.toInt ∧ x1.toInt ≤ 900 := hbx1
  have hbx2 : (0 : Int) ≤ x2.toInt ∧ x2.toInt ≤ 4 := hbx2
  have hbx3 : (0 : Int) ≤ x3.toInt ∧ x3.toInt ≤ 900 := hbx3
  have hP : va_P G vwCl ((uX6 cs adt qt (upv 4 x4 (upv 3 x3 (upv 2 x2 (upv 1 x1 Ft)))) At Bt Dt) ++ ((uX9 cs (qt 0) qtp Ftp Atp Btp Dtp) ++ (uX3 cs adh qh Fh Ah Bh Dh))) H := hP.sub [8, 9, 10, 0, 1, 2, 3, 4, 5, 6, 7] rfl
  have hD : va_D A0 ((uX6 cs adt qt (upv 4 x4 (upv 3 x3 (upv 2 x2 (upv 1 x1 Ft)))) At Bt Dt) ++ ((uX9 cs (qt 0) qtp Ftp Atp Btp Dtp) ++ (uX3 cs adh qh Fh Ah Bh Dh))) := hD.sub [8, 9, 10, 0, 1, 2, 3, 4, 5, 6, 7] (by decide) rfl
  refine lv_aload_n hx hb dX6_readDoor_4 rfl (lv_at hl 0 rfl) ?_
  refine lv_iconst (v := 0) hx hb dX6_readDoor_5 (by decide) ?_
  refine lv_aload_n hx hb dX6_readDoor_6 rfl (lv_at hl 1 rfl) ?_
  refine getF (v := .int (Fh 5)) hx hb ht hown hK hP iTX3 3 5 rfl rfl (by decide) fl_RX6_103 rfl dX6_readDoor_7 ?_
  have zf6 : (0 : Int) ≤ (Fh 5).toInt ∧ (Fh 5).toInt ≤ 7 := hIh.1 5
  refine lv_iconst (v := 1) hx hb dX6_readDoor_10 (by decide) ?_
  refine lv_isub hx hb dX6_readDoor_11 ?_
  refine lv_topi (fun v7 ev7 => ?_)
  have tv7 : v7.toInt = (Fh 5).toInt - 1 := by rw [ev7]; exact subT rfl (show (1 : Int32).toInt = 1 by decide) (by omega)
  refine lv_iconst (v := (-1)) hx hb dX6_readDoor_12 (by decide) ?_
  refine behDi (wr := (uX3 cs adh qh Fh Ah Bh Dh)) (runVD (As := [.int 0, .int v7, .int (-1)]) (rest := []) ⟨hx, hb, hml, hown, ht⟩ (sX6_takeNumber l G cs adt qt (upv 4 x4 (upv 3 x3 (upv 2 x2 (upv 1 x1 Ft)))) At Bt Dt (IB_pv (k := 4) (IB_pv (k := 3) (IB_pv (k := 2) (IB_pv (k := 1) hIt (show (0 : Int) ≤ x1.toInt ∧ x1.toInt ≤ 900 by omega)) (show (0 : Int) ≤ x2.toInt ∧ x2.toInt ≤ 4 by omega)) (show (0 : Int) ≤ x3.toInt ∧ x3.toInt ≤ 900 by omega)) (i32b _)) qtp Ftp Atp Btp Dtp hItp 0 v7 (-1) ) okV_RX6_120 ⟨by decide, by decide⟩ hK hP hD [0, 1, 2] rfl (by decide) rfl 0 rfl rfl hl.1 rfl (Nat.le_of_ble_eq_true rfl) dX6_readDoor_13 ⟨(Nat.le_of_ble_eq_true rfl), (Nat.le_of_ble_eq_true rfl)⟩) hP hD hS hA [0, 1, 2] [3, 4, 5, 6, 7, 8, 9, 10] rfl rfl (by decide) (by decide) (fun r9 u H locs hu hP hD hS => ?_)
  obtain ⟨x8, x9, x10, x11, x12, x13⟩ := u
  have kk15 : (0 : Int32).toInt = 0 := by decide
  have kk16 : (-1 : Int32).toInt = (-1) := by decide
  obtain ⟨r14, rfl⟩ : ∃ z, z = r9 := ⟨_, rfl⟩
  obtain ⟨hbx8, hbx9, hbx10, hr14⟩ := hu
  have hbx8 : (0 : Int) ≤ x8.toInt ∧ x8.toInt ≤ 900 := hbx8
  have hbx9 : (0 : Int) ≤ x9.toInt ∧ x9.toInt ≤ 4 := hbx9
  have hbx10 : (0 : Int) ≤ x10.toInt ∧ x10.toInt ≤ 900 := hbx10
  have hr14 : TNk r14 ((0 : Int32).toInt) v7.toInt := hr14
  have hP : va_P G vwCl ((uX6 cs adt qt (upv 6 x13 (upv 5 x12 (upv 4 x11 (upv 3 x10 (upv 2 x9 (upv 1 x8 Ft)))))) At Bt Dt) ++ ((uX9 cs (qt 0) qtp Ftp Atp Btp Dtp) ++ (uX3 cs adh qh Fh Ah Bh Dh))) H := hP.sub [8, 9, 10, 0, 1, 2, 3, 4, 5, 6, 7] rfl
  have hD : va_D A0 ((uX6 cs adt qt (upv 6 x13 (upv 5 x12 (upv 4 x11 (upv 3 x10 (upv 2 x9 (upv 1 x8 Ft)))))) At Bt Dt) ++ ((uX9 cs (qt 0) qtp Ftp Atp Btp Dtp) ++ (uX3 cs adh qh Fh Ah Bh Dh))) := hD.sub [8, 9, 10, 0, 1, 2, 3, 4, 5, 6, 7] (by decide) rfl
  refine lv_istore_n (lv' := [(2, .int r14), (0, .ref adt), (1, .ref adh)]) hx hb dX6_readDoor_16 rfl hl (by decide) rfl (fun ls hl => ?_)
  refine lv_aload_n hx hb dX6_readDoor_17 rfl (lv_at hl 1 rfl) ?_
  refine getF (v := .int x12) hx hb ht hown hK hP iTX6 0 5 rfl rfl (by decide) fl_RX6_27 rfl dX6_readDoor_18 ?_
  have B40 : ∀ (s40_0 : Int32) (ft1_40 : Int32) (ft2_40 : Int32) (ft3_40 : Int32) (ft4_40 : Int32) (ft5_40 : Int32) (ft6_40 : Int32) (H : Heap) (locs : List Loc) (ls : Array Slot), (0 : Int) ≤ ft1_40.toInt ∧ ft1_40.toInt ≤ 900 → (0 : Int) ≤ ft2_40.toInt ∧ ft2_40.toInt ≤ 4 → (0 : Int) ≤ ft3_40.toInt ∧ ft3_40.toInt ≤ 900 → va_P G vwCl ((uX6 cs adt qt (upv 6 ft6_40 (upv 5 ft5_40 (upv 4 ft4_40 (upv 3 ft3_40 (upv 2 ft2_40 (upv 1 ft1_40 Ft)))))) At Bt Dt) ++ ((uX9 cs (qt 0) qtp Ftp Atp Btp Dtp) ++ (uX3 cs adh qh Fh Ah Bh Dh))) H → va_D A0 ((uX6 cs adt qt (upv 6 ft6_40 (upv 5 ft5_40 (upv 4 ft4_40 (upv 3 ft3_40 (upv 2 ft2_40 (upv 1 ft1_40 Ft)))))) At Bt Dt) ++ ((uX9 cs (qt 0) qtp Ftp Atp Btp Dtp) ++ (uX3 cs adh qh Fh Ah Bh Dh))) → va_S A0 s.heap H locs → lv_has ls 4 [(0, .ref adt), (1, .ref adh), (2, .int r14)] → W p l e (rmk 3 0 0) s m args below meth c H locs 0 0 (MQ below ((QDi G (fun (r : Int32) (u : Int32 × Int32 × Int32 × Int32 × Int32 × Int32 × (Nat → Int32)) => ((0 : Int) ≤ u.1.toInt ∧ u.1.toInt ≤ 900) ∧ ((0 : Int) ≤ u.2.1.toInt ∧ u.2.1.toInt ≤ 4) ∧ ((0 : Int) ≤ u.2.2.1.toInt ∧ u.2.2.1.toInt ≤ 900) ∧ AJ (0) 127 u.2.2.2.2.2.2 ∧ ((0 : Int) ≤ r.toInt ∧ r.toInt ≤ 1)) (fun u : Int32 × Int32 × Int32 × Int32 × Int32 × Int32 × (Nat → Int32) => ((wX6 cs adt qt (upd (upd (upd (upd (upd (upd Ft 1 u.1) 2 u.2.1) 3 u.2.2.1) 4 u.2.2.2.1) 5 u.2.2.2.2.1) 6 u.2.2.2.2.2.1) At Bt Dt) ++ ((uX9 cs (qt 0) qtp Ftp Atp Btp Dtp) ++ (wX3 cs adh qh Fh (vA Ah 10 u.2.2.2.2.2.2) Bh Dh))))) A0) args s 0 0 A0) (F0 m 40 ls [.int s40_0]) := by
    intro s40_0 ft1_40 ft2_40 ft3_40 ft4_40 ft5_40 ft6_40 H locs ls hft1_40 hft2_40 hft3_40 hP hD hS hl
    refine lv_istore_n (lv' := [(3, .int s40_0), (0, .ref adt), (1, .ref adh), (2, .int r14)]) hx hb dX6_readDoor_40 rfl hl (by decide) rfl (fun ls hl => ?_)
    refine lv_aload_n hx hb dX6_readDoor_41 rfl (lv_at hl 1 rfl) ?_
    refine getF (v := .int ft5_40) hx hb ht hown hK hP iTX6 0 5 rfl rfl (by decide) fl_RX6_27 rfl dX6_readDoor_42 ?_
    refine lv_if_eq (tgt := 50) hx hb dX6_readDoor_45 (by decide) (fun c25001 => ?_) (fun c25001 => ?_)
    · have zc25001 := eqK rfl (show (0 : Int32).toInt = 0 by decide) c25001
      refine lv_aload_n hx hb dX6_readDoor_50 rfl (lv_at hl 2 rfl) ?_
      refine lv_iload_n hx hb dX6_readDoor_51 rfl (lv_at hl 3 rfl) ?_
      refine lv_iload_n hx hb dX6_readDoor_52 rfl (lv_at hl 0 rfl) ?_
      refine behDw (wr := ((uX6 cs adt qt (upv 6 ft6_40 (upv 5 ft5_40 (upv 4 ft4_40 (upv 3 ft3_40 (upv 2 ft2_40 (upv 1 ft1_40 Ft)))))) At Bt Dt) ++ (uX9 cs (qt 0) qtp Ftp Atp Btp Dtp))) (runVD (As := [.int r14, .int s40_0]) (rest := []) ⟨hx, hb, hml, hown, ht⟩ (sX3_openDoor l G cs adh qh Fh Ah Bh Dh hIh r14 s40_0 ) okV_RX6_124 ⟨by decide, by decide⟩ hK hP hD [3, 4, 5, 6, 7, 8, 9, 10] rfl (by decide) rfl 3 rfl rfl hl.1 rfl (Nat.le_of_ble_eq_true rfl) dX6_readDoor_53 ⟨(Nat.le_of_ble_eq_true rfl), (Nat.le_of_ble_eq_true rfl)⟩) hP hD hS hA [3, 4, 5, 6, 7, 8, 9, 10] [0, 1, 2] rfl rfl (by decide) (by decide) (fun u H locs hu hP hD hS => ?_)
      obtain ⟨g25002, rfl⟩ : ∃ z, z = u := ⟨_, rfl⟩
      obtain ⟨hg25002, hr25003⟩ := hu
      have hg25002 : AJ (0) 127 g25002 := hg25002
      have hP : va_P G vwCl ((uX6 cs adt qt (upv 6 ft6_40 (upv 5 ft5_40 (upv 4 ft4_40 (upv 3 ft3_40 (upv 2 ft2_40 (upv 1 ft1_40 Ft)))))) At Bt Dt) ++ ((uX9 cs (qt 0) qtp Ftp Atp Btp Dtp) ++ (uX3 cs adh qh Fh (vB 10 g25002 Ah) Bh Dh))) H := hP.sub [0, 1, 2, 3, 4, 5, 6, 7, 8, 9, 10] rfl
      have hD : va_D A0 ((uX6 cs adt qt (upv 6 ft6_40 (upv 5 ft5_40 (upv 4 ft4_40 (upv 3 ft3_40 (upv 2 ft2_40 (upv 1 ft1_40 Ft)))))) At Bt Dt) ++ ((uX9 cs (qt 0) qtp Ftp Atp Btp Dtp) ++ (uX3 cs adh qh Fh (vB 10 g25002 Ah) Bh Dh))) := hD.sub [0, 1, 2, 3, 4, 5, 6, 7, 8, 9, 10] (by decide) rfl
      refine lv_iconst (v := 1) hx hb dX6_readDoor_56 (by decide) ?_
      exact retDz (ft1_40, ft2_40, ft3_40, ft4_40, ft5_40, ft6_40, g25002) hx hb hr hlk hP hD hS dX6_readDoor_57 (rfl) (⟨show (0 : Int) ≤ ft1_40.toInt ∧ ft1_40.toInt ≤ 900 by omega, show (0 : Int) ≤ ft2_40.toInt ∧ ft2_40.toInt ≤ 4 by omega, show (0 : Int) ≤ ft3_40.toInt ∧ ft3_40.toInt ≤ 900 by omega, hg25002, show (0 : Int) ≤ (1 : Int32).toInt ∧ (1 : Int32).toInt ≤ 1 by have kk : (1 : Int32).toInt = 1 := (by decide); omega⟩) (Nat.le_of_ble_eq_true rfl) (Nat.le_of_ble_eq_true rfl)
    · have zc25001 := neK rfl (show (0 : Int32).toInt = 0 by decide) c25001
      refine lv_iconst (v := 0) hx hb dX6_readDoor_48 (by decide) ?_
      exact retDz (ft1_40, ft2_40, ft3_40, ft4_40, ft5_40, ft6_40, (Ah 10)) hx hb hr hlk hP hD hS dX6_readDoor_49 (rfl) (⟨show (0 : Int) ≤ ft1_40.toInt ∧ ft1_40.toInt ≤ 900 by omega, show (0 : Int) ≤ ft2_40.toInt ∧ ft2_40.toInt ≤ 4 by omega, show (0 : Int) ≤ ft3_40.toInt ∧ ft3_40.toInt ≤ 900 by omega, fun j => hIh.2 10 j, show (0 : Int) ≤ (0 : Int32).toInt ∧ (0 : Int32).toInt ≤ 1 by have kk : (0 : Int32).toInt = 0 := (by decide); omega⟩) (Nat.le_of_ble_eq_true rfl) (Nat.le_of_ble_eq_true rfl)
  refine lv_if_ne (tgt := 39) hx hb dX6_readDoor_21 (by decide) (fun c17 => ?_) (fun c17 => ?_)
  · have zc17 := neK rfl (show (0 : Int32).toInt = 0 by decide) c17
    refine lv_iconst (v := (-1)) hx hb dX6_readDoor_39 (by decide) ?_
    exact B40 (-1) x8 x9 x10 x11 x12 x13 H locs ls (by omega) (by omega) (by omega) hP hD hS (lv_sub hl [1, 2, 0] rfl)
  · have zc17 := eqK rfl (show (0 : Int32).toInt = 0 by decide) c17
    refine lv_aload_n hx hb dX6_readDoor_24 rfl (lv_at hl 1 rfl) ?_
    refine lv_iconst (v := 0) hx hb dX6_readDoor_25 (by decide) ?_
    refine lv_aload_n hx hb dX6_readDoor_26 rfl (lv_at hl 2 rfl) ?_
    refine getF (v := .int (Fh 5)) hx hb ht hown hK hP iTX3 3 5 rfl rfl (by decide) fl_RX6_103 rfl dX6_readDoor_27 ?_
    have zf18 : (0 : Int) ≤ (Fh 5).toInt ∧ (Fh 5).toInt ≤ 7 := hIh.1 5
    refine lv_iconst (v := 1) hx hb dX6_readDoor_30 (by decide) ?_
    refine lv_isub hx hb dX6_readDoor_31 ?_
    refine lv_topi (fun v19 ev19 => ?_)
    have tv19 : v19.toInt = (Fh 5).toInt - 1 := by rw [ev19]; exact subT rfl (show (1 : Int32).toInt = 1 by decide) (by omega)
    refine lv_iload_n hx hb dX6_readDoor_32 rfl (lv_at hl 0 rfl) ?_
    refine behDi (wr := (uX3 cs adh qh Fh Ah Bh Dh)) (runVD (As := [.int 0, .int v19, .int r14]) (rest := []) ⟨hx, hb, hml, hown, ht⟩ (sX6_takeNumber l G cs adt qt (upv 6 x13 (upv 5 x12 (upv 4 x11 (upv 3 x10 (upv 2 x9 (upv 1 x8 Ft)))))) At Bt Dt (IB_pv (k := 6) (IB_pv (k := 5) (IB_pv (k := 4) (IB_pv (k := 3) (IB_pv (k := 2) (IB_pv (k := 1) hIt (show (0 : Int) ≤ x8.toInt ∧ x8.toInt ≤ 900 by omega)) (show (0 : Int) ≤ x9.toInt ∧ x9.toInt ≤ 4 by omega)) (show (0 : Int) ≤ x10.toInt ∧ x10.toInt ≤ 900 by omega)) (i32b _)) (i32b _)) (i32b _)) qtp Ftp Atp Btp Dtp hItp 0 v19 r14 ) okV_RX6_120 ⟨by decide, by decide⟩ hK hP hD [0, 1, 2] rfl (by decide) rfl 0 rfl rfl hl.1 rfl (Nat.le_of_ble_eq_true rfl) dX6_readDoor_33 ⟨(Nat.le_of_ble_eq_true rfl), (Nat.le_of_ble_eq_true rfl)⟩) hP hD hS hA [0, 1, 2] [3, 4, 5, 6, 7, 8, 9, 10] rfl rfl (by decide) (by decide) (fun r9 u H locs hu hP hD hS => ?_)
    obtain ⟨x20, x21, x22, x23, x24, x25⟩ := u
    have kk27 : (0 : Int32).toInt = 0 := by decide
    obtain ⟨r26, rfl⟩ : ∃ z, z = r9 := ⟨_, rfl⟩
    obtain ⟨hbx20, hbx21, hbx22, hr26⟩ := hu
    have hbx20 : (0 : Int) ≤ x20.toInt ∧ x20.toInt ≤ 900 := hbx20
    have hbx21 : (0 : Int) ≤ x21.toInt ∧ x21.toInt ≤ 4 := hbx21
    have hbx22 : (0 : Int) ≤ x22.toInt ∧ x22.toInt ≤ 900 := hbx22
    have hr26 : TNk r26 ((0 : Int32).toInt) v19.toInt := hr26
    have hP : va_P G vwCl ((uX6 cs adt qt (upv 6 x25 (upv 5 x24 (upv 4 x23 (upv 3 x22 (upv 2 x21 (upv 1 x20 Ft)))))) At Bt Dt) ++ ((uX9 cs (qt 0) qtp Ftp Atp Btp Dtp) ++ (uX3 cs adh qh Fh Ah Bh Dh))) H := hP.sub [8, 9, 10, 0, 1, 2, 3, 4, 5, 6, 7] rfl
    have hD : va_D A0 ((uX6 cs adt qt (upv 6 x25 (upv 5 x24 (upv 4 x23 (upv 3 x22 (upv 2 x21 (upv 1 x20 Ft)))))) At Bt Dt) ++ ((uX9 cs (qt 0) qtp Ftp Atp Btp Dtp) ++ (uX3 cs adh qh Fh Ah Bh Dh))) := hD.sub [8, 9, 10, 0, 1, 2, 3, 4, 5, 6, 7] (by decide) rfl
    refine lv_goto (tgt := 40) hx hb dX6_readDoor_36 (by decide) ?_
    exact B40 r26 x20 x21 x22 x23 x24 x25 H locs ls (by omega) (by omega) (by omega) hP hD hS (lv_sub hl [1, 2, 0] rfl)

