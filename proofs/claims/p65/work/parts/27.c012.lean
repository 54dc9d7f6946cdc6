set_option maxRecDepth 100000 in
set_option maxHeartbeats 16000000 in
theorem sX6_readSlate (l : Launch) (G : va_G) (cs : Nat → ClassId) (sd : Nat → Nat × Nat) (adt : Nat) (qt : Nat → Nat) (Ft : Nat → Int32) (At : Nat → Nat → Int32) (Bt : Nat → Nat → Int64) (Dt : Int64) (hIt : IX6 Ft At) (qtp : Nat → Nat) (Ftp : Nat → Int32) (Atp : Nat → Nat → Int32) (Btp : Nat → Nat → Int64) (Dtp : Int64) (hItp : IX9 Ftp Atp) (adh : Nat) (qh : Nat → Nat) (Fh : Nat → Int32) (Ah : Nat → Nat → Int32) (Bh : Nat → Nat → Int64) (Dh : Int64) (hIh : IX3 Fh Ah) : ∀ sz : Nat, Met l yX6_readSlate (wk yX6_readSlate cX6_readSlate 5 (some .boolean)) (rmk 6 0 0) (PreDS SRR sd G (TY cs) [.ref adt, .ref adh] ((uX6 cs adt qt Ft At Bt Dt) ++ ((uX9 cs (qt 0) qtp Ftp Atp Btp Dtp) ++ (uX3 cs adh qh Fh Ah Bh Dh))) sz) ((QDi G (fun (r : Int32) (u : Int32 × Int32 × Int32 × Int32 × Int32 × Int32 × (Nat → Int32)) => ((0 : Int) ≤ u.1.toInt ∧ u.1.toInt ≤ 900) ∧ ((0 : Int) ≤ u.2.1.toInt ∧ u.2.1.toInt ≤ 4) ∧ ((0 : Int) ≤ u.2.2.1.toInt ∧ u.2.2.1.toInt ≤ 900) ∧ ((0 : Int) ≤ r.toInt ∧ r.toInt ≤ 1)) (fun u : Int32 × Int32 × Int32 × Int32 × Int32 × Int32 × (Nat → Int32) => ((wX6 cs adt qt (upd (upd (upd (upd (upd (upd Ft 1 u.1) 2 u.2.1) 3 u.2.2.1) 4 u.2.2.2.1) 5 u.2.2.2.2.1) 6 u.2.2.2.2.2.1) At Bt Dt) ++ ((uX9 cs (qt 0) qtp Ftp Atp Btp Dtp) ++ (wX3 cs adh qh Fh (vA Ah 13 u.2.2.2.2.2.2) Bh Dh))))) (va_A ((uX6 cs adt qt Ft At Bt Dt) ++ ((uX9 cs (qt 0) qtp Ftp Atp Btp Dtp) ++ (uX3 cs adh qh Fh Ah Bh Dh))) sz)) 0 0 (va_A ((uX6 cs adt qt Ft At Bt Dt) ++ ((uX9 cs (qt 0) qtp Ftp Atp Btp Dtp) ++ (uX3 cs adh qh Fh Ah Bh Dh))) sz) := by
  refine mkDS (Qc := (QDi G (fun (r : Int32) (u : Int32 × Int32 × Int32 × Int32 × Int32 × Int32 × (Nat → Int32)) => ((0 : Int) ≤ u.1.toInt ∧ u.1.toInt ≤ 900) ∧ ((0 : Int) ≤ u.2.1.toInt ∧ u.2.1.toInt ≤ 4) ∧ ((0 : Int) ≤ u.2.2.1.toInt ∧ u.2.2.1.toInt ≤ 900) ∧ ((0 : Int) ≤ r.toInt ∧ r.toInt ≤ 1)) (fun u : Int32 × Int32 × Int32 × Int32 × Int32 × Int32 × (Nat → Int32) => ((wX6 cs adt qt (upd (upd (upd (upd (upd (upd Ft 1 u.1) 2 u.2.1) 3 u.2.2.1) 4 u.2.2.2.1) 5 u.2.2.2.2.1) 6 u.2.2.2.2.2.1) At Bt Dt) ++ ((uX9 cs (qt 0) qtp Ftp Atp Btp Dtp) ++ (wX3 cs adh qh Fh (vA Ah 13 u.2.2.2.2.2.2) Bh Dh)))))) (by decide) (by simp [lg_sl, Value.category]) ?_
  intro p e s m args below meth c ls A0 hx hb hml hr hlk hown hmn ht hK hP hD hS hA hQ hl
  have hl : lv_has ls 5 [(0, .ref adt), (1, .ref adh)] := hl
  refine lv_aload_n hx hb dX6_readSlate_0 rfl (lv_at hl 0 rfl) ?_
  refine behDw (wr := (uX3 cs adh qh Fh Ah Bh Dh)) (runVD (As := []) (rest := []) ⟨hx, hb, hml, hown, ht⟩ (sX6_advance l G cs adt qt Ft At Bt Dt hIt qtp Ftp Atp Btp Dtp hItp ) okV_RX6_33 ⟨by decide, by decide⟩ hK hP hD [0, 1, 2] rfl (by decide) rfl 0 rfl rfl hl.1 rfl (Nat.le_of_ble_eq_true rfl) dX6_readSlate_1 ⟨(Nat.le_of_ble_eq_true rfl), (Nat.le_of_ble_eq_true rfl)⟩) hP hD hS hA [0, 1, 2] [3, 4, 5, 6, 7, 8, 9, 10] rfl rfl (by decide) (by decide) (fun u H locs hu hP hD hS => ?_)
  obtain ⟨x1, x2, x3, x4⟩ := u
  obtain ⟨hbx1, hbx2, hbx3, hr5⟩ := hu
  have hbx1 : (0 : Int) ≤ x1.toInt ∧ x1.toInt ≤ 900 := hbx1
  have hbx2 : (0 : Int) ≤ x2.toInt ∧ x2.toInt ≤ 4 := hbx2
  have hbx3 : (0 : Int) ≤ x3.toInt ∧ x3.toInt ≤ 900 := hbx3
  have hP : va_P G vwCl ((uX6 cs adt qt (upv 4 x4 (upv 3 x3 (upv 2 x2 (upv 1 x1 Ft)))) At Bt Dt) ++ ((uX9 cs (qt 0) qtp Ftp Atp Btp Dtp) ++ (uX3 cs adh qh Fh Ah Bh Dh))) H := hP.sub [8, 9, 10, 0, 1, 2, 3, 4, 5, 6, 7] rfl
  have hD : va_D A0 ((uX6 cs adt qt (upv 4 x4 (upv 3 x3 (upv 2 x2 (upv 1 x1 Ft)))) At Bt Dt) ++ ((uX9 cs (qt 0) qtp Ftp Atp Btp Dtp) ++ (uX3 cs adh qh Fh Ah Bh Dh))) := hD.sub [8, 9, 10, 0, 1, 2, 3, 4, 5, 6, 7] (by decide) rfl
  refine lv_aload_n hx hb dX6_readSlate_4 rfl (lv_at hl 0 rfl) ?_
  refine lv_iconst (v := 0) hx hb dX6_readSlate_5 (by decide) ?_
  refine lv_aload_n hx hb dX6_readSlate_6 rfl (lv_at hl 1 rfl) ?_
  refine getF (v := .int (Fh 6)) hx hb ht hown hK hP iTX3 3 6 rfl rfl (by decide) fl_RX6_128 rfl dX6_readSlate_7 ?_
  have zf6 : (0 : Int) ≤ (Fh 6).toInt ∧ (Fh 6).toInt ≤ 6 := hIh.1 6
  refine lv_iconst (v := 1) hx hb dX6_readSlate_10 (by decide) ?_
  refine lv_isub hx hb dX6_readSlate_11 ?_
  refine lv_topi (fun v7 ev7 => ?_)
  have tv7 : v7.toInt = (Fh 6).toInt - 1 := by rw [ev7]; exact subT rfl (show (1 : Int32).toInt = 1 by decide) (by omega)
  refine lv_iconst (v := (-1)) hx hb dX6_readSlate_12 (by decide) ?_
  refine behDi (wr := (uX3 cs adh qh Fh Ah Bh Dh)) (runVD (As := [.int 0, .int v7, .int (-1)]) (rest := []) ⟨hx, hb, hml, hown, ht⟩ (sX6_takeNumber l G cs adt qt (upv 4 x4 (upv 3 x3 (upv 2 x2 (upv 1 x1 Ft)))) At Bt Dt (IB_pv (k := 4) (IB_pv (k := 3) (IB_pv (k := 2) (IB_pv (k := 1) hIt (show (0 : Int) ≤ x1.toInt ∧ x1.toInt ≤ 900 by omega)) (show (0 : Int) ≤ x2.toInt ∧ x2.toInt ≤ 4 by omega)) (show (0 : Int) ≤ x3.toInt ∧ x3.toInt ≤ 900 by omega)) (i32b _)) qtp Ftp Atp Btp Dtp hItp 0 v7 (-1) ) okV_RX6_120 ⟨by decide, by decide⟩ hK hP hD [0, 1, 2] rfl (by decide) rfl 0 rfl rfl hl.1 rfl (Nat.le_of_ble_eq_true rfl) dX6_readSlate_13 ⟨(Nat.le_of_ble_eq_true rfl), (Nat.le_of_ble_eq_true rfl)⟩) hP hD hS hA [0, 1, 2] [3, 4, 5, 6, 7, 8, 9, 10] rfl rfl (by decide) (by decide) (fun r9 u H locs hu hP hD hS => ?_)
  obtain ⟨x8, x9, x10, x11, x12, x13⟩ := u
  have kk15 : (0 : Int32).toInt = 0 := by decide
  have kk16 : (-1 : Int32).toInt = (-1) := by decide
  obtain ⟨r14, rfl⟩ : ∃ z, z = r9 := ⟨_, rfl⟩
  obtain ⟨hbx8, hbx9, hbx10, hr14⟩ := hu
  have hbx8 : (0 : Int) ≤ x8.toInt ∧ x8.toInt ≤ 900 := hbx8
  have hbx9 : (0 : Int) ≤ x9.toInt ∧ x9.toInt ≤ 4 := hbx9
  have hbx10 : (0 : Int) ≤ x10.toInt ∧ x10.toInt ≤ 900 := hbx10
  have hr14 : TNk r14 ((0 : Int32).toInt) v7.toInt := hr14
  have hP : va_P G vwCl ((uX6 cs adt qt (upv 6 x13 (upv 5 x12 (upv 4 x11 (upv 3 x10 (upv 2 x9 (upv 1 x8 Ft)))))) At Bt Dt) ++ ((uX9 cs (qt 0) qtp Ftp Atp Btp Dtp) ++ (uX3 cs adh qh Fh Ah Bh Dh))) H := hP.sub [8, 9, 10, 0, 1, 2, 3, 4, 5, 6, 7] rfl
  have hD : va_D A0 ((uX6 cs adt qt (upv 6 x13 (upv 5 x12 (upv 4 x11 (upv 3 x10 (upv 2 x9 (upv 1 x8 Ft)))))) At Bt Dt) ++ ((uX9 cs (qt 0) qtp Ftp Atp Btp Dtp) ++ (uX3 cs adh qh Fh Ah Bh Dh))) := hD.sub [8, 9, 10, 0, 1, 2, 3, 4, 5, 6, 7] (by decide) rfl
  refine lv_istore_n (lv' := [(2, .int r14), (0, .ref adt), (1, .ref adh)]) hx hb dX6_readSlate_16 rfl hl (by decide) rfl (fun ls hl => ?_)
  refine lv_aload_n hx hb dX6_readSlate_17 rfl (lv_at hl 1 rfl) ?_
  refine getF (v := .int x12) hx hb ht hown hK hP iTX6 0 5 rfl rfl (by decide) fl_RX6_27 rfl dX6_readSlate_18 ?_
  have B41 : ∀ (s41_0 : Int32) (ft1_41 : Int32) (ft2_41 : Int32) (ft3_41 : Int32) (ft4_41 : Int32) (ft5_41 : Int32) (ft6_41 : Int32) (H : Heap) (locs : List Loc) (ls : Array Slot), (0 : Int) ≤ ft1_41.toInt ∧ ft1_41.toInt ≤ 900 → (0 : Int) ≤ ft2_41.toInt ∧ ft2_41.toInt ≤ 4 → (0 : Int) ≤ ft3_41.toInt ∧ ft3_41.toInt ≤ 900 → va_P G vwCl ((uX6 cs adt qt (upv 6 ft6_41 (upv 5 ft5_41 (upv 4 ft4_41 (upv 3 ft3_41 (upv 2 ft2_41 (upv 1 ft1_41 Ft)))))) At Bt Dt) ++ ((uX9 cs (qt 0) qtp Ftp Atp Btp Dtp) ++ (uX3 cs adh qh Fh Ah Bh Dh))) H → va_D A0 ((uX6 cs adt qt (upv 6 ft6_41 (upv 5 ft5_41 (upv 4 ft4_41 (upv 3 ft3_41 (upv 2 ft2_41 (upv 1 ft1_41 Ft)))))) At Bt Dt) ++ ((uX9 cs (qt 0) qtp Ftp Atp Btp Dtp) ++ (uX3 cs adh qh Fh Ah Bh Dh))) → va_S A0 s.heap H locs → lv_has ls 5 [(0, .ref adt), (1, .ref adh), (2, .int r14)] → W p l e (rmk 6 0 0) s m args below meth c H locs 0 0 (MQ below ((QDi G (fun (r : Int32) (u : Int32 × Int32 × Int32 × Int32 × Int32 × Int32 × (Nat → Int32)) => ((0 : Int) ≤ u.1.toInt ∧ u.1.toInt ≤ 900) ∧ ((0 : Int) ≤ u.2.1.toInt ∧ u.2.1.toInt ≤ 4) ∧ ((0 : Int) ≤ u.2.2.1.toInt ∧ u.2.2.1.toInt ≤ 900) ∧ ((0 : Int) ≤ r.toInt ∧ r.toInt ≤ 1)) (fun u : Int32 × Int32 × Int32 × Int32 × Int32 × Int32 × (Nat → Int32) => ((wX6 cs adt qt (upd (upd (upd (upd (upd (upd Ft 1 u.1) 2 u.2.1) 3 u.2.2.1) 4 u.2.2.2.1) 5 u.2.2.2.2.1) 6 u.2.2.2.2.2.1) At Bt Dt) ++ ((uX9 cs (qt 0) qtp Ftp Atp Btp Dtp) ++ (wX3 cs adh qh Fh (vA Ah 13 u.2.2.2.2.2.2) Bh Dh))))) A0) args s 0 0 A0) (F0 m 41 ls [.int s41_0]) := by
    intro s41_0 ft1_41 ft2_41 ft3_41 ft4_41 ft5_41 ft6_41 H locs ls hft1_41 hft2_41 hft3_41 hP hD hS hl
    refine lv_istore_n (lv' := [(3, .int s41_0), (0, .ref adt), (1, .ref adh), (2, .int r14)]) hx hb dX6_readSlate_41 rfl hl (by decide) rfl (fun ls hl => ?_)
    refine lv_aload_n hx hb dX6_readSlate_42 rfl (lv_at hl 1 rfl) ?_
    refine getF (v := .int ft5_41) hx hb ht hown hK hP iTX6 0 5 rfl rfl (by decide) fl_RX6_27 rfl dX6_readSlate_43 ?_
    have B61 : ∀ (s61_0 : Int32) (ft1_61 : Int32) (ft2_61 : Int32) (ft3_61 : Int32) (ft4_61 : Int32) (ft5_61 : Int32) (ft6_61 : Int32) (H : Heap) (locs : List Loc) (ls : Array Slot), (0 : Int) ≤ ft1_61.toInt ∧ ft1_61.toInt ≤ 900 → (0 : Int) ≤ ft2_61.toInt ∧ ft2_61.toInt ≤ 4 → (0 : Int) ≤ ft3_61.toInt ∧ ft3_61.toInt ≤ 900 → va_P G vwCl ((uX6 cs adt qt (upv 6 ft6_61 (upv 5 ft5_61 (upv 4 ft4_61 (upv 3 ft3_61 (upv 2 ft2_61 (upv 1 ft1_61 Ft)))))) At Bt Dt) ++ ((uX9 cs (qt 0) qtp Ftp Atp Btp Dtp) ++ (uX3 cs adh qh Fh Ah Bh Dh))) H → va_D A0 ((uX6 cs adt qt (upv 6 ft6_61 (upv 5 ft5_61 (upv 4 ft4_61 (upv 3 ft3_61 (upv 2 ft2_61 (upv 1 ft1_61 Ft)))))) At Bt Dt) ++ ((uX9 cs (qt 0) qtp Ftp Atp Btp Dtp) ++ (uX3 cs adh qh Fh Ah Bh Dh))) → va_S A0 s.heap H locs → lv_has ls 5 [(0, .ref adt), (1, .ref adh), (2, .int r14), (3, .int s41_0)] → W p l e (rmk 6 0 0) s m args below meth c H locs 0 0 (MQ below ((QDi G (fun (r : Int32) (u : Int32 × Int32 × Int32 × Int32 × Int32 × Int32 × (Nat → Int32)) => ((0 : Int) ≤ u.1.toInt ∧ u.1.toInt ≤ 900) ∧ ((0 : Int) ≤ u.2.1.toInt ∧ u.2.1.toInt ≤ 4) ∧ ((0 : Int) ≤ u.2.2.1.toInt ∧ u.2.2.1.toInt ≤ 900) ∧ ((0 : Int) ≤ r.toInt ∧ r.toInt ≤ 1)) (fun u : Int32 × Int32 × Int32 × Int32 × Int32 × Int32 × (Nat → Int32) => ((wX6 cs adt qt (upd (upd (upd (upd (upd (upd Ft 1 u.1) 2 u.2.1) 3 u.2.2.1) 4 u.2.2.2.1) 5 u.2.2.2.2.1) 6 u.2.2.2.2.2.1) At Bt Dt) ++ ((uX9 cs (qt 0) qtp Ftp Atp Btp Dtp) ++ (wX3 cs adh qh Fh (vA Ah 13 u.2.2.2.2.2.2) Bh Dh))))) A0) args s 0 0 A0) (F0 m 61 ls [.int s61_0]) := by
      intro s61_0 ft1_61 ft2_61 ft3_61 ft4_61 ft5_61 ft6_61 H locs ls hft1_61 hft2_61 hft3_61 hP hD hS hl
      refine lv_istore (lv' := [(4, .int s61_0), (0, .ref adt), (1, .ref adh), (2, .int r14), (3, .int s41_0)]) hx hb dX6_readSlate_61 hl (by decide) rfl (fun ls hl => ?_)
      refine lv_aload_n hx hb dX6_readSlate_63 rfl (lv_at hl 1 rfl) ?_
      refine getF (v := .int ft5_61) hx hb ht hown hK hP iTX6 0 5 rfl rfl (by decide) fl_RX6_27 rfl dX6_readSlate_64 ?_
      refine lv_if_eq (tgt := 72) hx hb dX6_readSlate_67 (by decide) (fun c36001 => ?_) (fun c36001 => ?_)
      · have zc36001 := eqK rfl (show (0 : Int32).toInt = 0 by decide) c36001
        refine lv_aload_n hx hb dX6_readSlate_72 rfl (lv_at hl 2 rfl) ?_
        refine lv_iload_n hx hb dX6_readSlate_73 rfl (lv_at hl 3 rfl) ?_
        refine lv_iload_n hx hb dX6_readSlate_74 rfl (lv_at hl 4 rfl) ?_
        refine lv_iload hx hb dX6_readSlate_75 (lv_at hl 0 rfl) ?_
        refine behDw (wr := ((uX6 cs adt qt (upv 6 ft6_61 (upv 5 ft5_61 (upv 4 ft4_61 (upv 3 ft3_61 (upv 2 ft2_61 (upv 1 ft1_61 Ft)))))) At Bt Dt) ++ (uX9 cs (qt 0) qtp Ftp Atp Btp Dtp))) (runVD (As := [.int r14, .int s41_0, .int s61_0]) (rest := []) ⟨hx, hb, hml, hown, ht⟩ (sX3_tellSlate l G cs adh qh Fh Ah Bh Dh hIh r14 s41_0 s61_0 ) okV_RX6_144 ⟨by decide, by decide⟩ hK hP hD [3, 4, 5, 6, 7, 8, 9, 10] rfl (by decide) rfl 3 rfl rfl hl.1 rfl (Nat.le_of_ble_eq_true rfl) dX6_readSlate_77 ⟨(Nat.le_of_ble_eq_true rfl), (Nat.le_of_ble_eq_true rfl)⟩) hP hD hS hA [3, 4, 5, 6, 7, 8, 9, 10] [0, 1, 2] rfl rfl (by decide) (by decide) (fun u H locs hu hP hD hS => ?_)
        obtain ⟨g36002, rfl⟩ : ∃ z, z = u := ⟨_, rfl⟩
        have hr36003 := hu
        have hP : va_P G vwCl ((uX6 cs adt qt (upv 6 ft6_61 (upv 5 ft5_61 (upv 4 ft4_61 (upv 3 ft3_61 (upv 2 ft2_61 (upv 1 ft1_61 Ft)))))) At Bt Dt) ++ ((uX9 cs (qt 0) qtp Ftp Atp Btp Dtp) ++ (uX3 cs adh qh Fh (vB 13 g36002 Ah) Bh Dh))) H := hP.sub [0, 1, 2, 3, 4, 5, 6, 7, 8, 9, 10] rfl
        have hD : va_D A0 ((uX6 cs adt qt (upv 6 ft6_61 (upv 5 ft5_61 (upv 4 ft4_61 (upv 3 ft3_61 (upv 2 ft2_61 (upv 1 ft1_61 Ft)))))) At Bt Dt) ++ ((uX9 cs (qt 0) qtp Ftp Atp Btp Dtp) ++ (uX3 cs adh qh Fh (vB 13 g36002 Ah) Bh Dh))) := hD.sub [0, 1, 2, 3, 4, 5, 6, 7, 8, 9, 10] (by decide) rfl
        refine lv_iconst (v := 1) hx hb dX6_readSlate_80 (by decide) ?_
        exact retDz (ft1_61, ft2_61, ft3_61, ft4_61, ft5_61, ft6_61, g36002) hx hb hr hlk hP hD hS dX6_readSlate_81 (rfl) (⟨show (0 : Int) ≤ ft1_61.toInt ∧ ft1_61.toInt ≤ 900 by omega, show (0 : Int) ≤ ft2_61.toInt ∧ ft2_61.toInt ≤ 4 by omega, show (0 : Int) ≤ ft3_61.toInt ∧ ft3_61.toInt ≤ 900 by omega, show (0 : Int) ≤ (1 : Int32).toInt ∧ (1 : Int32).toInt ≤ 1 by have kk : (1 : Int32).toInt = 1 := (by decide); omega⟩) (Nat.le_of_ble_eq_true rfl) (Nat.le_of_ble_eq_true rfl)
      · have zc36001 := neK rfl (show (0 : Int32).toInt = 0 by decide) c36001
        refine lv_iconst (v := 0) hx hb dX6_readSlate_70 (by decide) ?_
        exact retDz (ft1_61, ft2_61, ft3_61, ft4_61, ft5_61, ft6_61, (Ah 13)) hx hb hr hlk hP hD hS dX6_readSlate_71 (rfl) (⟨show (0 : Int) ≤ ft1_61.toInt ∧ ft1_61.toInt ≤ 900 by omega, show (0 : Int) ≤ ft2_61.toInt ∧ ft2_61.toInt ≤ 4 by omega, show (0 : Int) ≤ ft3_61.toInt ∧ ft3_61.toInt ≤ 900 by omega, show (0 : Int) ≤ (0 : Int32).toInt ∧ (0 : Int32).toInt ≤ 1 by have kk : (0 : Int32).toInt = 0 := (by decide); omega⟩) (Nat.le_of_ble_eq_true rfl) (Nat.le_of_ble_eq_true rfl)
    refine lv_if_ne (tgt := 60) hx hb dX6_readSlate_46 (by decide) (fun c25001 => ?_) (fun c25001 => ?_)
    · have zc25001 := neK rfl (show (0 : Int32).toInt = 0 by decide) c25001
      refine lv_iconst (v := (-1)) hx hb dX6_readSlate_60 (by decide) ?_
      exact B61 (-1) ft1_41 ft2_41 ft3_41 ft4_41 ft5_41 ft6_41 H locs ls (by omega) (by omega) (by omega) hP hD hS (lv_sub hl [1, 2, 3, 0] rfl)
    · have zc25001 := eqK rfl (show (0 : Int32).toInt = 0 by decide) c25001
      refine lv_aload_n hx hb dX6_readSlate_49 rfl (lv_at hl 1 rfl) ?_
      refine lv_iconst (v := 0) hx hb dX6_readSlate_50 (by decide) ?_
      refine lv_bipush (v := 9) hx hb dX6_readSlate_51 (by decide) ?_
      refine lv_iconst (v := (-1)) hx hb dX6_readSlate_53 (by decide) ?_
      refine behDi (wr := (uX3 cs adh qh Fh Ah Bh Dh)) (runVD (As := [.int 0, .int 9, .int (-1)]) (rest := []) ⟨hx, hb, hml, hown, ht⟩ (sX6_takeNumber l G cs adt qt (upv 6 ft6_41 (upv 5 ft5_41 (upv 4 ft4_41 (upv 3 ft3_41 (upv 2 ft2_41 (upv 1 ft1_41 Ft)))))) At Bt Dt (IB_pv (k := 6) (IB_pv (k := 5) (IB_pv (k := 4) (IB_pv (k := 3) (IB_pv (k := 2) (IB_pv (k := 1) hIt (show (0 : Int) ≤ ft1_41.toInt ∧ ft1_41.toInt ≤ 900 by omega)) (show (0 : Int) ≤ ft2_41.toInt ∧ ft2_41.toInt ≤ 4 by omega)) (show (0 : Int) ≤ ft3_41.toInt ∧ ft3_41.toInt ≤ 900 by omega)) (i32b _)) (i32b _)) (i32b _)) qtp Ftp Atp Btp Dtp hItp 0 9 (-1) ) okV_RX6_120 ⟨by decide, by decide⟩ hK hP hD [0, 1, 2] rfl (by decide) rfl 0 rfl rfl hl.1 rfl (Nat.le_of_ble_eq_true rfl) dX6_readSlate_54 ⟨(Nat.le_of_ble_eq_true rfl), (Nat.le_of_ble_eq_true rfl)⟩) hP hD hS hA [0, 1, 2] [3, 4, 5, 6, 7, 8, 9, 10] rfl rfl (by decide) (by decide) (fun r9 u H locs hu hP hD hS => ?_)
      obtain ⟨x25002, x25003, x25004, x25005, x25006, x25007⟩ := u
      have kk25009 : (0 : Int32).toInt = 0 := by decide
      have kk25010 : (9 : Int32).toInt = 9 := by decide
      have kk25011 : (-1 : Int32).toInt = (-1) := by decide
      obtain ⟨r25008, rfl⟩ : ∃ z, z = r9 := ⟨_, rfl⟩
      obtain ⟨hbx25002, hbx25003, hbx25004, hr25008⟩ := hu
      have hbx25002 : (0 : Int) ≤ x25002.toInt ∧ x25002.toInt ≤ 900 := hbx25002
      have hbx25003 : (0 : Int) ≤ x25003.toInt ∧ x25003.toInt ≤ 4 := hbx25003
      have hbx25004 : (0 : Int) ≤ x25004.toInt ∧ x25004.toInt ≤ 900 := hbx25004
      have hr25008 : TNk r25008 ((0 : Int32).toInt) ((9 : Int32).toInt) := hr25008
      have hP : va_P G vwCl ((uX6 cs adt qt (upv 6 x25007 (upv 5 x25006 (upv 4 x25005 (upv 3 x25004 (upv 2 x25003 (upv 1 x25002 Ft)))))) At Bt Dt) ++ ((uX9 cs (qt 0) qtp Ftp Atp Btp Dtp) ++ (uX3 cs adh qh Fh Ah Bh Dh))) H := hP.sub [8, 9, 10, 0, 1, 2, 3, 4, 5, 6, 7] rfl
      have hD : va_D A0 ((uX6 cs adt qt (upv 6 x25007 (upv 5 x25006 (upv 4 x25005 (upv 3 x25004 (upv 2 x25003 (upv 1 x25002 Ft)))))) At Bt Dt) ++ ((uX9 cs (qt 0) qtp Ftp Atp Btp Dtp) ++ (uX3 cs adh qh Fh Ah Bh Dh))) := hD.sub [8, 9, 10, 0, 1, 2, 3, 4, 5, 6, 7] (by decide) rfl
      refine lv_goto (tgt := 61) hx hb dX6_readSlate_57 (by decide) ?_
      exact B61 r25008 x25002 x25003 x25004 x25005 x25006 x25007 H locs ls (by omega) (by omega) (by omega) hP hD hS (lv_sub hl [1, 2, 3, 0] rfl)
  refine lv_if_ne (tgt := 40) hx hb dX6_readSlate_21 (by decide) (fun c17 => ?_) (fun c17 => ?_)
  · have zc17 := neK rfl (show (0 : Int32).toInt = 0 by decide) c17
    refine lv_iconst (v := (-1)) hx hb dX6_readSlate_40 (by decide) ?_
    exact B41 (-1) x8 x9 x10 x11 x12 x13 H locs ls (by omega) (by omega) (by omega) hP hD hS (lv_sub hl [1, 2, 0] rfl)
  · have zc17 := eqK rfl (show (0 : Int32).toInt = 0 by decide) c17
    refine lv_aload_n hx hb dX6_readSlate_24 rfl (lv_at hl 1 rfl) ?_
    have hz18 : vk_R "CallForBrown$Reader" 142 "as" (sd 14).1 s := hQ.2.2.2 ("CallForBrown$Reader", 142, "as", 14) (List.mem_of_getElem? (i := 14) rfl)
    refine va_ldcS hx hb hown hz18 dX6_readSlate_25 ?_
    refine lv_iconst (v := 0) hx hb dX6_readSlate_27 (by decide) ?_
    refine lv_aload_n hx hb dX6_readSlate_28 rfl (lv_at hl 2 rfl) ?_
    refine getF (v := .int (Fh 6)) hx hb ht hown hK hP iTX3 3 6 rfl rfl (by decide) fl_RX6_128 rfl dX6_readSlate_29 ?_
    have zf19 : (0 : Int) ≤ (Fh 6).toInt ∧ (Fh 6).toInt ≤ 6 := hIh.1 6
    refine lv_iconst (v := 1) hx hb dX6_readSlate_32 (by decide) ?_
    refine lv_isub hx hb dX6_readSlate_33 ?_
    refine lv_topi (fun v20 ev20 => ?_)
    have tv20 : v20.toInt = (Fh 6).toInt - 1 := by rw [ev20]; exact subT rfl (show (1 : Int32).toInt = 1 by decide) (by omega)
    refine behDi (wr := (uX3 cs adh qh Fh Ah Bh Dh)) (runVDS (As := [.ref ((sd 14).1), .int 0, .int v20]) (rest := []) ⟨hx, hb, hml, hown, ht⟩ (sX6_takeNamed l G cs sd adt qt (upv 6 x13 (upv 5 x12 (upv 4 x11 (upv 3 x10 (upv 2 x9 (upv 1 x8 Ft)))))) At Bt Dt (IB_pv (k := 6) (IB_pv (k := 5) (IB_pv (k := 4) (IB_pv (k := 3) (IB_pv (k := 2) (IB_pv (k := 1) hIt (show (0 : Int) ≤ x8.toInt ∧ x8.toInt ≤ 900 by omega)) (show (0 : Int) ≤ x9.toInt ∧ x9.toInt ≤ 4 by omega)) (show (0 : Int) ≤ x10.toInt ∧ x10.toInt ≤ 900 by omega)) (i32b _)) (i32b _)) (i32b _)) qtp Ftp Atp Btp Dtp hItp 14 (by decide) 0 v20 ) okV_RX6_85 ⟨by decide, by decide⟩ hK hP hD hQ hS hA [0, 1, 2] rfl (by decide) rfl 0 rfl rfl hl.1 rfl (Nat.le_of_ble_eq_true rfl) dX6_readSlate_34 ⟨(Nat.le_of_ble_eq_true rfl), (Nat.le_of_ble_eq_true rfl)⟩) hP hD hS hA [0, 1, 2] [3, 4, 5, 6, 7, 8, 9, 10] rfl rfl (by decide) (by decide) (fun r9 u H locs hu hP hD hS => ?_)
    obtain ⟨x21, x22, x23, x24, x25, x26⟩ := u
    have kk28 : (0 : Int32).toInt = 0 := by decide
    obtain ⟨r27, rfl⟩ : ∃ z, z = r9 := ⟨_, rfl⟩
    obtain ⟨hbx21, hbx22, hbx23, hr27⟩ := hu
    have hbx21 : (0 : Int) ≤ x21.toInt ∧ x21.toInt ≤ 900 := hbx21
    have hbx22 : (0 : Int) ≤ x22.toInt ∧ x22.toInt ≤ 4 := hbx22
    have hbx23 : (0 : Int) ≤ x23.toInt ∧ x23.toInt ≤ 900 := hbx23
    have hr27 : TNk r27 ((0 : Int32).toInt) v20.toInt := hr27
    have hP : va_P G vwCl ((uX6 cs adt qt (upv 6 x26 (upv 5 x25 (upv 4 x24 (upv 3 x23 (upv 2 x22 (upv 1 x21 Ft)))))) At Bt Dt) ++ ((uX9 cs (qt 0) qtp Ftp Atp Btp Dtp) ++ (uX3 cs adh qh Fh Ah Bh Dh))) H := hP.sub [8, 9, 10, 0, 1, 2, 3, 4, 5, 6, 7] rfl
    have hD : va_D A0 ((uX6 cs adt qt (upv 6 x26 (upv 5 x25 (upv 4 x24 (upv 3 x23 (upv 2 x22 (upv 1 x21 Ft)))))) At Bt Dt) ++ ((uX9 cs (qt 0) qtp Ftp Atp Btp Dtp) ++ (uX3 cs adh qh Fh Ah Bh Dh))) := hD.sub [8, 9, 10, 0, 1, 2, 3, 4, 5, 6, 7] (by decide) rfl
    refine lv_goto (tgt := 41) hx hb dX6_readSlate_37 (by decide) ?_
    exact B41 r27 x21 x22 x23 x24 x25 x26 H locs ls (by omega) (by omega) (by omega) hP hD hS (lv_sub hl [1, 2, 0] rfl)

