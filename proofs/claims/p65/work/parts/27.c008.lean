set_option maxRecDepth 100000 in
set_option maxHeartbeats 16000000 in
theorem sX6_readFirst (l : Launch) (G : va_G) (cs : Nat → ClassId) (sd : Nat → Nat × Nat) (adt : Nat) (qt : Nat → Nat) (Ft : Nat → Int32) (At : Nat → Nat → Int32) (Bt : Nat → Nat → Int64) (Dt : Int64) (hIt : IX6 Ft At) (qtp : Nat → Nat) (Ftp : Nat → Int32) (Atp : Nat → Nat → Int32) (Btp : Nat → Nat → Int64) (Dtp : Int64) (hItp : IX9 Ftp Atp) (adh : Nat) (qh : Nat → Nat) (Fh : Nat → Int32) (Ah : Nat → Nat → Int32) (Bh : Nat → Nat → Int64) (Dh : Int64) (hIh : IX3 Fh Ah) : ∀ sz : Nat, Met l yX6_readFirst (wk yX6_readFirst cX6_readFirst 2 (some .boolean)) (rmk 6 0 0) (PreDS SRR sd G (TY cs) [.ref adt, .ref adh] ((uX6 cs adt qt Ft At Bt Dt) ++ ((uX9 cs (qt 0) qtp Ftp Atp Btp Dtp) ++ (uX3 cs adh qh Fh Ah Bh Dh))) sz) ((QDi G (fun (r : Int32) (u : Int32 × Int32 × Int32 × Int32 × Int32 × Int32 × Int32 × Int32 × Int32 × Int32) => ((0 : Int) ≤ u.2.2.2.2.1.toInt ∧ u.2.2.2.2.1.toInt ≤ 900) ∧ ((0 : Int) ≤ u.2.2.2.2.2.1.toInt ∧ u.2.2.2.2.2.1.toInt ≤ 4) ∧ ((0 : Int) ≤ u.2.2.2.2.2.2.1.toInt ∧ u.2.2.2.2.2.2.1.toInt ≤ 900) ∧ ((0 : Int) ≤ r.toInt ∧ r.toInt ≤ 1)) (fun u : Int32 × Int32 × Int32 × Int32 × Int32 × Int32 × Int32 × Int32 × Int32 × Int32 => ((wX6 cs adt qt (upd (upd (upd (upd (upd (upd Ft 1 u.2.2.2.2.1) 2 u.2.2.2.2.2.1) 3 u.2.2.2.2.2.2.1) 4 u.2.2.2.2.2.2.2.1) 5 u.2.2.2.2.2.2.2.2.1) 6 u.2.2.2.2.2.2.2.2.2) At Bt Dt) ++ ((uX9 cs (qt 0) qtp Ftp Atp Btp Dtp) ++ (wX3 cs adh qh (upd (upd (upd (upd Fh 1 u.1) 2 u.2.1) 3 u.2.2.1) 4 u.2.2.2.1) Ah Bh Dh))))) (va_A ((uX6 cs adt qt Ft At Bt Dt) ++ ((uX9 cs (qt 0) qtp Ftp Atp Btp Dtp) ++ (uX3 cs adh qh Fh Ah Bh Dh))) sz)) 0 0 (va_A ((uX6 cs adt qt Ft At Bt Dt) ++ ((uX9 cs (qt 0) qtp Ftp Atp Btp Dtp) ++ (uX3 cs adh qh Fh Ah Bh Dh))) sz) := by
  refine mkDS (Qc := (QDi G (fun (r : Int32) (u : Int32 × Int32 × Int32 × Int32 × Int32 × Int32 × Int32 × Int32 × Int32 × Int32) => ((0 : Int) ≤ u.2.2.2.2.1.toInt ∧ u.2.2.2.2.1.toInt ≤ 900) ∧ ((0 : Int) ≤ u.2.2.2.2.2.1.toInt ∧ u.2.2.2.2.2.1.toInt ≤ 4) ∧ ((0 : Int) ≤ u.2.2.2.2.2.2.1.toInt ∧ u.2.2.2.2.2.2.1.toInt ≤ 900) ∧ ((0 : Int) ≤ r.toInt ∧ r.toInt ≤ 1)) (fun u : Int32 × Int32 × Int32 × Int32 × Int32 × Int32 × Int32 × Int32 × Int32 × Int32 => ((wX6 cs adt qt (upd (upd (upd (upd (upd (upd Ft 1 u.2.2.2.2.1) 2 u.2.2.2.2.2.1) 3 u.2.2.2.2.2.2.1) 4 u.2.2.2.2.2.2.2.1) 5 u.2.2.2.2.2.2.2.2.1) 6 u.2.2.2.2.2.2.2.2.2) At Bt Dt) ++ ((uX9 cs (qt 0) qtp Ftp Atp Btp Dtp) ++ (wX3 cs adh qh (upd (upd (upd (upd Fh 1 u.1) 2 u.2.1) 3 u.2.2.1) 4 u.2.2.2.1) Ah Bh Dh)))))) (by decide) (by simp [lg_sl, Value.category]) ?_
  intro p e s m args below meth c ls A0 hx hb hml hr hlk hown hmn ht hK hP hD hS hA hQ hl
  have hl : lv_has ls 2 [(0, .ref adt), (1, .ref adh)] := hl
  refine lv_aload_n hx hb dX6_readFirst_0 rfl (lv_at hl 0 rfl) ?_
  refine behDw (wr := (uX3 cs adh qh Fh Ah Bh Dh)) (runVD (As := []) (rest := []) ⟨hx, hb, hml, hown, ht⟩ (sX6_advance l G cs adt qt Ft At Bt Dt hIt qtp Ftp Atp Btp Dtp hItp ) okV_RX6_33 ⟨by decide, by decide⟩ hK hP hD [0, 1, 2] rfl (by decide) rfl 0 rfl rfl hl.1 rfl (Nat.le_of_ble_eq_true rfl) dX6_readFirst_1 ⟨(Nat.le_of_ble_eq_true rfl), (Nat.le_of_ble_eq_true rfl)⟩) hP hD hS hA [0, 1, 2] [3, 4, 5, 6, 7, 8, 9, 10] rfl rfl (by decide) (by decide) (fun u H locs hu hP hD hS => ?_)
  obtain ⟨x1, x2, x3, x4⟩ := u
  obtain ⟨hbx1, hbx2, hbx3, hr5⟩ := hu
  have hbx1 : (0 : Int) ≤ x1.toInt ∧ x1.toInt ≤ 900 := hbx1
  have hbx2 : (0 : Int) ≤ x2.toInt ∧ x2.toInt ≤ 4 := hbx2
  have hbx3 : (0 : Int) ≤ x3.toInt ∧ x3.toInt ≤ 900 := hbx3
  have hP : va_P G vwCl ((uX6 cs adt qt (upv 4 x4 (upv 3 x3 (upv 2 x2 (upv 1 x1 Ft)))) At Bt Dt) ++ ((uX9 cs (qt 0) qtp Ftp Atp Btp Dtp) ++ (uX3 cs adh qh Fh Ah Bh Dh))) H := hP.sub [8, 9, 10, 0, 1, 2, 3, 4, 5, 6, 7] rfl
  have hD : va_D A0 ((uX6 cs adt qt (upv 4 x4 (upv 3 x3 (upv 2 x2 (upv 1 x1 Ft)))) At Bt Dt) ++ ((uX9 cs (qt 0) qtp Ftp Atp Btp Dtp) ++ (uX3 cs adh qh Fh Ah Bh Dh))) := hD.sub [8, 9, 10, 0, 1, 2, 3, 4, 5, 6, 7] (by decide) rfl
  refine lv_aload_n hx hb dX6_readFirst_4 rfl (lv_at hl 1 rfl) ?_
  refine lv_aload_n hx hb dX6_readFirst_5 rfl (lv_at hl 0 rfl) ?_
  have hz6 : vk_R "CallForBrown$Reader" 83 "moves" (sd 1).1 s := hQ.2.2.2 ("CallForBrown$Reader", 83, "moves", 1) (List.mem_of_getElem? (i := 1) rfl)
  refine va_ldcS hx hb hown hz6 dX6_readFirst_6 ?_
  refine lv_iconst (v := 0) hx hb dX6_readFirst_8 (by decide) ?_
  refine lv_bipush (v := 100) hx hb dX6_readFirst_9 (by decide) ?_
  refine behDi (wr := (uX3 cs adh qh Fh Ah Bh Dh)) (runVDS (As := [.ref ((sd 1).1), .int 0, .int 100]) (rest := [.ref adh]) ⟨hx, hb, hml, hown, ht⟩ (sX6_takeNamed l G cs sd adt qt (upv 4 x4 (upv 3 x3 (upv 2 x2 (upv 1 x1 Ft)))) At Bt Dt (IB_pv (k := 4) (IB_pv (k := 3) (IB_pv (k := 2) (IB_pv (k := 1) hIt (show (0 : Int) ≤ x1.toInt ∧ x1.toInt ≤ 900 by omega)) (show (0 : Int) ≤ x2.toInt ∧ x2.toInt ≤ 4 by omega)) (show (0 : Int) ≤ x3.toInt ∧ x3.toInt ≤ 900 by omega)) (i32b _)) qtp Ftp Atp Btp Dtp hItp 1 (by decide) 0 100 ) okV_RX6_85 ⟨by decide, by decide⟩ hK hP hD hQ hS hA [0, 1, 2] rfl (by decide) rfl 0 rfl rfl hl.1 rfl (Nat.le_of_ble_eq_true rfl) dX6_readFirst_11 ⟨(Nat.le_of_ble_eq_true rfl), (Nat.le_of_ble_eq_true rfl)⟩) hP hD hS hA [0, 1, 2] [3, 4, 5, 6, 7, 8, 9, 10] rfl rfl (by decide) (by decide) (fun r9 u H locs hu hP hD hS => ?_)
  obtain ⟨x7, x8, x9, x10, x11, x12⟩ := u
  have kk14 : (0 : Int32).toInt = 0 := by decide
  have kk15 : (100 : Int32).toInt = 100 := by decide
  obtain ⟨r13, rfl⟩ : ∃ z, z = r9 := ⟨_, rfl⟩
  obtain ⟨hbx7, hbx8, hbx9, hr13⟩ := hu
  have hbx7 : (0 : Int) ≤ x7.toInt ∧ x7.toInt ≤ 900 := hbx7
  have hbx8 : (0 : Int) ≤ x8.toInt ∧ x8.toInt ≤ 4 := hbx8
  have hbx9 : (0 : Int) ≤ x9.toInt ∧ x9.toInt ≤ 900 := hbx9
  have hr13 : TNk r13 ((0 : Int32).toInt) ((100 : Int32).toInt) := hr13
  have hP : va_P G vwCl ((uX6 cs adt qt (upv 6 x12 (upv 5 x11 (upv 4 x10 (upv 3 x9 (upv 2 x8 (upv 1 x7 Ft)))))) At Bt Dt) ++ ((uX9 cs (qt 0) qtp Ftp Atp Btp Dtp) ++ (uX3 cs adh qh Fh Ah Bh Dh))) H := hP.sub [8, 9, 10, 0, 1, 2, 3, 4, 5, 6, 7] rfl
  have hD : va_D A0 ((uX6 cs adt qt (upv 6 x12 (upv 5 x11 (upv 4 x10 (upv 3 x9 (upv 2 x8 (upv 1 x7 Ft)))))) At Bt Dt) ++ ((uX9 cs (qt 0) qtp Ftp Atp Btp Dtp) ++ (uX3 cs adh qh Fh Ah Bh Dh))) := hD.sub [8, 9, 10, 0, 1, 2, 3, 4, 5, 6, 7] (by decide) rfl
  refine putD hx hb ht hown hK hP hD hS iTX3 tyX3 tyX3_ok nmX3 3 1 rfl rfl (by decide) fl_RX6_89 rfl rfl rfl (Nat.le_of_ble_eq_true rfl) dX6_readFirst_14 (fun H locs hP hD hS => ?_)
  have hP : va_P G vwCl ((uX6 cs adt qt (upv 6 x12 (upv 5 x11 (upv 4 x10 (upv 3 x9 (upv 2 x8 (upv 1 x7 Ft)))))) At Bt Dt) ++ ((uX9 cs (qt 0) qtp Ftp Atp Btp Dtp) ++ (uX3 cs adh qh (upv 1 r13 Fh) Ah Bh Dh))) H := hP
  have hD : va_D A0 ((uX6 cs adt qt (upv 6 x12 (upv 5 x11 (upv 4 x10 (upv 3 x9 (upv 2 x8 (upv 1 x7 Ft)))))) At Bt Dt) ++ ((uX9 cs (qt 0) qtp Ftp Atp Btp Dtp) ++ (uX3 cs adh qh (upv 1 r13 Fh) Ah Bh Dh))) := hD
  refine lv_aload_n hx hb dX6_readFirst_17 rfl (lv_at hl 1 rfl) ?_
  refine lv_aload_n hx hb dX6_readFirst_18 rfl (lv_at hl 0 rfl) ?_
  refine getF (v := .int x11) hx hb ht hown hK hP iTX6 0 5 rfl rfl (by decide) fl_RX6_27 rfl dX6_readFirst_19 ?_
  have B38 : ∀ (s38_0 : Int32) (ft1_38 : Int32) (ft2_38 : Int32) (ft3_38 : Int32) (ft4_38 : Int32) (ft5_38 : Int32) (ft6_38 : Int32) (H : Heap) (locs : List Loc) (ls : Array Slot), (0 : Int) ≤ ft1_38.toInt ∧ ft1_38.toInt ≤ 900 → (0 : Int) ≤ ft2_38.toInt ∧ ft2_38.toInt ≤ 4 → (0 : Int) ≤ ft3_38.toInt ∧ ft3_38.toInt ≤ 900 → va_P G vwCl ((uX6 cs adt qt (upv 6 ft6_38 (upv 5 ft5_38 (upv 4 ft4_38 (upv 3 ft3_38 (upv 2 ft2_38 (upv 1 ft1_38 Ft)))))) At Bt Dt) ++ ((uX9 cs (qt 0) qtp Ftp Atp Btp Dtp) ++ (uX3 cs adh qh (upv 1 r13 Fh) Ah Bh Dh))) H → va_D A0 ((uX6 cs adt qt (upv 6 ft6_38 (upv 5 ft5_38 (upv 4 ft4_38 (upv 3 ft3_38 (upv 2 ft2_38 (upv 1 ft1_38 Ft)))))) At Bt Dt) ++ ((uX9 cs (qt 0) qtp Ftp Atp Btp Dtp) ++ (uX3 cs adh qh (upv 1 r13 Fh) Ah Bh Dh))) → va_S A0 s.heap H locs → lv_has ls 2 [(0, .ref adt), (1, .ref adh)] → W p l e (rmk 6 0 0) s m args below meth c H locs 0 0 (MQ below ((QDi G (fun (r : Int32) (u : Int32 × Int32 × Int32 × Int32 × Int32 × Int32 × Int32 × Int32 × Int32 × Int32) => ((0 : Int) ≤ u.2.2.2.2.1.toInt ∧ u.2.2.2.2.1.toInt ≤ 900) ∧ ((0 : Int) ≤ u.2.2.2.2.2.1.toInt ∧ u.2.2.2.2.2.1.toInt ≤ 4) ∧ ((0 : Int) ≤ u.2.2.2.2.2.2.1.toInt ∧ u.2.2.2.2.2.2.1.toInt ≤ 900) ∧ ((0 : Int) ≤ r.toInt ∧ r.toInt ≤ 1)) (fun u : Int32 × Int32 × Int32 × Int32 × Int32 × Int32 × Int32 × Int32 × Int32 × Int32 => ((wX6 cs adt qt (upd (upd (upd (upd (upd (upd Ft 1 u.2.2.2.2.1) 2 u.2.2.2.2.2.1) 3 u.2.2.2.2.2.2.1) 4 u.2.2.2.2.2.2.2.1) 5 u.2.2.2.2.2.2.2.2.1) 6 u.2.2.2.2.2.2.2.2.2) At Bt Dt) ++ ((uX9 cs (qt 0) qtp Ftp Atp Btp Dtp) ++ (wX3 cs adh qh (upd (upd (upd (upd Fh 1 u.1) 2 u.2.1) 3 u.2.2.1) 4 u.2.2.2.1) Ah Bh Dh))))) A0) args s 0 0 A0) (F0 m 38 ls [.int s38_0, .ref adh]) := by
    intro s38_0 ft1_38 ft2_38 ft3_38 ft4_38 ft5_38 ft6_38 H locs ls hft1_38 hft2_38 hft3_38 hP hD hS hl
    refine putD hx hb ht hown hK hP hD hS iTX3 tyX3 tyX3_ok nmX3 3 2 rfl rfl (by decide) fl_RX6_93 rfl rfl rfl (Nat.le_of_ble_eq_true rfl) dX6_readFirst_38 (fun H locs hP hD hS => ?_)
    have hP : va_P G vwCl ((uX6 cs adt qt (upv 6 ft6_38 (upv 5 ft5_38 (upv 4 ft4_38 (upv 3 ft3_38 (upv 2 ft2_38 (upv 1 ft1_38 Ft)))))) At Bt Dt) ++ ((uX9 cs (qt 0) qtp Ftp Atp Btp Dtp) ++ (uX3 cs adh qh (upv 2 s38_0 (upv 1 r13 Fh)) Ah Bh Dh))) H := hP
    have hD : va_D A0 ((uX6 cs adt qt (upv 6 ft6_38 (upv 5 ft5_38 (upv 4 ft4_38 (upv 3 ft3_38 (upv 2 ft2_38 (upv 1 ft1_38 Ft)))))) At Bt Dt) ++ ((uX9 cs (qt 0) qtp Ftp Atp Btp Dtp) ++ (uX3 cs adh qh (upv 2 s38_0 (upv 1 r13 Fh)) Ah Bh Dh))) := hD
    refine lv_aload_n hx hb dX6_readFirst_41 rfl (lv_at hl 1 rfl) ?_
    refine lv_aload_n hx hb dX6_readFirst_42 rfl (lv_at hl 0 rfl) ?_
    refine getF (v := .int ft5_38) hx hb ht hown hK hP iTX6 0 5 rfl rfl (by decide) fl_RX6_27 rfl dX6_readFirst_43 ?_
    have B63 : ∀ (s63_0 : Int32) (ft1_63 : Int32) (ft2_63 : Int32) (ft3_63 : Int32) (ft4_63 : Int32) (ft5_63 : Int32) (ft6_63 : Int32) (H : Heap) (locs : List Loc) (ls : Array Slot), (0 : Int) ≤ ft1_63.toInt ∧ ft1_63.toInt ≤ 900 → (0 : Int) ≤ ft2_63.toInt ∧ ft2_63.toInt ≤ 4 → (0 : Int) ≤ ft3_63.toInt ∧ ft3_63.toInt ≤ 900 → va_P G vwCl ((uX6 cs adt qt (upv 6 ft6_63 (upv 5 ft5_63 (upv 4 ft4_63 (upv 3 ft3_63 (upv 2 ft2_63 (upv 1 ft1_63 Ft)))))) At Bt Dt) ++ ((uX9 cs (qt 0) qtp Ftp Atp Btp Dtp) ++ (uX3 cs adh qh (upv 2 s38_0 (upv 1 r13 Fh)) Ah Bh Dh))) H → va_D A0 ((uX6 cs adt qt (upv 6 ft6_63 (upv 5 ft5_63 (upv 4 ft4_63 (upv 3 ft3_63 (upv 2 ft2_63 (upv 1 ft1_63 Ft)))))) At Bt Dt) ++ ((uX9 cs (qt 0) qtp Ftp Atp Btp Dtp) ++ (uX3 cs adh qh (upv 2 s38_0 (upv 1 r13 Fh)) Ah Bh Dh))) → va_S A0 s.heap H locs → lv_has ls 2 [(0, .ref adt), (1, .ref adh)] → W p l e (rmk 6 0 0) s m args below meth c H locs 0 0 (MQ below ((QDi G (fun (r : Int32) (u : Int32 × Int32 × Int32 × Int32 × Int32 × Int32 × Int32 × Int32 × Int32 × Int32) => ((0 : Int) ≤ u.2.2.2.2.1.toInt ∧ u.2.2.2.2.1.toInt ≤ 900) ∧ ((0 : Int) ≤ u.2.2.2.2.2.1.toInt ∧ u.2.2.2.2.2.1.toInt ≤ 4) ∧ ((0 : Int) ≤ u.2.2.2.2.2.2.1.toInt ∧ u.2.2.2.2.2.2.1.toInt ≤ 900) ∧ ((0 : Int) ≤ r.toInt ∧ r.toInt ≤ 1)) (fun u : Int32 × Int32 × Int32 × Int32 × Int32 × Int32 × Int32 × Int32 × Int32 × Int32 => ((wX6 cs adt qt (upd (upd (upd (upd (upd (upd Ft 1 u.2.2.2.2.1) 2 u.2.2.2.2.2.1) 3 u.2.2.2.2.2.2.1) 4 u.2.2.2.2.2.2.2.1) 5 u.2.2.2.2.2.2.2.2.1) 6 u.2.2.2.2.2.2.2.2.2) At Bt Dt) ++ ((uX9 cs (qt 0) qtp Ftp Atp Btp Dtp) ++ (wX3 cs adh qh (upd (upd (upd (upd Fh 1 u.1) 2 u.2.1) 3 u.2.2.1) 4 u.2.2.2.1) Ah Bh Dh))))) A0) args s 0 0 A0) (F0 m 63 ls [.int s63_0, .ref adh]) := by
      intro s63_0 ft1_63 ft2_63 ft3_63 ft4_63 ft5_63 ft6_63 H locs ls hft1_63 hft2_63 hft3_63 hP hD hS hl
      refine putD hx hb ht hown hK hP hD hS iTX3 tyX3 tyX3_ok nmX3 3 3 rfl rfl (by decide) fl_RX6_97 rfl rfl rfl (Nat.le_of_ble_eq_true rfl) dX6_readFirst_63 (fun H locs hP hD hS => ?_)
      have hP : va_P G vwCl ((uX6 cs adt qt (upv 6 ft6_63 (upv 5 ft5_63 (upv 4 ft4_63 (upv 3 ft3_63 (upv 2 ft2_63 (upv 1 ft1_63 Ft)))))) At Bt Dt) ++ ((uX9 cs (qt 0) qtp Ftp Atp Btp Dtp) ++ (uX3 cs adh qh (upv 3 s63_0 (upv 2 s38_0 (upv 1 r13 Fh))) Ah Bh Dh))) H := hP
      have hD : va_D A0 ((uX6 cs adt qt (upv 6 ft6_63 (upv 5 ft5_63 (upv 4 ft4_63 (upv 3 ft3_63 (upv 2 ft2_63 (upv 1 ft1_63 Ft)))))) At Bt Dt) ++ ((uX9 cs (qt 0) qtp Ftp Atp Btp Dtp) ++ (uX3 cs adh qh (upv 3 s63_0 (upv 2 s38_0 (upv 1 r13 Fh))) Ah Bh Dh))) := hD
      refine lv_aload_n hx hb dX6_readFirst_66 rfl (lv_at hl 1 rfl) ?_
      refine lv_aload_n hx hb dX6_readFirst_67 rfl (lv_at hl 0 rfl) ?_
      refine getF (v := .int ft5_63) hx hb ht hown hK hP iTX6 0 5 rfl rfl (by decide) fl_RX6_27 rfl dX6_readFirst_68 ?_
      have B88 : ∀ (s88_0 : Int32) (ft1_88 : Int32) (ft2_88 : Int32) (ft3_88 : Int32) (ft4_88 : Int32) (ft5_88 : Int32) (ft6_88 : Int32) (H : Heap) (locs : List Loc) (ls : Array Slot), (0 : Int) ≤ ft1_88.toInt ∧ ft1_88.toInt ≤ 900 → (0 : Int) ≤ ft2_88.toInt ∧ ft2_88.toInt ≤ 4 → (0 : Int) ≤ ft3_88.toInt ∧ ft3_88.toInt ≤ 900 → va_P G vwCl ((uX6 cs adt qt (upv 6 ft6_88 (upv 5 ft5_88 (upv 4 ft4_88 (upv 3 ft3_88 (upv 2 ft2_88 (upv 1 ft1_88 Ft)))))) At Bt Dt) ++ ((uX9 cs (qt 0) qtp Ftp Atp Btp Dtp) ++ (uX3 cs adh qh (upv 3 s63_0 (upv 2 s38_0 (upv 1 r13 Fh))) Ah Bh Dh))) H → va_D A0 ((uX6 cs adt qt (upv 6 ft6_88 (upv 5 ft5_88 (upv 4 ft4_88 (upv 3 ft3_88 (upv 2 ft2_88 (upv 1 ft1_88 Ft)))))) At Bt Dt) ++ ((uX9 cs (qt 0) qtp Ftp Atp Btp Dtp) ++ (uX3 cs adh qh (upv 3 s63_0 (upv 2 s38_0 (upv 1 r13 Fh))) Ah Bh Dh))) → va_S A0 s.heap H locs → lv_has ls 2 [(0, .ref adt)] → W p l e (rmk 6 0 0) s m args below meth c H locs 0 0 (MQ below ((QDi G (fun (r : Int32) (u : Int32 × Int32 × Int32 × Int32 × Int32 × Int32 × Int32 × Int32 × Int32 × Int32) => ((0 : Int) ≤ u.2.2.2.2.1.toInt ∧ u.2.2.2.2.1.toInt ≤ 900) ∧ ((0 : Int) ≤ u.2.2.2.2.2.1.toInt ∧ u.2.2.2.2.2.1.toInt ≤ 4) ∧ ((0 : Int) ≤ u.2.2.2.2.2.2.1.toInt ∧ u.2.2.2.2.2.2.1.toInt ≤ 900) ∧ ((0 : Int) ≤ r.toInt ∧ r.toInt ≤ 1)) (fun u : Int32 × Int32 × Int32 × Int32 × Int32 × Int32 × Int32 × Int32 × Int32 × Int32 => ((wX6 cs adt qt (upd (upd (upd (upd (upd (upd Ft 1 u.2.2.2.2.1) 2 u.2.2.2.2.2.1) 3 u.2.2.2.2.2.2.1) 4 u.2.2.2.2.2.2.2.1) 5 u.2.2.2.2.2.2.2.2.1) 6 u.2.2.2.2.2.2.2.2.2) At Bt Dt) ++ ((uX9 cs (qt 0) qtp Ftp Atp Btp Dtp) ++ (wX3 cs adh qh (upd (upd (upd (upd Fh 1 u.1) 2 u.2.1) 3 u.2.2.1) 4 u.2.2.2.1) Ah Bh Dh))))) A0) args s 0 0 A0) (F0 m 88 ls [.int s88_0, .ref adh]) := by
        intro s88_0 ft1_88 ft2_88 ft3_88 ft4_88 ft5_88 ft6_88 H locs ls hft1_88 hft2_88 hft3_88 hP hD hS hl
        refine putD hx hb ht hown hK hP hD hS iTX3 tyX3 tyX3_ok nmX3 3 4 rfl rfl (by decide) fl_RX6_101 rfl rfl rfl (Nat.le_of_ble_eq_true rfl) dX6_readFirst_88 (fun H locs hP hD hS => ?_)
        have hP : va_P G vwCl ((uX6 cs adt qt (upv 6 ft6_88 (upv 5 ft5_88 (upv 4 ft4_88 (upv 3 ft3_88 (upv 2 ft2_88 (upv 1 ft1_88 Ft)))))) At Bt Dt) ++ ((uX9 cs (qt 0) qtp Ftp Atp Btp Dtp) ++ (uX3 cs adh qh (upv 4 s88_0 (upv 3 s63_0 (upv 2 s38_0 (upv 1 r13 Fh)))) Ah Bh Dh))) H := hP
        have hD : va_D A0 ((uX6 cs adt qt (upv 6 ft6_88 (upv 5 ft5_88 (upv 4 ft4_88 (upv 3 ft3_88 (upv 2 ft2_88 (upv 1 ft1_88 Ft)))))) At Bt Dt) ++ ((uX9 cs (qt 0) qtp Ftp Atp Btp Dtp) ++ (uX3 cs adh qh (upv 4 s88_0 (upv 3 s63_0 (upv 2 s38_0 (upv 1 r13 Fh)))) Ah Bh Dh))) := hD
        refine lv_aload_n hx hb dX6_readFirst_91 rfl (lv_at hl 0 rfl) ?_
        refine getF (v := .int ft5_88) hx hb ht hown hK hP iTX6 0 5 rfl rfl (by decide) fl_RX6_27 rfl dX6_readFirst_92 ?_
        refine lv_if_ne (tgt := 102) hx hb dX6_readFirst_95 (by decide) (fun c45001 => ?_) (fun c45001 => ?_)
        · have zc45001 := neK rfl (show (0 : Int32).toInt = 0 by decide) c45001
          refine lv_iconst (v := 0) hx hb dX6_readFirst_102 (by decide) ?_
          exact retDz (r13, s38_0, s63_0, s88_0, ft1_88, ft2_88, ft3_88, ft4_88, ft5_88, ft6_88) hx hb hr hlk hP hD hS dX6_readFirst_103 (rfl) (⟨show (0 : Int) ≤ ft1_88.toInt ∧ ft1_88.toInt ≤ 900 by omega, show (0 : Int) ≤ ft2_88.toInt ∧ ft2_88.toInt ≤ 4 by omega, show (0 : Int) ≤ ft3_88.toInt ∧ ft3_88.toInt ≤ 900 by omega, show (0 : Int) ≤ (0 : Int32).toInt ∧ (0 : Int32).toInt ≤ 1 by have kk : (0 : Int32).toInt = 0 := (by decide); omega⟩) (Nat.le_of_ble_eq_true rfl) (Nat.le_of_ble_eq_true rfl)
        · have zc45001 := eqK rfl (show (0 : Int32).toInt = 0 by decide) c45001
          refine lv_iconst (v := 1) hx hb dX6_readFirst_98 (by decide) ?_
          refine lv_goto (tgt := 103) hx hb dX6_readFirst_99 (by decide) ?_
          exact retDz (r13, s38_0, s63_0, s88_0, ft1_88, ft2_88, ft3_88, ft4_88, ft5_88, ft6_88) hx hb hr hlk hP hD hS dX6_readFirst_103 (rfl) (⟨show (0 : Int) ≤ ft1_88.toInt ∧ ft1_88.toInt ≤ 900 by omega, show (0 : Int) ≤ ft2_88.toInt ∧ ft2_88.toInt ≤ 4 by omega, show (0 : Int) ≤ ft3_88.toInt ∧ ft3_88.toInt ≤ 900 by omega, show (0 : Int) ≤ (1 : Int32).toInt ∧ (1 : Int32).toInt ≤ 1 by have kk : (1 : Int32).toInt = 1 := (by decide); omega⟩) (Nat.le_of_ble_eq_true rfl) (Nat.le_of_ble_eq_true rfl)
      refine lv_if_ne (tgt := 87) hx hb dX6_readFirst_71 (by decide) (fun c33001 => ?_) (fun c33001 => ?_)
      · have zc33001 := neK rfl (show (0 : Int32).toInt = 0 by decide) c33001
        refine lv_iconst (v := (-1)) hx hb dX6_readFirst_87 (by decide) ?_
        exact B88 (-1) ft1_63 ft2_63 ft3_63 ft4_63 ft5_63 ft6_63 H locs ls (by omega) (by omega) (by omega) hP hD hS (lv_sub hl [0] rfl)
      · have zc33001 := eqK rfl (show (0 : Int32).toInt = 0 by decide) c33001
        refine lv_aload_n hx hb dX6_readFirst_74 rfl (lv_at hl 0 rfl) ?_
        have hz33002 : vk_R "CallForBrown$Reader" 99 "price" (sd 4).1 s := hQ.2.2.2 ("CallForBrown$Reader", 99, "price", 4) (List.mem_of_getElem? (i := 4) rfl)
        refine va_ldcS hx hb hown hz33002 dX6_readFirst_75 ?_
        refine lv_iconst (v := 0) hx hb dX6_readFirst_77 (by decide) ?_
        refine lv_sipush (v := 999) hx hb dX6_readFirst_78 (by decide) ?_
        refine behDi (wr := (uX3 cs adh qh (upv 3 s63_0 (upv 2 s38_0 (upv 1 r13 Fh))) Ah Bh Dh)) (runVDS (As := [.ref ((sd 4).1), .int 0, .int 999]) (rest := [.ref adh]) ⟨hx, hb, hml, hown, ht⟩ (sX6_takeNamed l G cs sd adt qt (upv 6 ft6_63 (upv 5 ft5_63 (upv 4 ft4_63 (upv 3 ft3_63 (upv 2 ft2_63 (upv 1 ft1_63 Ft)))))) At Bt Dt (IB_pv (k := 6) (IB_pv (k := 5) (IB_pv (k := 4) (IB_pv (k := 3) (IB_pv (k := 2) (IB_pv (k := 1) hIt (show (0 : Int) ≤ ft1_63.toInt ∧ ft1_63.toInt ≤ 900 by omega)) (show (0 : Int) ≤ ft2_63.toInt ∧ ft2_63.toInt ≤ 4 by omega)) (show (0 : Int) ≤ ft3_63.toInt ∧ ft3_63.toInt ≤ 900 by omega)) (i32b _)) (i32b _)) (i32b _)) qtp Ftp Atp Btp Dtp hItp 4 (by decide) 0 999 ) okV_RX6_85 ⟨by decide, by decide⟩ hK hP hD hQ hS hA [0, 1, 2] rfl (by decide) rfl 0 rfl rfl hl.1 rfl (Nat.le_of_ble_eq_true rfl) dX6_readFirst_81 ⟨(Nat.le_of_ble_eq_true rfl), (Nat.le_of_ble_eq_true rfl)⟩) hP hD hS hA [0, 1, 2] [3, 4, 5, 6, 7, 8, 9, 10] rfl rfl (by decide) (by decide) (fun r9 u H locs hu hP hD hS => ?_)
        obtain ⟨x33003, x33004, x33005, x33006, x33007, x33008⟩ := u
        have kk33010 : (0 : Int32).toInt = 0 := by decide
        have kk33011 : (999 : Int32).toInt = 999 := by decide
        obtain ⟨r33009, rfl⟩ : ∃ z, z = r9 := ⟨_, rfl⟩
        obtain ⟨hbx33003, hbx33004, hbx33005, hr33009⟩ := hu
        have hbx33003 : (0 : Int) ≤ x33003.toInt ∧ x33003.toInt ≤ 900 := hbx33003
        have hbx33004 : (0 : Int) ≤ x33004.toInt ∧ x33004.toInt ≤ 4 := hbx33004
        have hbx33005 : (0 : Int) ≤ x33005.toInt ∧ x33005.toInt ≤ 900 := hbx33005
        have hr33009 : TNk r33009 ((0 : Int32).toInt) ((999 : Int32).toInt) := hr33009
        have hP : va_P G vwCl ((uX6 cs adt qt (upv 6 x33008 (upv 5 x33007 (upv 4 x33006 (upv 3 x33005 (upv 2 x33004 (upv 1 x33003 Ft)))))) At Bt Dt) ++ ((uX9 cs (qt 0) qtp Ftp Atp Btp Dtp) ++ (uX3 cs adh qh (upv 3 s63_0 (upv 2 s38_0 (upv 1 r13 Fh))) Ah Bh Dh))) H := hP.sub [8, 9, 10, 0, 1, 2, 3, 4, 5, 6, 7] rfl
        have hD : va_D A0 ((uX6 cs adt qt (upv 6 x33008 (upv 5 x33007 (upv 4 x33006 (upv 3 x33005 (upv 2 x33004 (upv 1 x33003 Ft)))))) At Bt Dt) ++ ((uX9 cs (qt 0) qtp Ftp Atp Btp Dtp) ++ (uX3 cs adh qh (upv 3 s63_0 (upv 2 s38_0 (upv 1 r13 Fh))) Ah Bh Dh))) := hD.sub [8, 9, 10, 0, 1, 2, 3, 4, 5, 6, 7] (by decide) rfl
        refine lv_goto (tgt := 88) hx hb dX6_readFirst_84 (by decide) ?_
        exact B88 r33009 x33003 x33004 x33005 x33006 x33007 x33008 H locs ls (by omega) (by omega) (by omega) hP hD hS (lv_sub hl [0] rfl)
    refine lv_if_ne (tgt := 62) hx hb dX6_readFirst_46 (by decide) (fun c21001 => ?_) (fun c21001 => ?_)
    · have zc21001 := neK rfl (show (0 : Int32).toInt = 0 by decide) c21001
      refine lv_iconst (v := (-1)) hx hb dX6_readFirst_62 (by decide) ?_
      exact B63 (-1) ft1_38 ft2_38 ft3_38 ft4_38 ft5_38 ft6_38 H locs ls (by omega) (by omega) (by omega) hP hD hS (lv_sub hl [0, 1] rfl)
    · have zc21001 := eqK rfl (show (0 : Int32).toInt = 0 by decide) c21001
      refine lv_aload_n hx hb dX6_readFirst_49 rfl (lv_at hl 0 rfl) ?_
      have hz21002 : vk_R "CallForBrown$Reader" 95 "worth" (sd 3).1 s := hQ.2.2.2 ("CallForBrown$Reader", 95, "worth", 3) (List.mem_of_getElem? (i := 3) rfl)
      refine va_ldcS hx hb hown hz21002 dX6_readFirst_50 ?_
      refine lv_iconst (v := 0) hx hb dX6_readFirst_52 (by decide) ?_
      refine lv_sipush (v := 999) hx hb dX6_readFirst_53 (by decide) ?_
      refine behDi (wr := (uX3 cs adh qh (upv 2 s38_0 (upv 1 r13 Fh)) Ah Bh Dh)) (runVDS (As := [.ref ((sd 3).1), .int 0, .int 999]) (rest := [.ref adh]) ⟨hx, hb, hml, hown, ht⟩ (sX6_takeNamed l G cs sd adt qt (upv 6 ft6_38 (upv 5 ft5_38 (upv 4 ft4_38 (upv 3 ft3_38 (upv 2 ft2_38 (upv 1 ft1_38 Ft)))))) At Bt Dt (IB_pv (k := 6) (IB_pv (k := 5) (IB_pv (k := 4) (IB_pv (k := 3) (IB_pv (k := 2) (IB_pv (k := 1) hIt (show (0 : Int) ≤ ft1_38.toInt ∧ ft1_38.toInt ≤ 900 by omega)) (show (0 : Int) ≤ ft2_38.toInt ∧ ft2_38.toInt ≤ 4 by omega)) (show (0 : Int) ≤ ft3_38.toInt ∧ ft3_38.toInt ≤ 900 by omega)) (i32b _)) (i32b _)) (i32b _)) qtp Ftp Atp Btp Dtp hItp 3 (by decide) 0 999 ) okV_RX6_85 ⟨by decide, by decide⟩ hK hP hD hQ hS hA [0, 1, 2] rfl (by decide) rfl 0 rfl rfl hl.1 rfl (Nat.le_of_ble_eq_true rfl) dX6_readFirst_56 ⟨(Nat.le_of_ble_eq_true rfl), (Nat.le_of_ble_eq_true rfl)⟩) hP hD hS hA [0, 1, 2] [3, 4, 5, 6, 7, 8, 9, 10] rfl rfl (by decide) (by decide) (fun r9 u H locs hu hP hD hS => ?_)
      obtain ⟨x21003, x21004, x21005, x21006, x21007, x21008⟩ := u
      have kk21010 : (0 : Int32).toInt = 0 := by decide
      have kk21011 : (999 : Int32).toInt = 999 := by decide
      obtain ⟨r21009, rfl⟩ : ∃ z, z = r9 := ⟨_, rfl⟩
      obtain ⟨hbx21003, hbx21004, hbx21005, hr21009⟩ := hu
      have hbx21003 : (0 : Int) ≤ x21003.toInt ∧ x21003.toInt ≤ 900 := hbx21003
      have hbx21004 : (0 : Int) ≤ x21004.toInt ∧ x21004.toInt ≤ 4 := hbx21004
      have hbx21005 : (0 : Int) ≤ x21005.toInt ∧ x21005.toInt ≤ 900 := hbx21005
      have hr21009 : TNk r21009 ((0 : Int32).toInt) ((999 : Int32).toInt) := hr21009
      have hP : va_P G vwCl ((uX6 cs adt qt (upv 6 x21008 (upv 5 x21007 (upv 4 x21006 (upv 3 x21005 (upv 2 x21004 (upv 1 x21003 Ft)))))) At Bt Dt) ++ ((uX9 cs (qt 0) qtp Ftp Atp Btp Dtp) ++ (uX3 cs adh qh (upv 2 s38_0 (upv 1 r13 Fh)) Ah Bh Dh))) H := hP.sub [8, 9, 10, 0, 1, 2, 3, 4, 5, 6, 7] rfl
      have hD : va_D A0 ((uX6 cs adt qt (upv 6 x21008 (upv 5 x21007 (upv 4 x21006 (upv 3 x21005 (upv 2 x21004 (upv 1 x21003 Ft)))))) At Bt Dt) ++ ((uX9 cs (qt 0) qtp Ftp Atp Btp Dtp) ++ (uX3 cs adh qh (upv 2 s38_0 (upv 1 r13 Fh)) Ah Bh Dh))) := hD.sub [8, 9, 10, 0, 1, 2, 3, 4, 5, 6, 7] (by decide) rfl
      refine lv_goto (tgt := 63) hx hb dX6_readFirst_59 (by decide) ?_
      exact B63 r21009 x21003 x21004 x21005 x21006 x21007 x21008 H locs ls (by omega) (by omega) (by omega) hP hD hS (lv_sub hl [0, 1] rfl)
  refine lv_if_ne (tgt := 37) hx hb dX6_readFirst_22 (by decide) (fun c16 => ?_) (fun c16 => ?_)
  · have zc16 := neK rfl (show (0 : Int32).toInt = 0 by decide) c16
    refine lv_iconst (v := (-1)) hx hb dX6_readFirst_37 (by decide) ?_
    exact B38 (-1) x7 x8 x9 x10 x11 x12 H locs ls (by omega) (by omega) (by omega) hP hD hS (lv_sub hl [0, 1] rfl)
  · have zc16 := eqK rfl (show (0 : Int32).toInt = 0 by decide) c16
    refine lv_aload_n hx hb dX6_readFirst_25 rfl (lv_at hl 0 rfl) ?_
    have hz17 : vk_R "CallForBrown$Reader" 91 "here" (sd 2).1 s := hQ.2.2.2 ("CallForBrown$Reader", 91, "here", 2) (List.mem_of_getElem? (i := 2) rfl)
    refine va_ldcS hx hb hown hz17 dX6_readFirst_26 ?_
    refine lv_iconst (v := 0) hx hb dX6_readFirst_28 (by decide) ?_
    refine lv_bipush (v := 100) hx hb dX6_readFirst_29 (by decide) ?_
    refine behDi (wr := (uX3 cs adh qh (upv 1 r13 Fh) Ah Bh Dh)) (runVDS (As := [.ref ((sd 2).1), .int 0, .int 100]) (rest := [.ref adh]) ⟨hx, hb, hml, hown, ht⟩ (sX6_takeNamed l G cs sd adt qt (upv 6 x12 (upv 5 x11 (upv 4 x10 (upv 3 x9 (upv 2 x8 (upv 1 x7 Ft)))))) At Bt Dt (IB_pv (k := 6) (IB_pv (k := 5) (IB_pv (k := 4) (IB_pv (k := 3) (IB_pv (k := 2) (IB_pv (k := 1) hIt (show (0 : Int) ≤ x7.toInt ∧ x7.toInt ≤ 900 by omega)) (show (0 : Int) ≤ x8.toInt ∧ x8.toInt ≤ 4 by omega)) (show (0 : Int) ≤ x9.toInt ∧ x9.toInt ≤ 900 by omega)) (i32b _)) (i32b _)) (i32b _)) qtp Ftp Atp Btp Dtp hItp 2 (by decide) 0 100 ) okV_RX6_85 ⟨by decide, by decide⟩ hK hP hD hQ hS hA [0, 1, 2] rfl (by decide) rfl 0 rfl rfl hl.1 rfl (Nat.le_of_ble_eq_true rfl) dX6_readFirst_31 ⟨(Nat.le_of_ble_eq_true rfl), (Nat.le_of_ble_eq_true rfl)⟩) hP hD hS hA [0, 1, 2] [3, 4, 5, 6, 7, 8, 9, 10] rfl rfl (by decide) (by decide) (fun r9 u H locs hu hP hD hS => ?_)
    obtain ⟨x18, x19, x20, x21, x22, x23⟩ := u
    have kk25 : (0 : Int32).toInt = 0 := by decide
    have kk26 : (100 : Int32).toInt = 100 := by decide
    obtain ⟨r24, rfl⟩ : ∃ z, z = r9 := ⟨_, rfl⟩
    obtain ⟨hbx18, hbx19, hbx20, hr24⟩ := hu
    have hbx18 : (0 : Int) ≤ x18.toInt ∧ x18.toInt ≤ 900 := hbx18
    have hbx19 : (0 : Int) ≤ x19.toInt ∧ x19.toInt ≤ 4 := hbx19
    have hbx20 : (0 : Int) ≤ x20.toInt ∧ x20.toInt ≤ 900 := hbx20
    have hr24 : TNk r24 ((0 : Int32).toInt) ((100 : Int32).toInt) := hr24
    have hP : va_P G vwCl ((uX6 cs adt qt (upv 6 x23 (upv 5 x22 (upv 4 x21 (upv 3 x20 (upv 2 x19 (upv 1 x18 Ft)))))) At Bt Dt) ++ ((uX9 cs (qt 0) qtp Ftp Atp Btp Dtp) ++ (uX3 cs adh qh (upv 1 r13 Fh) Ah Bh Dh))) H := hP.sub [8, 9, 10, 0, 1, 2, 3, 4, 5, 6, 7] rfl
    have hD : va_D A0 ((uX6 cs adt qt (upv 6 x23 (upv 5 x22 (upv 4 x21 (upv 3 x20 (upv 2 x19 (upv 1 x18 Ft)))))) At Bt Dt) ++ ((uX9 cs (qt 0) qtp Ftp Atp Btp Dtp) ++ (uX3 cs adh qh (upv 1 r13 Fh) Ah Bh Dh))) := hD.sub [8, 9, 10, 0, 1, 2, 3, 4, 5, 6, 7] (by decide) rfl
    refine lv_goto (tgt := 38) hx hb dX6_readFirst_34 (by decide) ?_
    exact B38 r24 x18 x19 x20 x21 x22 x23 H locs ls (by omega) (by omega) (by omega) hP hD hS (lv_sub hl [0, 1] rfl)

