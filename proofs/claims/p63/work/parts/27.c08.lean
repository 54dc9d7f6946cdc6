set_option maxRecDepth 100000 in
set_option maxHeartbeats 16000000 in
theorem sX6_readFirst (l : Launch) (G : va_G) (cs : Nat → ClassId) (sd : Nat → Nat × Nat) (adt : Nat) (qt : Nat → Nat) (Ft : Nat → Int32) (At : Nat → Nat → Int32) (Bt : Nat → Nat → Int64) (Dt : Int64) (hIt : IX6 Ft At) (qtp : Nat → Nat) (Ftp : Nat → Int32) (Atp : Nat → Nat → Int32) (Btp : Nat → Nat → Int64) (Dtp : Int64) (hItp : IX9 Ftp Atp) (adh : Nat) (qh : Nat → Nat) (Fh : Nat → Int32) (Ah : Nat → Nat → Int32) (Bh : Nat → Nat → Int64) (Dh : Int64) (hIh : IX3 Fh Ah) : ∀ sz : Nat, Met l yX6_readFirst (wk yX6_readFirst cX6_readFirst 2 (some .boolean)) (rmk 6 0 0) (PreDS SRR sd G (TY cs) [.ref adt, .ref adh] ((uX6 cs adt qt Ft At Bt Dt) ++ ((uX9 cs (qt 0) qtp Ftp Atp Btp Dtp) ++ (uX3 cs adh qh Fh Ah Bh Dh))) sz) ((QDi G (fun (r : Int32) (u : Int32 × Int32 × Int32 × Int32 × Int32 × Int32 × Int32 × Int32 × Int32 × Int32) => ((0 : Int) ≤ u.2.2.2.2.1.toInt ∧ u.2.2.2.2.1.toInt ≤ 900) ∧ ((0 : Int) ≤ u.2.2.2.2.2.1.toInt ∧ u.2.2.2.2.2.1.toInt ≤ 4) ∧ ((0 : Int) ≤ u.2.2.2.2.2.2.1.toInt ∧ u.2.2.2.2.2.2.1.toInt ≤ 900) ∧ ((0 : Int) ≤ r.toInt ∧ r.toInt ≤ 1)) (fun u : Int32 × Int32 × Int32 × Int32 × Int32 × Int32 × Int32 × Int32 × Int32 × Int32 => ((uX6 cs adt qt (upd (upd (upd (upd (upd (upd Ft 1 u.2.2.2.2.1) 2 u.2.2.2.2.2.1) 3 u.2.2.2.2.2.2.1) 4 u.2.2.2.2.2.2.2.1) 5 u.2.2.2.2.2.2.2.2.1) 6 u.2.2.2.2.2.2.2.2.2) At Bt Dt) ++ ((uX9 cs (qt 0) qtp Ftp Atp Btp Dtp) ++ (uX3 cs adh qh (upd (upd (upd (upd Fh 1 u.1) 2 u.2.1) 3 u.2.2.1) 4 u.2.2.2.1) Ah Bh Dh))))) (va_A ((uX6 cs adt qt Ft At Bt Dt) ++ ((uX9 cs (qt 0) qtp Ftp Atp Btp Dtp) ++ (uX3 cs adh qh Fh Ah Bh Dh))) sz)) 0 0 (va_A ((uX6 cs adt qt Ft At Bt Dt) ++ ((uX9 cs (qt 0) qtp Ftp Atp Btp Dtp) ++ (uX3 cs adh qh Fh Ah Bh Dh))) sz) := by
  refine mkDS (Qc := (QDi G (fun (r : Int32) (u : Int32 × Int32 × Int32 × Int32 × Int32 × Int32 × Int32 × Int32 × Int32 × Int32) => ((0 : Int) ≤ u.2.2.2.2.1.toInt ∧ u.2.2.2.2.1.toInt ≤ 900) ∧ ((0 : Int) ≤ u.2.2.2.2.2.1.toInt ∧ u.2.2.2.2.2.1.toInt ≤ 4) ∧ ((0 : Int) ≤ u.2.2.2.2.2.2.1.toInt ∧ u.2.2.2.2.2.2.1.toInt ≤ 900) ∧ ((0 : Int) ≤ r.toInt ∧ r.toInt ≤ 1)) (fun u : Int32 × Int32 × Int32 × Int32 × Int32 × Int32 × Int32 × Int32 × Int32 × Int32 => ((uX6 cs adt qt (upd (upd (upd (upd (upd (upd Ft 1 u.2.2.2.2.1) 2 u.2.2.2.2.2.1) 3 u.2.2.2.2.2.2.1) 4 u.2.2.2.2.2.2.2.1) 5 u.2.2.2.2.2.2.2.2.1) 6 u.2.2.2.2.2.2.2.2.2) At Bt Dt) ++ ((uX9 cs (qt 0) qtp Ftp Atp Btp Dtp) ++ (uX3 cs adh qh (upd (upd (upd (upd Fh 1 u.1) 2 u.2.1) 3 u.2.2.1) 4 u.2.2.2.1) Ah Bh Dh)))))) (by decide) (by simp [lg_sl, Value.category]) ?_
  intro p e s m args below meth c ls A0 hx hb hml hr hlk hown hmn ht hK hP hD hS hA hQ hl
  have hl : lv_has ls 2 [(0, .ref adt), (1, .ref adh)] := hl
  refine lv_aload_n hx hb dX6_readFirst_0 rfl (lv_at hl 0 rfl) ?_
  refine behDw (wr := (uX3 cs adh qh Fh Ah Bh Dh)) (runVD (As := []) (rest := []) ⟨hx, hb, hml, hown, ht⟩ (sX6_advance l G cs adt qt Ft At Bt Dt hIt qtp Ftp Atp Btp Dtp hItp ) okV_RX6_33 ⟨by decide, by decide⟩ hK hP hD [0, 1, 2] rfl (by decide) rfl 0 rfl rfl hl.1 rfl (Nat.le_of_ble_eq_true rfl) dX6_readFirst_1 ⟨(Nat.le_of_ble_eq_true rfl), (Nat.le_of_ble_eq_true rfl)⟩) hP hD hS hA [0, 1, 2] [3, 4, 5, 6, 7, 8, 9, 10] rfl rfl (by decide) (by decide) (fun u H locs hu hP hD hS => ?_)
  obtain ⟨x1, x2, x3, x4⟩ := u
  obtain ⟨hbx1, hbx2, hbx3, hr5⟩ := hu
  have hbx1 : (0 : Int) ≤ x1.toInt ∧ x1.toInt ≤ 900 := hbx1
  have hbx2 : (0 : Int) ≤ x2.toInt ∧ x2.toInt ≤ 4 := hbx2
  have hbx3 : (0 : Int) ≤ x3.toInt ∧ x3.toInt ≤ 900 := hbx3
  have hP : va_P G vwCl ((uX6 cs adt qt (upd (upd (upd (upd Ft 1 x1) 2 x2) 3 x3) 4 x4) At Bt Dt) ++ ((uX9 cs (qt 0) qtp Ftp Atp Btp Dtp) ++ (uX3 cs adh qh Fh Ah Bh Dh))) H := hP.sub [8, 9, 10, 0, 1, 2, 3, 4, 5, 6, 7] rfl
  have hD : va_D A0 ((uX6 cs adt qt (upd (upd (upd (upd Ft 1 x1) 2 x2) 3 x3) 4 x4) At Bt Dt) ++ ((uX9 cs (qt 0) qtp Ftp Atp Btp Dtp) ++ (uX3 cs adh qh Fh Ah Bh Dh))) := hD.sub [8, 9, 10, 0, 1, 2, 3, 4, 5, 6, 7] (by decide) rfl
  refine lv_aload_n hx hb dX6_readFirst_4 rfl (lv_at hl 1 rfl) ?_
  refine lv_aload_n hx hb dX6_readFirst_5 rfl (lv_at hl 0 rfl) ?_
  refine va_ldcS hx hb hown (hQ.2.2.2 _ (List.mem_of_getElem? (i := 1) rfl)) dX6_readFirst_6 ?_
  refine lv_iconst (v := 0) hx hb dX6_readFirst_8 (by decide) ?_
  refine lv_bipush (v := 100) hx hb dX6_readFirst_9 (by decide) ?_
  refine behDi (wr := (uX3 cs adh qh Fh Ah Bh Dh)) (runVDS (As := [.ref ((sd 1).1), .int 0, .int 100]) (rest := [.ref adh]) ⟨hx, hb, hml, hown, ht⟩ (sX6_takeNamed l G cs sd adt qt (upd (upd (upd (upd Ft 1 x1) 2 x2) 3 x3) 4 x4) At Bt Dt (IB_put (k := 4) (IB_put (k := 3) (IB_put (k := 2) (IB_put (k := 1) hIt (show (0 : Int) ≤ x1.toInt ∧ x1.toInt ≤ 900 by omega)) (show (0 : Int) ≤ x2.toInt ∧ x2.toInt ≤ 4 by omega)) (show (0 : Int) ≤ x3.toInt ∧ x3.toInt ≤ 900 by omega)) (i32b _)) qtp Ftp Atp Btp Dtp hItp 1 (by decide) 0 100 ) okV_RX6_85 ⟨by decide, by decide⟩ hK hP hD hQ hS hA [0, 1, 2] rfl (by decide) rfl 0 rfl rfl hl.1 rfl (Nat.le_of_ble_eq_true rfl) dX6_readFirst_11 ⟨(Nat.le_of_ble_eq_true rfl), (Nat.le_of_ble_eq_true rfl)⟩) hP hD hS hA [0, 1, 2] [3, 4, 5, 6, 7, 8, 9, 10] rfl rfl (by decide) (by decide) (fun r9 u H locs hu hP hD hS => ?_)
  obtain ⟨x6, x7, x8, x9, x10, x11⟩ := u
  have kk13 : (0 : Int32).toInt = 0 := by decide
  have kk14 : (100 : Int32).toInt = 100 := by decide
  obtain ⟨r12, rfl⟩ : ∃ z, z = r9 := ⟨_, rfl⟩
  obtain ⟨hbx6, hbx7, hbx8, hr12⟩ := hu
  have hbx6 : (0 : Int) ≤ x6.toInt ∧ x6.toInt ≤ 900 := hbx6
  have hbx7 : (0 : Int) ≤ x7.toInt ∧ x7.toInt ≤ 4 := hbx7
  have hbx8 : (0 : Int) ≤ x8.toInt ∧ x8.toInt ≤ 900 := hbx8
  have hr12 : TNk r12 ((0 : Int32).toInt) ((100 : Int32).toInt) := hr12
  have hP : va_P G vwCl ((uX6 cs adt qt (upd (upd (upd (upd (upd (upd Ft 1 x6) 2 x7) 3 x8) 4 x9) 5 x10) 6 x11) At Bt Dt) ++ ((uX9 cs (qt 0) qtp Ftp Atp Btp Dtp) ++ (uX3 cs adh qh Fh Ah Bh Dh))) H := hP.sub [8, 9, 10, 0, 1, 2, 3, 4, 5, 6, 7] rfl
  have hD : va_D A0 ((uX6 cs adt qt (upd (upd (upd (upd (upd (upd Ft 1 x6) 2 x7) 3 x8) 4 x9) 5 x10) 6 x11) At Bt Dt) ++ ((uX9 cs (qt 0) qtp Ftp Atp Btp Dtp) ++ (uX3 cs adh qh Fh Ah Bh Dh))) := hD.sub [8, 9, 10, 0, 1, 2, 3, 4, 5, 6, 7] (by decide) rfl
  refine putD hx hb ht hown hK hP hD hS iTX3 tyX3 tyX3_ok nmX3 3 1 rfl rfl (by decide) fl_RX6_89 rfl rfl rfl (Nat.le_of_ble_eq_true rfl) dX6_readFirst_14 (fun H locs hP hD hS => ?_)
  have hP : va_P G vwCl ((uX6 cs adt qt (upd (upd (upd (upd (upd (upd Ft 1 x6) 2 x7) 3 x8) 4 x9) 5 x10) 6 x11) At Bt Dt) ++ ((uX9 cs (qt 0) qtp Ftp Atp Btp Dtp) ++ (uX3 cs adh qh (upd Fh 1 r12) Ah Bh Dh))) H := hP
  have hD : va_D A0 ((uX6 cs adt qt (upd (upd (upd (upd (upd (upd Ft 1 x6) 2 x7) 3 x8) 4 x9) 5 x10) 6 x11) At Bt Dt) ++ ((uX9 cs (qt 0) qtp Ftp Atp Btp Dtp) ++ (uX3 cs adh qh (upd Fh 1 r12) Ah Bh Dh))) := hD
  refine lv_aload_n hx hb dX6_readFirst_17 rfl (lv_at hl 1 rfl) ?_
  refine lv_aload_n hx hb dX6_readFirst_18 rfl (lv_at hl 0 rfl) ?_
  refine getF (v := .int x10) hx hb ht hown hK hP iTX6 0 5 rfl rfl (by decide) fl_RX6_27 rfl dX6_readFirst_19 ?_
  have B38 : ∀ (s38_0 : Int32) (ft1_38 : Int32) (ft2_38 : Int32) (ft3_38 : Int32) (ft4_38 : Int32) (ft5_38 : Int32) (ft6_38 : Int32) (H : Heap) (locs : List Loc) (ls : Array Slot), (0 : Int) ≤ ft1_38.toInt ∧ ft1_38.toInt ≤ 900 → (0 : Int) ≤ ft2_38.toInt ∧ ft2_38.toInt ≤ 4 → (0 : Int) ≤ ft3_38.toInt ∧ ft3_38.toInt ≤ 900 → va_P G vwCl ((uX6 cs adt qt (upd (upd (upd (upd (upd (upd Ft 1 ft1_38) 2 ft2_38) 3 ft3_38) 4 ft4_38) 5 ft5_38) 6 ft6_38) At Bt Dt) ++ ((uX9 cs (qt 0) qtp Ftp Atp Btp Dtp) ++ (uX3 cs adh qh (upd Fh 1 r12) Ah Bh Dh))) H → va_D A0 ((uX6 cs adt qt (upd (upd (upd (upd (upd (upd Ft 1 ft1_38) 2 ft2_38) 3 ft3_38) 4 ft4_38) 5 ft5_38) 6 ft6_38) At Bt Dt) ++ ((uX9 cs (qt 0) qtp Ftp Atp Btp Dtp) ++ (uX3 cs adh qh (upd Fh 1 r12) Ah Bh Dh))) → va_S A0 s.heap H locs → lv_has ls 2 [(0, .ref adt), (1, .ref adh)] → W p l e (rmk 6 0 0) s m args below meth c H locs 0 0 (MQ below ((QDi G (fun (r : Int32) (u : Int32 × Int32 × Int32 × Int32 × Int32 × Int32 × Int32 × Int32 × Int32 × Int32) => ((0 : Int) ≤ u.2.2.2.2.1.toInt ∧ u.2.2.2.2.1.toInt ≤ 900) ∧ ((0 : Int) ≤ u.2.2.2.2.2.1.toInt ∧ u.2.2.2.2.2.1.toInt ≤ 4) ∧ ((0 : Int) ≤ u.2.2.2.2.2.2.1.toInt ∧ u.2.2.2.2.2.2.1.toInt ≤ 900) ∧ ((0 : Int) ≤ r.toInt ∧ r.toInt ≤ 1)) (fun u : Int32 × Int32 × Int32 × Int32 × Int32 × Int32 × Int32 × Int32 × Int32 × Int32 => ((uX6 cs adt qt (upd (upd (upd (upd (upd (upd Ft 1 u.2.2.2.2.1) 2 u.2.2.2.2.2.1) 3 u.2.2.2.2.2.2.1) 4 u.2.2.2.2.2.2.2.1) 5 u.2.2.2.2.2.2.2.2.1) 6 u.2.2.2.2.2.2.2.2.2) At Bt Dt) ++ ((uX9 cs (qt 0) qtp Ftp Atp Btp Dtp) ++ (uX3 cs adh qh (upd (upd (upd (upd Fh 1 u.1) 2 u.2.1) 3 u.2.2.1) 4 u.2.2.2.1) Ah Bh Dh))))) A0) args s 0 0 A0) (F0 m 38 ls [.int s38_0, .ref adh]) := by
    intro s38_0 ft1_38 ft2_38 ft3_38 ft4_38 ft5_38 ft6_38 H locs ls hft1_38 hft2_38 hft3_38 hP hD hS hl
    refine putD hx hb ht hown hK hP hD hS iTX3 tyX3 tyX3_ok nmX3 3 2 rfl rfl (by decide) fl_RX6_93 rfl rfl rfl (Nat.le_of_ble_eq_true rfl) dX6_readFirst_38 (fun H locs hP hD hS => ?_)
    have hP : va_P G vwCl ((uX6 cs adt qt (upd (upd (upd (upd (upd (upd Ft 1 ft1_38) 2 ft2_38) 3 ft3_38) 4 ft4_38) 5 ft5_38) 6 ft6_38) At Bt Dt) ++ ((uX9 cs (qt 0) qtp Ftp Atp Btp Dtp) ++ (uX3 cs adh qh (upd (upd Fh 1 r12) 2 s38_0) Ah Bh Dh))) H := hP
    have hD : va_D A0 ((uX6 cs adt qt (upd (upd (upd (upd (upd (upd Ft 1 ft1_38) 2 ft2_38) 3 ft3_38) 4 ft4_38) 5 ft5_38) 6 ft6_38) At Bt Dt) ++ ((uX9 cs (qt 0) qtp Ftp Atp Btp Dtp) ++ (uX3 cs adh qh (upd (upd Fh 1 r12) 2 s38_0) Ah Bh Dh))) := hD
    refine lv_aload_n hx hb dX6_readFirst_41 rfl (lv_at hl 1 rfl) ?_
    refine lv_aload_n hx hb dX6_readFirst_42 rfl (lv_at hl 0 rfl) ?_
    refine getF (v := .int ft5_38) hx hb ht hown hK hP iTX6 0 5 rfl rfl (by decide) fl_RX6_27 rfl dX6_readFirst_43 ?_
    have B63 : ∀ (s63_0 : Int32) (ft1_63 : Int32) (ft2_63 : Int32) (ft3_63 : Int32) (ft4_63 : Int32) (ft5_63 : Int32) (ft6_63 : Int32) (H : Heap) (locs : List Loc) (ls : Array Slot), (0 : Int) ≤ ft1_63.toInt ∧ ft1_63.toInt ≤ 900 → (0 : Int) ≤ ft2_63.toInt ∧ ft2_63.toInt ≤ 4 → (0 : Int) ≤ ft3_63.toInt ∧ ft3_63.toInt ≤ 900 → va_P G vwCl ((uX6 cs adt qt (upd (upd (upd (upd (upd (upd Ft 1 ft1_63) 2 ft2_63) 3 ft3_63) 4 ft4_63) 5 ft5_63) 6 ft6_63) At Bt Dt) ++ ((uX9 cs (qt 0) qtp Ftp Atp Btp Dtp) ++ (uX3 cs adh qh (upd (upd Fh 1 r12) 2 s38_0) Ah Bh Dh))) H → va_D A0 ((uX6 cs adt qt (upd (upd (upd (upd (upd (upd Ft 1 ft1_63) 2 ft2_63) 3 ft3_63) 4 ft4_63) 5 ft5_63) 6 ft6_63) At Bt Dt) ++ ((uX9 cs (qt 0) qtp Ftp Atp Btp Dtp) ++ (uX3 cs adh qh (upd (upd Fh 1 r12) 2 s38_0) Ah Bh Dh))) → va_S A0 s.heap H locs → lv_has ls 2 [(0, .ref adt), (1, .ref adh)] → W p l e (rmk 6 0 0) s m args below meth c H locs 0 0 (MQ below ((QDi G (fun (r : Int32) (u : Int32 × Int32 × Int32 × Int32 × Int32 × Int32 × Int32 × Int32 × Int32 × Int32) => ((0 : Int) ≤ u.2.2.2.2.1.toInt ∧ u.2.2.2.2.1.toInt ≤ 900) ∧ ((0 : Int) ≤ u.2.2.2.2.2.1.toInt ∧ u.2.2.2.2.2.1.toInt ≤ 4) ∧ ((0 : Int) ≤ u.2.2.2.2.2.2.1.toInt ∧ u.2.2.2.2.2.2.1.toInt ≤ 900) ∧ ((0 : Int) ≤ r.toInt ∧ r.toInt ≤ 1)) (fun u : Int32 × Int32 × Int32 × Int32 × Int32 × Int32 × Int32 × Int32 × Int32 × Int32 => ((uX6 cs adt qt (upd (upd (upd (upd (upd (upd Ft 1 u.2.2.2.2.1) 2 u.2.2.2.2.2.1) 3 u.2.2.2.2.2.2.1) 4 u.2.2.2.2.2.2.2.1) 5 u.2.2.2.2.2.2.2.2.1) 6 u.2.2.2.2.2.2.2.2.2) At Bt Dt) ++ ((uX9 cs (qt 0) qtp Ftp Atp Btp Dtp) ++ (uX3 cs adh qh (upd (upd (upd (upd Fh 1 u.1) 2 u.2.1) 3 u.2.2.1) 4 u.2.2.2.1) Ah Bh Dh))))) A0) args s 0 0 A0) (F0 m 63 ls [.int s63_0, .ref adh]) := by
      intro s63_0 ft1_63 ft2_63 ft3_63 ft4_63 ft5_63 ft6_63 H locs ls hft1_63 hft2_63 hft3_63 hP hD hS hl
      refine putD hx hb ht hown hK hP hD hS iTX3 tyX3 tyX3_ok nmX3 3 3 rfl rfl (by decide) fl_RX6_97 rfl rfl rfl (Nat.le_of_ble_eq_true rfl) dX6_readFirst_63 (fun H locs hP hD hS => ?_)
      have hP : va_P G vwCl ((uX6 cs adt qt (upd (upd (upd (upd (upd (upd Ft 1 ft1_63) 2 ft2_63) 3 ft3_63) 4 ft4_63) 5 ft5_63) 6 ft6_63) At Bt Dt) ++ ((uX9 cs (qt 0) qtp Ftp Atp Btp Dtp) ++ (uX3 cs adh qh (upd (upd (upd Fh 1 r12) 2 s38_0) 3 s63_0) Ah Bh Dh))) H := hP
      have hD : va_D A0 ((uX6 cs adt qt (upd (upd (upd (upd (upd (upd Ft 1 ft1_63) 2 ft2_63) 3 ft3_63) 4 ft4_63) 5 ft5_63) 6 ft6_63) At Bt Dt) ++ ((uX9 cs (qt 0) qtp Ftp Atp Btp Dtp) ++ (uX3 cs adh qh (upd (upd (upd Fh 1 r12) 2 s38_0) 3 s63_0) Ah Bh Dh))) := hD
      refine lv_aload_n hx hb dX6_readFirst_66 rfl (lv_at hl 1 rfl) ?_
      refine lv_aload_n hx hb dX6_readFirst_67 rfl (lv_at hl 0 rfl) ?_
      refine getF (v := .int ft5_63) hx hb ht hown hK hP iTX6 0 5 rfl rfl (by decide) fl_RX6_27 rfl dX6_readFirst_68 ?_
      have B88 : ∀ (s88_0 : Int32) (ft1_88 : Int32) (ft2_88 : Int32) (ft3_88 : Int32) (ft4_88 : Int32) (ft5_88 : Int32) (ft6_88 : Int32) (H : Heap) (locs : List Loc) (ls : Array Slot), (0 : Int) ≤ ft1_88.toInt ∧ ft1_88.toInt ≤ 900 → (0 : Int) ≤ ft2_88.toInt ∧ ft2_88.toInt ≤ 4 → (0 : Int) ≤ ft3_88.toInt ∧ ft3_88.toInt ≤ 900 → va_P G vwCl ((uX6 cs adt qt (upd (upd (upd (upd (upd (upd Ft 1 ft1_88) 2 ft2_88) 3 ft3_88) 4 ft4_88) 5 ft5_88) 6 ft6_88) At Bt Dt) ++ ((uX9 cs (qt 0) qtp Ftp Atp Btp Dtp) ++ (uX3 cs adh qh (upd (upd (upd Fh 1 r12) 2 s38_0) 3 s63_0) Ah Bh Dh))) H → va_D A0 ((uX6 cs adt qt (upd (upd (upd (upd (upd (upd Ft 1 ft1_88) 2 ft2_88) 3 ft3_88) 4 ft4_88) 5 ft5_88) 6 ft6_88) At Bt Dt) ++ ((uX9 cs (qt 0) qtp Ftp Atp Btp Dtp) ++ (uX3 cs adh qh (upd (upd (upd Fh 1 r12) 2 s38_0) 3 s63_0) Ah Bh Dh))) → va_S A0 s.heap H locs → lv_has ls 2 [(0, .ref adt)] → W p l e (rmk 6 0 0) s m args below meth c H locs 0 0 (MQ below ((QDi G (fun (r : Int32) (u : Int32 × Int32 × Int32 × Int32 × Int32 × Int32 × Int32 × Int32 × Int32 × Int32) => ((0 : Int) ≤ u.2.2.2.2.1.toInt ∧ u.2.2.2.2.1.toInt ≤ 900) ∧ ((0 : Int) ≤ u.2.2.2.2.2.1.toInt ∧ u.2.2.2.2.2.1.toInt ≤ 4) ∧ ((0 : Int) ≤ u.2.2.2.2.2.2.1.toInt ∧ u.2.2.2.2.2.2.1.toInt ≤ 900) ∧ ((0 : Int) ≤ r.toInt ∧ r.toInt ≤ 1)) (fun u : Int32 × Int32 × Int32 × Int32 × Int32 × Int32 × Int32 × Int32 × Int32 × Int32 => ((uX6 cs adt qt (upd (upd (upd (upd (upd (upd Ft 1 u.2.2.2.2.1) 2 u.2.2.2.2.2.1) 3 u.2.2.2.2.2.2.1) 4 u.2.2.2.2.2.2.2.1) 5 u.2.2.2.2.2.2.2.2.1) 6 u.2.2.2.2.2.2.2.2.2) At Bt Dt) ++ ((uX9 cs (qt 0) qtp Ftp Atp Btp Dtp) ++ (uX3 cs adh qh (upd (upd (upd (upd Fh 1 u.1) 2 u.2.1) 3 u.2.2.1) 4 u.2.2.2.1) Ah Bh Dh))))) A0) args s 0 0 A0) (F0 m 88 ls [.int s88_0, .ref adh]) := by
        intro s88_0 ft1_88 ft2_88 ft3_88 ft4_88 ft5_88 ft6_88 H locs ls hft1_88 hft2_88 hft3_88 hP hD hS hl
        refine putD hx hb ht hown hK hP hD hS iTX3 tyX3 tyX3_ok nmX3 3 4 rfl rfl (by decide) fl_RX6_101 rfl rfl rfl (Nat.le_of_ble_eq_true rfl) dX6_readFirst_88 (fun H locs hP hD hS => ?_)
        have hP : va_P G vwCl ((uX6 cs adt qt (upd (upd (upd (upd (upd (upd Ft 1 ft1_88) 2 ft2_88) 3 ft3_88) 4 ft4_88) 5 ft5_88) 6 ft6_88) At Bt Dt) ++ ((uX9 cs (qt 0) qtp Ftp Atp Btp Dtp) ++ (uX3 cs adh qh (upd (upd (upd (upd Fh 1 r12) 2 s38_0) 3 s63_0) 4 s88_0) Ah Bh Dh))) H := hP
        have hD : va_D A0 ((uX6 cs adt qt (upd (upd (upd (upd (upd (upd Ft 1 ft1_88) 2 ft2_88) 3 ft3_88) 4 ft4_88) 5 ft5_88) 6 ft6_88) At Bt Dt) ++ ((uX9 cs (qt 0) qtp Ftp Atp Btp Dtp) ++ (uX3 cs adh qh (upd (upd (upd (upd Fh 1 r12) 2 s38_0) 3 s63_0) 4 s88_0) Ah Bh Dh))) := hD
        refine lv_aload_n hx hb dX6_readFirst_91 rfl (lv_at hl 0 rfl) ?_
        refine getF (v := .int ft5_88) hx hb ht hown hK hP iTX6 0 5 rfl rfl (by decide) fl_RX6_27 rfl dX6_readFirst_92 ?_
        refine lv_if_ne (tgt := 102) hx hb dX6_readFirst_95 (by decide) (fun c45001 => ?_) (fun c45001 => ?_)
        · have zc45001 := neK rfl (show (0 : Int32).toInt = 0 by decide) c45001
          refine lv_iconst (v := 0) hx hb dX6_readFirst_102 (by decide) ?_
          exact retDz (r12, s38_0, s63_0, s88_0, ft1_88, ft2_88, ft3_88, ft4_88, ft5_88, ft6_88) hx hb hr hlk hP hD hS dX6_readFirst_103 (rfl) (⟨show (0 : Int) ≤ ft1_88.toInt ∧ ft1_88.toInt ≤ 900 by omega, show (0 : Int) ≤ ft2_88.toInt ∧ ft2_88.toInt ≤ 4 by omega, show (0 : Int) ≤ ft3_88.toInt ∧ ft3_88.toInt ≤ 900 by omega, show (0 : Int) ≤ (0 : Int32).toInt ∧ (0 : Int32).toInt ≤ 1 by have kk : (0 : Int32).toInt = 0 := (by decide); omega⟩) (Nat.le_of_ble_eq_true rfl) (Nat.le_of_ble_eq_true rfl)
        · have zc45001 := eqK rfl (show (0 : Int32).toInt = 0 by decide) c45001
          refine lv_iconst (v := 1) hx hb dX6_readFirst_98 (by decide) ?_
          refine lv_goto (tgt := 103) hx hb dX6_readFirst_99 (by decide) ?_
          exact retDz (r12, s38_0, s63_0, s88_0, ft1_88, ft2_88, ft3_88, ft4_88, ft5_88, ft6_88) hx hb hr hlk hP hD hS dX6_readFirst_103 (rfl) (⟨show (0 : Int) ≤ ft1_88.toInt ∧ ft1_88.toInt ≤ 900 by omega, show (0 : Int) ≤ ft2_88.toInt ∧ ft2_88.toInt ≤ 4 by omega, show (0 : Int) ≤ ft3_88.toInt ∧ ft3_88.toInt ≤ 900 by omega, show (0 : Int) ≤ (1 : Int32).toInt ∧ (1 : Int32).toInt ≤ 1 by have kk : (1 : Int32).toInt = 1 := (by decide); omega⟩) (Nat.le_of_ble_eq_true rfl) (Nat.le_of_ble_eq_true rfl)
      refine lv_if_ne (tgt := 87) hx hb dX6_readFirst_71 (by decide) (fun c33001 => ?_) (fun c33001 => ?_)
      · have zc33001 := neK rfl (show (0 : Int32).toInt = 0 by decide) c33001
        refine lv_iconst (v := (-1)) hx hb dX6_readFirst_87 (by decide) ?_
        exact B88 (-1) ft1_63 ft2_63 ft3_63 ft4_63 ft5_63 ft6_63 H locs ls (by omega) (by omega) (by omega) hP hD hS (lv_sub hl [0] rfl)
      · have zc33001 := eqK rfl (show (0 : Int32).toInt = 0 by decide) c33001
        refine lv_aload_n hx hb dX6_readFirst_74 rfl (lv_at hl 0 rfl) ?_
        refine va_ldcS hx hb hown (hQ.2.2.2 _ (List.mem_of_getElem? (i := 4) rfl)) dX6_readFirst_75 ?_
        refine lv_iconst (v := 0) hx hb dX6_readFirst_77 (by decide) ?_
        refine lv_sipush (v := 999) hx hb dX6_readFirst_78 (by decide) ?_
        refine behDi (wr := (uX3 cs adh qh (upd (upd (upd Fh 1 r12) 2 s38_0) 3 s63_0) Ah Bh Dh)) (runVDS (As := [.ref ((sd 4).1), .int 0, .int 999]) (rest := [.ref adh]) ⟨hx, hb, hml, hown, ht⟩ (sX6_takeNamed l G cs sd adt qt (upd (upd (upd (upd (upd (upd Ft 1 ft1_63) 2 ft2_63) 3 ft3_63) 4 ft4_63) 5 ft5_63) 6 ft6_63) At Bt Dt (IB_put (k := 6) (IB_put (k := 5) (IB_put (k := 4) (IB_put (k := 3) (IB_put (k := 2) (IB_put (k := 1) hIt (show (0 : Int) ≤ ft1_63.toInt ∧ ft1_63.toInt ≤ 900 by omega)) (show (0 : Int) ≤ ft2_63.toInt ∧ ft2_63.toInt ≤ 4 by omega)) (show (0 : Int) ≤ ft3_63.toInt ∧ ft3_63.toInt ≤ 900 by omega)) (i32b _)) (i32b _)) (i32b _)) qtp Ftp Atp Btp Dtp hItp 4 (by decide) 0 999 ) okV_RX6_85 ⟨by decide, by decide⟩ hK hP hD hQ hS hA [0, 1, 2] rfl (by decide) rfl 0 rfl rfl hl.1 rfl (Nat.le_of_ble_eq_true rfl) dX6_readFirst_81 ⟨(Nat.le_of_ble_eq_true rfl), (Nat.le_of_ble_eq_true rfl)⟩) hP hD hS hA [0, 1, 2] [3, 4, 5, 6, 7, 8, 9, 10] rfl rfl (by decide) (by decide) (fun r9 u H locs hu hP hD hS => ?_)
        obtain ⟨x33002, x33003, x33004, x33005, x33006, x33007⟩ := u
        have kk33009 : (0 : Int32).toInt = 0 := by decide
        have kk33010 : (999 : Int32).toInt = 999 := by decide
        obtain ⟨r33008, rfl⟩ : ∃ z, z = r9 := ⟨_, rfl⟩
        obtain ⟨hbx33002, hbx33003, hbx33004, hr33008⟩ := hu
        have hbx33002 : (0 : Int) ≤ x33002.toInt ∧ x33002.toInt ≤ 900 := hbx33002
        have hbx33003 : (0 : Int) ≤ x33003.toInt ∧ x33003.toInt ≤ 4 := hbx33003
        have hbx33004 : (0 : Int) ≤ x33004.toInt ∧ x33004.toInt ≤ 900 := hbx33004
        have hr33008 : TNk r33008 ((0 : Int32).toInt) ((999 : Int32).toInt) := hr33008
        have hP : va_P G vwCl ((uX6 cs adt qt (upd (upd (upd (upd (upd (upd Ft 1 x33002) 2 x33003) 3 x33004) 4 x33005) 5 x33006) 6 x33007) At Bt Dt) ++ ((uX9 cs (qt 0) qtp Ftp Atp Btp Dtp) ++ (uX3 cs adh qh (upd (upd (upd Fh 1 r12) 2 s38_0) 3 s63_0) Ah Bh Dh))) H := hP.sub [8, 9, 10, 0, 1, 2, 3, 4, 5, 6, 7] rfl
        have hD : va_D A0 ((uX6 cs adt qt (upd (upd (upd (upd (upd (upd Ft 1 x33002) 2 x33003) 3 x33004) 4 x33005) 5 x33006) 6 x33007) At Bt Dt) ++ ((uX9 cs (qt 0) qtp Ftp Atp Btp Dtp) ++ (uX3 cs adh qh (upd (upd (upd Fh 1 r12) 2 s38_0) 3 s63_0) Ah Bh Dh))) := hD.sub [8, 9, 10, 0, 1, 2, 3, 4, 5, 6, 7] (by decide) rfl
        refine lv_goto (tgt := 88) hx hb dX6_readFirst_84 (by decide) ?_
        exact B88 r33008 x33002 x33003 x33004 x33005 x33006 x33007 H locs ls (by omega) (by omega) (by omega) hP hD hS (lv_sub hl [0] rfl)
    refine lv_if_ne (tgt := 62) hx hb dX6_readFirst_46 (by decide) (fun c21001 => ?_) (fun c21001 => ?_)
    · have zc21001 := neK rfl (show (0 : Int32).toInt = 0 by decide) c21001
      refine lv_iconst (v := (-1)) hx hb dX6_readFirst_62 (by decide) ?_
      exact B63 (-1) ft1_38 ft2_38 ft3_38 ft4_38 ft5_38 ft6_38 H locs ls (by omega) (by omega) (by omega) hP hD hS (lv_sub hl [0, 1] rfl)
    · have zc21001 := eqK rfl (show (0 : Int32).toInt = 0 by decide) c21001
      refine lv_aload_n hx hb dX6_readFirst_49 rfl (lv_at hl 0 rfl) ?_
      refine va_ldcS hx hb hown (hQ.2.2.2 _ (List.mem_of_getElem? (i := 3) rfl)) dX6_readFirst_50 ?_
      refine lv_iconst (v := 0) hx hb dX6_readFirst_52 (by decide) ?_
      refine lv_sipush (v := 999) hx hb dX6_readFirst_53 (by decide) ?_
      refine behDi (wr := (uX3 cs adh qh (upd (upd Fh 1 r12) 2 s38_0) Ah Bh Dh)) (runVDS (As := [.ref ((sd 3).1), .int 0, .int 999]) (rest := [.ref adh]) ⟨hx, hb, hml, hown, ht⟩ (sX6_takeNamed l G cs sd adt qt (upd (upd (upd (upd (upd (upd Ft 1 ft1_38) 2 ft2_38) 3 ft3_38) 4 ft4_38) 5 ft5_38) 6 ft6_38) At Bt Dt (IB_put (k := 6) (IB_put (k := 5) (IB_put (k := 4) (IB_put (k := 3) (IB_put (k := 2) (IB_put (k := 1) hIt (show (0 : Int) ≤ ft1_38.toInt ∧ ft1_38.toInt ≤ 900 by omega)) (show (0 : Int) ≤ ft2_38.toInt ∧ ft2_38.toInt ≤ 4 by omega)) (show (0 : Int) ≤ ft3_38.toInt ∧ ft3_38.toInt ≤ 900 by omega)) (i32b _)) (i32b _)) (i32b _)) qtp Ftp Atp Btp Dtp hItp 3 (by decide) 0 999 ) okV_RX6_85 ⟨by decide, by decide⟩ hK hP hD hQ hS hA [0, 1, 2] rfl (by decide) rfl 0 rfl rfl hl.1 rfl (Nat.le_of_ble_eq_true rfl) dX6_readFirst_56 ⟨(Nat.le_of_ble_eq_true rfl), (Nat.le_of_ble_eq_true rfl)⟩) hP hD hS hA [0, 1, 2] [3, 4, 5, 6, 7, 8, 9, 10] rfl rfl (by decide) (by decide) (fun r9 u H locs hu hP hD hS => ?_)
      obtain ⟨x21002, x21003, x21004, x21005, x21006, x21007⟩ := u
      have kk21009 : (0 : Int32).toInt = 0 := by decide
      have kk21010 : (999 : Int32).toInt = 999 := by decide
      obtain ⟨r21008, rfl⟩ : ∃ z, z = r9 := ⟨_, rfl⟩
      obtain ⟨hbx21002, hbx21003, hbx21004, hr21008⟩ := hu
      have hbx21002 : (0 : Int) ≤ x21002.toInt ∧ x21002.toInt ≤ 900 := hbx21002
      have hbx21003 : (0 : Int) ≤ x21003.toInt ∧ x21003.toInt ≤ 4 := hbx21003
      have hbx21004 : (0 : Int) ≤ x21004.toInt ∧ x21004.toInt ≤ 900 := hbx21004
      have hr21008 : TNk r21008 ((0 : Int32).toInt) ((999 : Int32).toInt) := hr21008
      have hP : va_P G vwCl ((uX6 cs adt qt (upd (upd (upd (upd (upd (upd Ft 1 x21002) 2 x21003) 3 x21004) 4 x21005) 5 x21006) 6 x21007) At Bt Dt) ++ ((uX9 cs (qt 0) qtp Ftp Atp Btp Dtp) ++ (uX3 cs adh qh (upd (upd Fh 1 r12) 2 s38_0) Ah Bh Dh))) H := hP.sub [8, 9, 10, 0, 1, 2, 3, 4, 5, 6, 7] rfl
      have hD : va_D A0 ((uX6 cs adt qt (upd (upd (upd (upd (upd (upd Ft 1 x21002) 2 x21003) 3 x21004) 4 x21005) 5 x21006) 6 x21007) At Bt Dt) ++ ((uX9 cs (qt 0) qtp Ftp Atp Btp Dtp) ++ (uX3 cs adh qh (upd (upd Fh 1 r12) 2 s38_0) Ah Bh Dh))) := hD.sub [8, 9, 10, 0, 1, 2, 3, 4, 5, 6, 7] (by decide) rfl
      refine lv_goto (tgt := 63) hx hb dX6_readFirst_59 (by decide) ?_
      exact B63 r21008 x21002 x21003 x21004 x21005 x21006 x21007 H locs ls (by omega) (by omega) (by omega) hP hD hS (lv_sub hl [0, 1] rfl)
  refine lv_if_ne (tgt := 37) hx hb dX6_readFirst_22 (by decide) (fun c15 => ?_) (fun c15 => ?_)
  · have zc15 := neK rfl (show (0 : Int32).toInt = 0 by decide) c15
    refine lv_iconst (v := (-1)) hx hb dX6_readFirst_37 (by decide) ?_
    exact B38 (-1) x6 x7 x8 x9 x10 x11 H locs ls (by omega) (by omega) (by omega) hP hD hS (lv_sub hl [0, 1] rfl)
  · have zc15 := eqK rfl (show (0 : Int32).toInt = 0 by decide) c15
    refine lv_aload_n hx hb dX6_readFirst_25 rfl (lv_at hl 0 rfl) ?_
    refine va_ldcS hx hb hown (hQ.2.2.2 _ (List.mem_of_getElem? (i := 2) rfl)) dX6_readFirst_26 ?_
    refine lv_iconst (v := 0) hx hb dX6_readFirst_28 (by decide) ?_
    refine lv_bipush (v := 100) hx hb dX6_readFirst_29 (by decide) ?_
    refine behDi (wr := (uX3 cs adh qh (upd Fh 1 r12) Ah Bh Dh)) (runVDS (As := [.ref ((sd 2).1), .int 0, .int 100]) (rest := [.ref adh]) ⟨hx, hb, hml, hown, ht⟩ (sX6_takeNamed l G cs sd adt qt (upd (upd (upd (upd (upd (upd Ft 1 x6) 2 x7) 3 x8) 4 x9) 5 x10) 6 x11) At Bt Dt (IB_put (k := 6) (IB_put (k := 5) (IB_put (k := 4) (IB_put (k := 3) (IB_put (k := 2) (IB_put (k := 1) hIt (show (0 : Int) ≤ x6.toInt ∧ x6.toInt ≤ 900 by omega)) (show (0 : Int) ≤ x7.toInt ∧ x7.toInt ≤ 4 by omega)) (show (0 : Int) ≤ x8.toInt ∧ x8.toInt ≤ 900 by omega)) (i32b _)) (i32b _)) (i32b _)) qtp Ftp Atp Btp Dtp hItp 2 (by decide) 0 100 ) okV_RX6_85 ⟨by decide, by decide⟩ hK hP hD hQ hS hA [0, 1, 2] rfl (by decide) rfl 0 rfl rfl hl.1 rfl (Nat.le_of_ble_eq_true rfl) dX6_readFirst_31 ⟨(Nat.le_of_ble_eq_true rfl), (Nat.le_of_ble_eq_true rfl)⟩) hP hD hS hA [0, 1, 2] [3, 4, 5, 6, 7, 8, 9, 10] rfl rfl (by decide) (by decide) (fun r9 u H locs hu hP hD hS => ?_)
    obtain ⟨x16, x17, x18, x19, x20, x21⟩ := u
    have kk23 : (0 : Int32).toInt = 0 := by decide
    have kk24 : (100 : Int32).toInt = 100 := by decide
    obtain ⟨r22, rfl⟩ : ∃ z, z = r9 := ⟨_, rfl⟩
    obtain ⟨hbx16, hbx17, hbx18, hr22⟩ := hu
    have hbx16 : (0 : Int) ≤ x16.toInt ∧ x16.toInt ≤ 900 := hbx16
    have hbx17 : (0 : Int) ≤ x17.toInt ∧ x17.toInt ≤ 4 := hbx17
    have hbx18 : (0 : Int) ≤ x18.toInt ∧ x18.toInt ≤ 900 := hbx18
    have hr22 : TNk r22 ((0 : Int32).toInt) ((100 : Int32).toInt) := hr22
    have hP : va_P G vwCl ((uX6 cs adt qt (upd (upd (upd (upd (upd (upd Ft 1 x16) 2 x17) 3 x18) 4 x19) 5 x20) 6 x21) At Bt Dt) ++ ((uX9 cs (qt 0) qtp Ftp Atp Btp Dtp) ++ (uX3 cs adh qh (upd Fh 1 r12) Ah Bh Dh))) H := hP.sub [8, 9, 10, 0, 1, 2, 3, 4, 5, 6, 7] rfl
    have hD : va_D A0 ((uX6 cs adt qt (upd (upd (upd (upd (upd (upd Ft 1 x16) 2 x17) 3 x18) 4 x19) 5 x20) 6 x21) At Bt Dt) ++ ((uX9 cs (qt 0) qtp Ftp Atp Btp Dtp) ++ (uX3 cs adh qh (upd Fh 1 r12) Ah Bh Dh))) := hD.sub [8, 9, 10, 0, 1, 2, 3, 4, 5, 6, 7] (by decide) rfl
    refine lv_goto (tgt := 38) hx hb dX6_readFirst_34 (by decide) ?_
    exact B38 r22 x16 x17 x18 x19 x20 x21 H locs ls (by omega) (by omega) (by omega) hP hD hS (lv_sub hl [0, 1] rfl)

set_option maxRecDepth 100000 in
set_option maxHeartbeats 16000000 in
theorem sX6_readRoom (l : Launch) (G : va_G) (cs : Nat → ClassId) (sd : Nat → Nat × Nat) (adt : Nat) (qt : Nat → Nat) (Ft : Nat → Int32) (At : Nat → Nat → Int32) (Bt : Nat → Nat → Int64) (Dt : Int64) (hIt : IX6 Ft At) (qtp : Nat → Nat) (Ftp : Nat → Int32) (Atp : Nat → Nat → Int32) (Btp : Nat → Nat → Int64) (Dtp : Int64) (hItp : IX9 Ftp Atp) (adh : Nat) (qh : Nat → Nat) (Fh : Nat → Int32) (Ah : Nat → Nat → Int32) (Bh : Nat → Nat → Int64) (Dh : Int64) (hIh : IX3 Fh Ah) : ∀ sz : Nat, Met l yX6_readRoom (wk yX6_readRoom cX6_readRoom 5 (some .boolean)) (rmk 6 0 0) (PreDS SRR sd G (TY cs) [.ref adt, .ref adh] ((uX6 cs adt qt Ft At Bt Dt) ++ ((uX9 cs (qt 0) qtp Ftp Atp Btp Dtp) ++ (uX3 cs adh qh Fh Ah Bh Dh))) sz) ((QDi G (fun (r : Int32) (u : Int32 × Int32 × Int32 × Int32 × Int32 × Int32 × Int32 × (Nat → Int32) × (Nat → Int32) × (Nat → Int32) × (Nat → Int32)) => ((0 : Int) ≤ u.1.toInt ∧ u.1.toInt ≤ 7) ∧ ((0 : Int) ≤ u.2.1.toInt ∧ u.2.1.toInt ≤ 900) ∧ ((0 : Int) ≤ u.2.2.1.toInt ∧ u.2.2.1.toInt ≤ 4) ∧ ((0 : Int) ≤ u.2.2.2.1.toInt ∧ u.2.2.2.1.toInt ≤ 900) ∧ AJ (0) 127 u.2.2.2.2.2.2.2.2.2.2 ∧ ((0 : Int) ≤ r.toInt ∧ r.toInt ≤ 1)) (fun u : Int32 × Int32 × Int32 × Int32 × Int32 × Int32 × Int32 × (Nat → Int32) × (Nat → Int32) × (Nat → Int32) × (Nat → Int32) => ((uX6 cs adt qt (upd (upd (upd (upd (upd (upd Ft 1 u.2.1) 2 u.2.2.1) 3 u.2.2.2.1) 4 u.2.2.2.2.1) 5 u.2.2.2.2.2.1) 6 u.2.2.2.2.2.2.1) At Bt Dt) ++ ((uX9 cs (qt 0) qtp Ftp Atp Btp Dtp) ++ (uX3 cs adh qh (upd Fh 5 u.1) (vA (vA (vA (vA Ah 7 u.2.2.2.2.2.2.2.1) 8 u.2.2.2.2.2.2.2.2.1) 9 u.2.2.2.2.2.2.2.2.2.1) 10 u.2.2.2.2.2.2.2.2.2.2) Bh Dh))))) (va_A ((uX6 cs adt qt Ft At Bt Dt) ++ ((uX9 cs (qt 0) qtp Ftp Atp Btp Dtp) ++ (uX3 cs adh qh Fh Ah Bh Dh))) sz)) 0 0 (va_A ((uX6 cs adt qt Ft At Bt Dt) ++ ((uX9 cs (qt 0) qtp Ftp Atp Btp Dtp) ++ (uX3 cs adh qh Fh Ah Bh Dh))) sz) := by
  refine mkDS (Qc := (QDi G (fun (r : Int32) (u : Int32 × Int32 × Int32 × Int32 × Int32 × Int32 × Int32 × (Nat → Int32) × (Nat → Int32) × (Nat → Int32) × (Nat → Int32)) => ((0 : Int) ≤ u.1.toInt ∧ u.1.toInt ≤ 7) ∧ ((0 : Int) ≤ u.2.1.toInt ∧ u.2.1.toInt ≤ 900) ∧ ((0 : Int) ≤ u.2.2.1.toInt ∧ u.2.2.1.toInt ≤ 4) ∧ ((0 : Int) ≤ u.2.2.2.1.toInt ∧ u.2.2.2.1.toInt ≤ 900) ∧ AJ (0) 127 u.2.2.2.2.2.2.2.2.2.2 ∧ ((0 : Int) ≤ r.toInt ∧ r.toInt ≤ 1)) (fun u : Int32 × Int32 × Int32 × Int32 × Int32 × Int32 × Int32 × (Nat → Int32) × (Nat → Int32) × (Nat → Int32) × (Nat → Int32) => ((uX6 cs adt qt (upd (upd (upd (upd (upd (upd Ft 1 u.2.1) 2 u.2.2.1) 3 u.2.2.2.1) 4 u.2.2.2.2.1) 5 u.2.2.2.2.2.1) 6 u.2.2.2.2.2.2.1) At Bt Dt) ++ ((uX9 cs (qt 0) qtp Ftp Atp Btp Dtp) ++ (uX3 cs adh qh (upd Fh 5 u.1) (vA (vA (vA (vA Ah 7 u.2.2.2.2.2.2.2.1) 8 u.2.2.2.2.2.2.2.2.1) 9 u.2.2.2.2.2.2.2.2.2.1) 10 u.2.2.2.2.2.2.2.2.2.2) Bh Dh)))))) (by decide) (by simp [lg_sl, Value.category]) ?_
  intro p e s m args below meth c ls A0 hx hb hml hr hlk hown hmn ht hK hP hD hS hA hQ hl
  have hl : lv_has ls 5 [(0, .ref adt), (1, .ref adh)] := hl
  refine lv_aload_n hx hb dX6_readRoom_0 rfl (lv_at hl 1 rfl) ?_
  refine getF (v := .int (Fh 5)) hx hb ht hown hK hP iTX3 3 5 rfl rfl (by decide) fl_RX6_103 rfl dX6_readRoom_1 ?_
  have zf1 : (0 : Int) ≤ (Fh 5).toInt ∧ (Fh 5).toInt ≤ 7 := hIh.1 5
  refine lv_bipush (v := 7) hx hb dX6_readRoom_4 (by decide) ?_
  refine lv_icmp_lt (tgt := 15) hx hb dX6_readRoom_6 (by decide) (fun c2 => ?_) (fun c2 => ?_)
  · have zc2 := ltK rfl (show (7 : Int32).toInt = 7 by decide) c2
    refine lv_aload_n hx hb dX6_readRoom_15 rfl (lv_at hl 0 rfl) ?_
    refine behDw (wr := (uX3 cs adh qh Fh Ah Bh Dh)) (runVD (As := []) (rest := []) ⟨hx, hb, hml, hown, ht⟩ (sX6_advance l G cs adt qt Ft At Bt Dt hIt qtp Ftp Atp Btp Dtp hItp ) okV_RX6_33 ⟨by decide, by decide⟩ hK hP hD [0, 1, 2] rfl (by decide) rfl 0 rfl rfl hl.1 rfl (Nat.le_of_ble_eq_true rfl) dX6_readRoom_16 ⟨(Nat.le_of_ble_eq_true rfl), (Nat.le_of_ble_eq_true rfl)⟩) hP hD hS hA [0, 1, 2] [3, 4, 5, 6, 7, 8, 9, 10] rfl rfl (by decide) (by decide) (fun u H locs hu hP hD hS => ?_)
    obtain ⟨x3, x4, x5, x6⟩ := u
    obtain ⟨hbx3, hbx4, hbx5, hr7⟩ := hu
    have hbx3 : (0 : Int) ≤ x3.toInt ∧ x3.toInt ≤ 900 := hbx3
    have hbx4 : (0 : Int) ≤ x4.toInt ∧ x4.toInt ≤ 4 := hbx4
    have hbx5 : (0 : Int) ≤ x5.toInt ∧ x5.toInt ≤ 900 := hbx5
    have hP : va_P G vwCl ((uX6 cs adt qt (upd (upd (upd (upd Ft 1 x3) 2 x4) 3 x5) 4 x6) At Bt Dt) ++ ((uX9 cs (qt 0) qtp Ftp Atp Btp Dtp) ++ (uX3 cs adh qh Fh Ah Bh Dh))) H := hP.sub [8, 9, 10, 0, 1, 2, 3, 4, 5, 6, 7] rfl
    have hD : va_D A0 ((uX6 cs adt qt (upd (upd (upd (upd Ft 1 x3) 2 x4) 3 x5) 4 x6) At Bt Dt) ++ ((uX9 cs (qt 0) qtp Ftp Atp Btp Dtp) ++ (uX3 cs adh qh Fh Ah Bh Dh))) := hD.sub [8, 9, 10, 0, 1, 2, 3, 4, 5, 6, 7] (by decide) rfl
    refine lv_aload_n hx hb dX6_readRoom_19 rfl (lv_at hl 0 rfl) ?_
    refine va_ldcS hx hb hown (hQ.2.2.2 _ (List.mem_of_getElem? (i := 6) rfl)) dX6_readRoom_20 ?_
    refine lv_iconst (v := 0) hx hb dX6_readRoom_22 (by decide) ?_
    refine lv_iconst (v := 0) hx hb dX6_readRoom_23 (by decide) ?_
    refine behR (runTP (As := [.int 0]) (rest := [.int 0, .ref ((sd 6).1), .ref adt]) ⟨hx, hb, hml, hown, ht⟩ (sX3_limit l G cs 0 ) okT_RX6_108 ⟨by decide, by decide⟩ hK hP [] rfl hl.1 rfl (Nat.le_of_ble_eq_true rfl) dX6_readRoom_24 ⟨by decide, by decide⟩) hP hS hA (fun r8 H locs hr8 hP hS => ?_)
    refine behDi (wr := (uX3 cs adh qh Fh Ah Bh Dh)) (runVDS (As := [.ref ((sd 6).1), .int 0, .int r8]) (rest := []) ⟨hx, hb, hml, hown, ht⟩ (sX6_takeNamed l G cs sd adt qt (upd (upd (upd (upd Ft 1 x3) 2 x4) 3 x5) 4 x6) At Bt Dt (IB_put (k := 4) (IB_put (k := 3) (IB_put (k := 2) (IB_put (k := 1) hIt (show (0 : Int) ≤ x3.toInt ∧ x3.toInt ≤ 900 by omega)) (show (0 : Int) ≤ x4.toInt ∧ x4.toInt ≤ 4 by omega)) (show (0 : Int) ≤ x5.toInt ∧ x5.toInt ≤ 900 by omega)) (i32b _)) qtp Ftp Atp Btp Dtp hItp 6 (by decide) 0 r8 ) okV_RX6_85 ⟨by decide, by decide⟩ hK hP hD hQ hS hA [0, 1, 2] rfl (by decide) rfl 0 rfl rfl hl.1 rfl (Nat.le_of_ble_eq_true rfl) dX6_readRoom_27 ⟨(Nat.le_of_ble_eq_true rfl), (Nat.le_of_ble_eq_true rfl)⟩) hP hD hS hA [0, 1, 2] [3, 4, 5, 6, 7, 8, 9, 10] rfl rfl (by decide) (by decide) (fun r9 u H locs hu hP hD hS => ?_)
    obtain ⟨x9, x10, x11, x12, x13, x14⟩ := u
    have kk16 : (0 : Int32).toInt = 0 := by decide
    obtain ⟨r15, rfl⟩ : ∃ z, z = r9 := ⟨_, rfl⟩
    obtain ⟨hbx9, hbx10, hbx11, hr15⟩ := hu
    have hbx9 : (0 : Int) ≤ x9.toInt ∧ x9.toInt ≤ 900 := hbx9
    have hbx10 : (0 : Int) ≤ x10.toInt ∧ x10.toInt ≤ 4 := hbx10
    have hbx11 : (0 : Int) ≤ x11.toInt ∧ x11.toInt ≤ 900 := hbx11
    have hr15 : TNk r15 ((0 : Int32).toInt) r8.toInt := hr15
    have hP : va_P G vwCl ((uX6 cs adt qt (upd (upd (upd (upd (upd (upd Ft 1 x9) 2 x10) 3 x11) 4 x12) 5 x13) 6 x14) At Bt Dt) ++ ((uX9 cs (qt 0) qtp Ftp Atp Btp Dtp) ++ (uX3 cs adh qh Fh Ah Bh Dh))) H := hP.sub [8, 9, 10, 0, 1, 2, 3, 4, 5, 6, 7] rfl
    have hD : va_D A0 ((uX6 cs adt qt (upd (upd (upd (upd (upd (upd Ft 1 x9) 2 x10) 3 x11) 4 x12) 5 x13) 6 x14) At Bt Dt) ++ ((uX9 cs (qt 0) qtp Ftp Atp Btp Dtp) ++ (uX3 cs adh qh Fh Ah Bh Dh))) := hD.sub [8, 9, 10, 0, 1, 2, 3, 4, 5, 6, 7] (by decide) rfl
    refine lv_istore_n (lv' := [(2, .int r15), (0, .ref adt), (1, .ref adh)]) hx hb dX6_readRoom_30 rfl hl (by decide) rfl (fun ls hl => ?_)
    refine lv_aload_n hx hb dX6_readRoom_31 rfl (lv_at hl 1 rfl) ?_
    refine getF (v := .int x13) hx hb ht hown hK hP iTX6 0 5 rfl rfl (by decide) fl_RX6_27 rfl dX6_readRoom_32 ?_
    have B53 : ∀ (s53_0 : Int32) (ft1_53 : Int32) (ft2_53 : Int32) (ft3_53 : Int32) (ft4_53 : Int32) (ft5_53 : Int32) (ft6_53 : Int32) (H : Heap) (locs : List Loc) (ls : Array Slot), (0 : Int) ≤ ft1_53.toInt ∧ ft1_53.toInt ≤ 900 → (0 : Int) ≤ ft2_53.toInt ∧ ft2_53.toInt ≤ 4 → (0 : Int) ≤ ft3_53.toInt ∧ ft3_53.toInt ≤ 900 → va_P G vwCl ((uX6 cs adt qt (upd (upd (upd (upd (upd (upd Ft 1 ft1_53) 2 ft2_53) 3 ft3_53) 4 ft4_53) 5 ft5_53) 6 ft6_53) At Bt Dt) ++ ((uX9 cs (qt 0) qtp Ftp Atp Btp Dtp) ++ (uX3 cs adh qh Fh Ah Bh Dh))) H → va_D A0 ((uX6 cs adt qt (upd (upd (upd (upd (upd (upd Ft 1 ft1_53) 2 ft2_53) 3 ft3_53) 4 ft4_53) 5 ft5_53) 6 ft6_53) At Bt Dt) ++ ((uX9 cs (qt 0) qtp Ftp Atp Btp Dtp) ++ (uX3 cs adh qh Fh Ah Bh Dh))) → va_S A0 s.heap H locs → lv_has ls 5 [(0, .ref adt), (1, .ref adh), (2, .int r15)] → W p l e (rmk 6 0 0) s m args below meth c H locs 0 0 (MQ below ((QDi G (fun (r : Int32) (u : Int32 × Int32 × Int32 × Int32 × Int32 × Int32 × Int32 × (Nat → Int32) × (Nat → Int32) × (Nat → Int32) × (Nat → Int32)) => ((0 : Int) ≤ u.1.toInt ∧ u.1.toInt ≤ 7) ∧ ((0 : Int) ≤ u.2.1.toInt ∧ u.2.1.toInt ≤ 900) ∧ ((0 : Int) ≤ u.2.2.1.toInt ∧ u.2.2.1.toInt ≤ 4) ∧ ((0 : Int) ≤ u.2.2.2.1.toInt ∧ u.2.2.2.1.toInt ≤ 900) ∧ AJ (0) 127 u.2.2.2.2.2.2.2.2.2.2 ∧ ((0 : Int) ≤ r.toInt ∧ r.toInt ≤ 1)) (fun u : Int32 × Int32 × Int32 × Int32 × Int32 × Int32 × Int32 × (Nat → Int32) × (Nat → Int32) × (Nat → Int32) × (Nat → Int32) => ((uX6 cs adt qt (upd (upd (upd (upd (upd (upd Ft 1 u.2.1) 2 u.2.2.1) 3 u.2.2.2.1) 4 u.2.2.2.2.1) 5 u.2.2.2.2.2.1) 6 u.2.2.2.2.2.2.1) At Bt Dt) ++ ((uX9 cs (qt 0) qtp Ftp Atp Btp Dtp) ++ (uX3 cs adh qh (upd Fh 5 u.1) (vA (vA (vA (vA Ah 7 u.2.2.2.2.2.2.2.1) 8 u.2.2.2.2.2.2.2.2.1) 9 u.2.2.2.2.2.2.2.2.2.1) 10 u.2.2.2.2.2.2.2.2.2.2) Bh Dh))))) A0) args s 0 0 A0) (F0 m 53 ls [.int s53_0]) := by
      intro s53_0 ft1_53 ft2_53 ft3_53 ft4_53 ft5_53 ft6_53 H locs ls hft1_53 hft2_53 hft3_53 hP hD hS hl
      refine lv_istore_n (lv' := [(3, .int s53_0), (0, .ref adt), (1, .ref adh), (2, .int r15)]) hx hb dX6_readRoom_53 rfl hl (by decide) rfl (fun ls hl => ?_)
      refine lv_aload_n hx hb dX6_readRoom_54 rfl (lv_at hl 1 rfl) ?_
      refine getF (v := .int ft5_53) hx hb ht hown hK hP iTX6 0 5 rfl rfl (by decide) fl_RX6_27 rfl dX6_readRoom_55 ?_
      have B76 : ∀ (s76_0 : Int32) (ft1_76 : Int32) (ft2_76 : Int32) (ft3_76 : Int32) (ft4_76 : Int32) (ft5_76 : Int32) (ft6_76 : Int32) (H : Heap) (locs : List Loc) (ls : Array Slot), (0 : Int) ≤ ft1_76.toInt ∧ ft1_76.toInt ≤ 900 → (0 : Int) ≤ ft2_76.toInt ∧ ft2_76.toInt ≤ 4 → (0 : Int) ≤ ft3_76.toInt ∧ ft3_76.toInt ≤ 900 → va_P G vwCl ((uX6 cs adt qt (upd (upd (upd (upd (upd (upd Ft 1 ft1_76) 2 ft2_76) 3 ft3_76) 4 ft4_76) 5 ft5_76) 6 ft6_76) At Bt Dt) ++ ((uX9 cs (qt 0) qtp Ftp Atp Btp Dtp) ++ (uX3 cs adh qh Fh Ah Bh Dh))) H → va_D A0 ((uX6 cs adt qt (upd (upd (upd (upd (upd (upd Ft 1 ft1_76) 2 ft2_76) 3 ft3_76) 4 ft4_76) 5 ft5_76) 6 ft6_76) At Bt Dt) ++ ((uX9 cs (qt 0) qtp Ftp Atp Btp Dtp) ++ (uX3 cs adh qh Fh Ah Bh Dh))) → va_S A0 s.heap H locs → lv_has ls 5 [(0, .ref adt), (1, .ref adh), (2, .int r15), (3, .int s53_0)] → W p l e (rmk 6 0 0) s m args below meth c H locs 0 0 (MQ below ((QDi G (fun (r : Int32) (u : Int32 × Int32 × Int32 × Int32 × Int32 × Int32 × Int32 × (Nat → Int32) × (Nat → Int32) × (Nat → Int32) × (Nat → Int32)) => ((0 : Int) ≤ u.1.toInt ∧ u.1.toInt ≤ 7) ∧ ((0 : Int) ≤ u.2.1.toInt ∧ u.2.1.toInt ≤ 900) ∧ ((0 : Int) ≤ u.2.2.1.toInt ∧ u.2.2.1.toInt ≤ 4) ∧ ((0 : Int) ≤ u.2.2.2.1.toInt ∧ u.2.2.2.1.toInt ≤ 900) ∧ AJ (0) 127 u.2.2.2.2.2.2.2.2.2.2 ∧ ((0 : Int) ≤ r.toInt ∧ r.toInt ≤ 1)) (fun u : Int32 × Int32 × Int32 × Int32 × Int32 × Int32 × Int32 × (Nat → Int32) × (Nat → Int32) × (Nat → Int32) × (Nat → Int32) => ((uX6 cs adt qt (upd (upd (upd (upd (upd (upd Ft 1 u.2.1) 2 u.2.2.1) 3 u.2.2.2.1) 4 u.2.2.2.2.1) 5 u.2.2.2.2.2.1) 6 u.2.2.2.2.2.2.1) At Bt Dt) ++ ((uX9 cs (qt 0) qtp Ftp Atp Btp Dtp) ++ (uX3 cs adh qh (upd Fh 5 u.1) (vA (vA (vA (vA Ah 7 u.2.2.2.2.2.2.2.1) 8 u.2.2.2.2.2.2.2.2.1) 9 u.2.2.2.2.2.2.2.2.2.1) 10 u.2.2.2.2.2.2.2.2.2.2) Bh Dh))))) A0) args s 0 0 A0) (F0 m 76 ls [.int s76_0]) := by
        intro s76_0 ft1_76 ft2_76 ft3_76 ft4_76 ft5_76 ft6_76 H locs ls hft1_76 hft2_76 hft3_76 hP hD hS hl
        refine lv_istore (lv' := [(4, .int s76_0), (0, .ref adt), (1, .ref adh), (2, .int r15), (3, .int s53_0)]) hx hb dX6_readRoom_76 hl (by decide) rfl (fun ls hl => ?_)
        refine lv_aload_n hx hb dX6_readRoom_78 rfl (lv_at hl 1 rfl) ?_
        refine getF (v := .int ft5_76) hx hb ht hown hK hP iTX6 0 5 rfl rfl (by decide) fl_RX6_27 rfl dX6_readRoom_79 ?_
        refine lv_if_eq (tgt := 87) hx hb dX6_readRoom_82 (by decide) (fun c41001 => ?_) (fun c41001 => ?_)
        · have zc41001 := eqK rfl (show (0 : Int32).toInt = 0 by decide) c41001
          refine lv_aload_n hx hb dX6_readRoom_87 rfl (lv_at hl 2 rfl) ?_
          refine lv_iload_n hx hb dX6_readRoom_88 rfl (lv_at hl 3 rfl) ?_
          refine lv_iload_n hx hb dX6_readRoom_89 rfl (lv_at hl 4 rfl) ?_
          refine lv_iload hx hb dX6_readRoom_90 (lv_at hl 0 rfl) ?_
          refine behDw (wr := ((uX6 cs adt qt (upd (upd (upd (upd (upd (upd Ft 1 ft1_76) 2 ft2_76) 3 ft3_76) 4 ft4_76) 5 ft5_76) 6 ft6_76) At Bt Dt) ++ (uX9 cs (qt 0) qtp Ftp Atp Btp Dtp))) (runVD (As := [.int r15, .int s53_0, .int s76_0]) (rest := []) ⟨hx, hb, hml, hown, ht⟩ (sX3_addRoom l G cs adh qh Fh Ah Bh Dh hIh r15 s53_0 s76_0 ) okV_RX6_116 ⟨by decide, by decide⟩ hK hP hD [3, 4, 5, 6, 7, 8, 9, 10] rfl (by decide) rfl 3 rfl rfl hl.1 rfl (Nat.le_of_ble_eq_true rfl) dX6_readRoom_92 ⟨(Nat.le_of_ble_eq_true rfl), (Nat.le_of_ble_eq_true rfl)⟩) hP hD hS hA [3, 4, 5, 6, 7, 8, 9, 10] [0, 1, 2] rfl rfl (by decide) (by decide) (fun u H locs hu hP hD hS => ?_)
          obtain ⟨x41002, g41003, g41004, g41005, g41006⟩ := u
          obtain ⟨hbx41002, hg41006, hr41007⟩ := hu
          have hbx41002 : (0 : Int) ≤ x41002.toInt ∧ x41002.toInt ≤ 7 := hbx41002
          have hg41006 : AJ (0) 127 g41006 := hg41006
          have hP : va_P G vwCl ((uX6 cs adt qt (upd (upd (upd (upd (upd (upd Ft 1 ft1_76) 2 ft2_76) 3 ft3_76) 4 ft4_76) 5 ft5_76) 6 ft6_76) At Bt Dt) ++ ((uX9 cs (qt 0) qtp Ftp Atp Btp Dtp) ++ (uX3 cs adh qh (upd Fh 5 x41002) (vA (vA (vA (vA Ah 7 g41003) 8 g41004) 9 g41005) 10 g41006) Bh Dh))) H := hP.sub [0, 1, 2, 3, 4, 5, 6, 7, 8, 9, 10] rfl
          have hD : va_D A0 ((uX6 cs adt qt (upd (upd (upd (upd (upd (upd Ft 1 ft1_76) 2 ft2_76) 3 ft3_76) 4 ft4_76) 5 ft5_76) 6 ft6_76) At Bt Dt) ++ ((uX9 cs (qt 0) qtp Ftp Atp Btp Dtp) ++ (uX3 cs adh qh (upd Fh 5 x41002) (vA (vA (vA (vA Ah 7 g41003) 8 g41004) 9 g41005) 10 g41006) Bh Dh))) := hD.sub [0, 1, 2, 3, 4, 5, 6, 7, 8, 9, 10] (by decide) rfl
          refine lv_iconst (v := 1) hx hb dX6_readRoom_95 (by decide) ?_
          exact retDz (x41002, ft1_76, ft2_76, ft3_76, ft4_76, ft5_76, ft6_76, g41003, g41004, g41005, g41006) hx hb hr hlk hP hD hS dX6_readRoom_96 (rfl) (⟨show (0 : Int) ≤ x41002.toInt ∧ x41002.toInt ≤ 7 by omega, show (0 : Int) ≤ ft1_76.toInt ∧ ft1_76.toInt ≤ 900 by omega, show (0 : Int) ≤ ft2_76.toInt ∧ ft2_76.toInt ≤ 4 by omega, show (0 : Int) ≤ ft3_76.toInt ∧ ft3_76.toInt ≤ 900 by omega, hg41006, show (0 : Int) ≤ (1 : Int32).toInt ∧ (1 : Int32).toInt ≤ 1 by have kk : (1 : Int32).toInt = 1 := (by decide); omega⟩) (Nat.le_of_ble_eq_true rfl) (Nat.le_of_ble_eq_true rfl)
        · have zc41001 := neK rfl (show (0 : Int32).toInt = 0 by decide) c41001
          refine lv_iconst (v := 0) hx hb dX6_readRoom_85 (by decide) ?_
          exact retDz ((Fh 5), ft1_76, ft2_76, ft3_76, ft4_76, ft5_76, ft6_76, (Ah 7), (Ah 8), (Ah 9), (Ah 10)) hx hb hr hlk hP hD hS dX6_readRoom_86 (rfl) (⟨hIh.1 5, show (0 : Int) ≤ ft1_76.toInt ∧ ft1_76.toInt ≤ 900 by omega, show (0 : Int) ≤ ft2_76.toInt ∧ ft2_76.toInt ≤ 4 by omega, show (0 : Int) ≤ ft3_76.toInt ∧ ft3_76.toInt ≤ 900 by omega, fun j => hIh.2 10 j, show (0 : Int) ≤ (0 : Int32).toInt ∧ (0 : Int32).toInt ≤ 1 by have kk : (0 : Int32).toInt = 0 := (by decide); omega⟩) (Nat.le_of_ble_eq_true rfl) (Nat.le_of_ble_eq_true rfl)
      refine lv_if_ne (tgt := 75) hx hb dX6_readRoom_58 (by decide) (fun c29001 => ?_) (fun c29001 => ?_)
      · have zc29001 := neK rfl (show (0 : Int32).toInt = 0 by decide) c29001
        refine lv_iconst (v := (-1)) hx hb dX6_readRoom_75 (by decide) ?_
        exact B76 (-1) ft1_53 ft2_53 ft3_53 ft4_53 ft5_53 ft6_53 H locs ls (by omega) (by omega) (by omega) hP hD hS (lv_sub hl [1, 2, 3, 0] rfl)
      · have zc29001 := eqK rfl (show (0 : Int32).toInt = 0 by decide) c29001
        refine lv_aload_n hx hb dX6_readRoom_61 rfl (lv_at hl 1 rfl) ?_
        refine va_ldcS hx hb hown (hQ.2.2.2 _ (List.mem_of_getElem? (i := 8) rfl)) dX6_readRoom_62 ?_
        refine lv_iconst (v := 0) hx hb dX6_readRoom_64 (by decide) ?_
        refine lv_iconst (v := 2) hx hb dX6_readRoom_65 (by decide) ?_
        refine behR (runTP (As := [.int 2]) (rest := [.int 0, .ref ((sd 8).1), .ref adt]) ⟨hx, hb, hml, hown, ht⟩ (sX3_limit l G cs 2 ) okT_RX6_108 ⟨by decide, by decide⟩ hK hP [] rfl hl.1 rfl (Nat.le_of_ble_eq_true rfl) dX6_readRoom_66 ⟨by decide, by decide⟩) hP hS hA (fun r29002 H locs hr29002 hP hS => ?_)
        refine behDi (wr := (uX3 cs adh qh Fh Ah Bh Dh)) (runVDS (As := [.ref ((sd 8).1), .int 0, .int r29002]) (rest := []) ⟨hx, hb, hml, hown, ht⟩ (sX6_takeNamed l G cs sd adt qt (upd (upd (upd (upd (upd (upd Ft 1 ft1_53) 2 ft2_53) 3 ft3_53) 4 ft4_53) 5 ft5_53) 6 ft6_53) At Bt Dt (IB_put (k := 6) (IB_put (k := 5) (IB_put (k := 4) (IB_put (k := 3) (IB_put (k := 2) (IB_put (k := 1) hIt (show (0 : Int) ≤ ft1_53.toInt ∧ ft1_53.toInt ≤ 900 by omega)) (show (0 : Int) ≤ ft2_53.toInt ∧ ft2_53.toInt ≤ 4 by omega)) (show (0 : Int) ≤ ft3_53.toInt ∧ ft3_53.toInt ≤ 900 by omega)) (i32b _)) (i32b _)) (i32b _)) qtp Ftp Atp Btp Dtp hItp 8 (by decide) 0 r29002 ) okV_RX6_85 ⟨by decide, by decide⟩ hK hP hD hQ hS hA [0, 1, 2] rfl (by decide) rfl 0 rfl rfl hl.1 rfl (Nat.le_of_ble_eq_true rfl) dX6_readRoom_69 ⟨(Nat.le_of_ble_eq_true rfl), (Nat.le_of_ble_eq_true rfl)⟩) hP hD hS hA [0, 1, 2] [3, 4, 5, 6, 7, 8, 9, 10] rfl rfl (by decide) (by decide) (fun r9 u H locs hu hP hD hS => ?_)
        obtain ⟨x29003, x29004, x29005, x29006, x29007, x29008⟩ := u
        have kk29010 : (0 : Int32).toInt = 0 := by decide
        obtain ⟨r29009, rfl⟩ : ∃ z, z = r9 := ⟨_, rfl⟩
        obtain ⟨hbx29003, hbx29004, hbx29005, hr29009⟩ := hu
        have hbx29003 : (0 : Int) ≤ x29003.toInt ∧ x29003.toInt ≤ 900 := hbx29003
        have hbx29004 : (0 : Int) ≤ x29004.toInt ∧ x29004.toInt ≤ 4 := hbx29004
        have hbx29005 : (0 : Int) ≤ x29005.toInt ∧ x29005.toInt ≤ 900 := hbx29005
        have hr29009 : TNk r29009 ((0 : Int32).toInt) r29002.toInt := hr29009
        have hP : va_P G vwCl ((uX6 cs adt qt (upd (upd (upd (upd (upd (upd Ft 1 x29003) 2 x29004) 3 x29005) 4 x29006) 5 x29007) 6 x29008) At Bt Dt) ++ ((uX9 cs (qt 0) qtp Ftp Atp Btp Dtp) ++ (uX3 cs adh qh Fh Ah Bh Dh))) H := hP.sub [8, 9, 10, 0, 1, 2, 3, 4, 5, 6, 7] rfl
        have hD : va_D A0 ((uX6 cs adt qt (upd (upd (upd (upd (upd (upd Ft 1 x29003) 2 x29004) 3 x29005) 4 x29006) 5 x29007) 6 x29008) At Bt Dt) ++ ((uX9 cs (qt 0) qtp Ftp Atp Btp Dtp) ++ (uX3 cs adh qh Fh Ah Bh Dh))) := hD.sub [8, 9, 10, 0, 1, 2, 3, 4, 5, 6, 7] (by decide) rfl
        refine lv_goto (tgt := 76) hx hb dX6_readRoom_72 (by decide) ?_
        exact B76 r29009 x29003 x29004 x29005 x29006 x29007 x29008 H locs ls (by omega) (by omega) (by omega) hP hD hS (lv_sub hl [1, 2, 3, 0] rfl)
    refine lv_if_ne (tgt := 52) hx hb dX6_readRoom_35 (by decide) (fun c17 => ?_) (fun c17 => ?_)
    · have zc17 := neK rfl (show (0 : Int32).toInt = 0 by decide) c17
      refine lv_iconst (v := (-1)) hx hb dX6_readRoom_52 (by decide) ?_
      exact B53 (-1) x9 x10 x11 x12 x13 x14 H locs ls (by omega) (by omega) (by omega) hP hD hS (lv_sub hl [1, 2, 0] rfl)
    · have zc17 := eqK rfl (show (0 : Int32).toInt = 0 by decide) c17
      refine lv_aload_n hx hb dX6_readRoom_38 rfl (lv_at hl 1 rfl) ?_
      refine va_ldcS hx hb hown (hQ.2.2.2 _ (List.mem_of_getElem? (i := 7) rfl)) dX6_readRoom_39 ?_
      refine lv_iconst (v := 0) hx hb dX6_readRoom_41 (by decide) ?_
      refine lv_iconst (v := 1) hx hb dX6_readRoom_42 (by decide) ?_
      refine behR (runTP (As := [.int 1]) (rest := [.int 0, .ref ((sd 7).1), .ref adt]) ⟨hx, hb, hml, hown, ht⟩ (sX3_limit l G cs 1 ) okT_RX6_108 ⟨by decide, by decide⟩ hK hP [] rfl hl.1 rfl (Nat.le_of_ble_eq_true rfl) dX6_readRoom_43 ⟨by decide, by decide⟩) hP hS hA (fun r18 H locs hr18 hP hS => ?_)
      refine behDi (wr := (uX3 cs adh qh Fh Ah Bh Dh)) (runVDS (As := [.ref ((sd 7).1), .int 0, .int r18]) (rest := []) ⟨hx, hb, hml, hown, ht⟩ (sX6_takeNamed l G cs sd adt qt (upd (upd (upd (upd (upd (upd Ft 1 x9) 2 x10) 3 x11) 4 x12) 5 x13) 6 x14) At Bt Dt (IB_put (k := 6) (IB_put (k := 5) (IB_put (k := 4) (IB_put (k := 3) (IB_put (k := 2) (IB_put (k := 1) hIt (show (0 : Int) ≤ x9.toInt ∧ x9.toInt ≤ 900 by omega)) (show (0 : Int) ≤ x10.toInt ∧ x10.toInt ≤ 4 by omega)) (show (0 : Int) ≤ x11.toInt ∧ x11.toInt ≤ 900 by omega)) (i32b _)) (i32b _)) (i32b _)) qtp Ftp Atp Btp Dtp hItp 7 (by decide) 0 r18 ) okV_RX6_85 ⟨by decide, by decide⟩ hK hP hD hQ hS hA [0, 1, 2] rfl (by decide) rfl 0 rfl rfl hl.1 rfl (Nat.le_of_ble_eq_true rfl) dX6_readRoom_46 ⟨(Nat.le_of_ble_eq_true rfl), (Nat.le_of_ble_eq_true rfl)⟩) hP hD hS hA [0, 1, 2] [3, 4, 5, 6, 7, 8, 9, 10] rfl rfl (by decide) (by decide) (fun r9 u H locs hu hP hD hS => ?_)
      obtain ⟨x19, x20, x21, x22, x23, x24⟩ := u
      have kk26 : (0 : Int32).toInt = 0 := by decide
      obtain ⟨r25, rfl⟩ : ∃ z, z = r9 := ⟨_, rfl⟩
      obtain ⟨hbx19, hbx20, hbx21, hr25⟩ := hu
      have hbx19 : (0 : Int) ≤ x19.toInt ∧ x19.toInt ≤ 900 := hbx19
      have hbx20 : (0 : Int) ≤ x20.toInt ∧ x20.toInt ≤ 4 := hbx20
      have hbx21 : (0 : Int) ≤ x21.toInt ∧ x21.toInt ≤ 900 := hbx21
      have hr25 : TNk r25 ((0 : Int32).toInt) r18.toInt := hr25
      have hP : va_P G vwCl ((uX6 cs adt qt (upd (upd (upd (upd (upd (upd Ft 1 x19) 2 x20) 3 x21) 4 x22) 5 x23) 6 x24) At Bt Dt) ++ ((uX9 cs (qt 0) qtp Ftp Atp Btp Dtp) ++ (uX3 cs adh qh Fh Ah Bh Dh))) H := hP.sub [8, 9, 10, 0, 1, 2, 3, 4, 5, 6, 7] rfl
      have hD : va_D A0 ((uX6 cs adt qt (upd (upd (upd (upd (upd (upd Ft 1 x19) 2 x20) 3 x21) 4 x22) 5 x23) 6 x24) At Bt Dt) ++ ((uX9 cs (qt 0) qtp Ftp Atp Btp Dtp) ++ (uX3 cs adh qh Fh Ah Bh Dh))) := hD.sub [8, 9, 10, 0, 1, 2, 3, 4, 5, 6, 7] (by decide) rfl
      refine lv_goto (tgt := 53) hx hb dX6_readRoom_49 (by decide) ?_
      exact B53 r25 x19 x20 x21 x22 x23 x24 H locs ls (by omega) (by omega) (by omega) hP hD hS (lv_sub hl [1, 2, 0] rfl)
  · have zc2 := nltK rfl (show (7 : Int32).toInt = 7 by decide) c2
    refine lv_aload_n hx hb dX6_readRoom_9 rfl (lv_at hl 0 rfl) ?_
    refine lv_iconst (v := 3) hx hb dX6_readRoom_10 (by decide) ?_
    refine behDi (wr := (uX3 cs adh qh Fh Ah Bh Dh)) (runVD (As := [.int 3]) (rest := []) ⟨hx, hb, hml, hown, ht⟩ (sX6_fail l G cs adt qt Ft At Bt Dt hIt qtp Ftp Atp Btp Dtp hItp 3 ) okV_RX6_52 ⟨by decide, by decide⟩ hK hP hD [0, 1, 2] rfl (by decide) rfl 0 rfl rfl hl.1 rfl (Nat.le_of_ble_eq_true rfl) dX6_readRoom_11 ⟨(Nat.le_of_ble_eq_true rfl), (Nat.le_of_ble_eq_true rfl)⟩) hP hD hS hA [0, 1, 2] [3, 4, 5, 6, 7, 8, 9, 10] rfl rfl (by decide) (by decide) (fun r9 u H locs hu hP hD hS => ?_)
    obtain ⟨x27, x28⟩ := u
    have kk30 : (3 : Int32).toInt = 3 := by decide
    obtain ⟨r29, rfl⟩ : ∃ z, z = r9 := ⟨_, rfl⟩
    have hr29 := hu
    have hr29 : r29.toInt = 0 := hr29
    have hP : va_P G vwCl ((uX6 cs adt qt (upd (upd Ft 5 x27) 6 x28) At Bt Dt) ++ ((uX9 cs (qt 0) qtp Ftp Atp Btp Dtp) ++ (uX3 cs adh qh Fh Ah Bh Dh))) H := hP.sub [8, 9, 10, 0, 1, 2, 3, 4, 5, 6, 7] rfl
    have hD : va_D A0 ((uX6 cs adt qt (upd (upd Ft 5 x27) 6 x28) At Bt Dt) ++ ((uX9 cs (qt 0) qtp Ftp Atp Btp Dtp) ++ (uX3 cs adh qh Fh Ah Bh Dh))) := hD.sub [8, 9, 10, 0, 1, 2, 3, 4, 5, 6, 7] (by decide) rfl
    exact retDz ((Fh 5), (Ft 1), (Ft 2), (Ft 3), (Ft 4), x27, x28, (Ah 7), (Ah 8), (Ah 9), (Ah 10)) hx hb hr hlk hP hD hS dX6_readRoom_14 (narZ (by omega)) (⟨hIh.1 5, hIt.1 1, hIt.1 2, hIt.1 3, fun j => hIh.2 10 j, show (0 : Int) ≤ r29.toInt ∧ r29.toInt ≤ 1 by omega⟩) (Nat.le_of_ble_eq_true rfl) (Nat.le_of_ble_eq_true rfl)

set_option maxRecDepth 100000 in
set_option maxHeartbeats 16000000 in
theorem sX6_readDoor (l : Launch) (G : va_G) (cs : Nat → ClassId) (adt : Nat) (qt : Nat → Nat) (Ft : Nat → Int32) (At : Nat → Nat → Int32) (Bt : Nat → Nat → Int64) (Dt : Int64) (hIt : IX6 Ft At) (qtp : Nat → Nat) (Ftp : Nat → Int32) (Atp : Nat → Nat → Int32) (Btp : Nat → Nat → Int64) (Dtp : Int64) (hItp : IX9 Ftp Atp) (adh : Nat) (qh : Nat → Nat) (Fh : Nat → Int32) (Ah : Nat → Nat → Int32) (Bh : Nat → Nat → Int64) (Dh : Int64) (hIh : IX3 Fh Ah) : ∀ sz : Nat, Met l yX6_readDoor (wk yX6_readDoor cX6_readDoor 4 (some .boolean)) (rmk 3 0 0) (PreD G (TY cs) [.ref adt, .ref adh] ((uX6 cs adt qt Ft At Bt Dt) ++ ((uX9 cs (qt 0) qtp Ftp Atp Btp Dtp) ++ (uX3 cs adh qh Fh Ah Bh Dh))) sz) ((QDi G (fun (r : Int32) (u : Int32 × Int32 × Int32 × Int32 × Int32 × Int32 × (Nat → Int32)) => ((0 : Int) ≤ u.1.toInt ∧ u.1.toInt ≤ 900) ∧ ((0 : Int) ≤ u.2.1.toInt ∧ u.2.1.toInt ≤ 4) ∧ ((0 : Int) ≤ u.2.2.1.toInt ∧ u.2.2.1.toInt ≤ 900) ∧ AJ (0) 127 u.2.2.2.2.2.2 ∧ ((0 : Int) ≤ r.toInt ∧ r.toInt ≤ 1)) (fun u : Int32 × Int32 × Int32 × Int32 × Int32 × Int32 × (Nat → Int32) => ((uX6 cs adt qt (upd (upd (upd (upd (upd (upd Ft 1 u.1) 2 u.2.1) 3 u.2.2.1) 4 u.2.2.2.1) 5 u.2.2.2.2.1) 6 u.2.2.2.2.2.1) At Bt Dt) ++ ((uX9 cs (qt 0) qtp Ftp Atp Btp Dtp) ++ (uX3 cs adh qh Fh (vA Ah 10 u.2.2.2.2.2.2) Bh Dh))))) (va_A ((uX6 cs adt qt Ft At Bt Dt) ++ ((uX9 cs (qt 0) qtp Ftp Atp Btp Dtp) ++ (uX3 cs adh qh Fh Ah Bh Dh))) sz)) 0 0 (va_A ((uX6 cs adt qt Ft At Bt Dt) ++ ((uX9 cs (qt 0) qtp Ftp Atp Btp Dtp) ++ (uX3 cs adh qh Fh Ah Bh Dh))) sz) := by
  refine mkD (Qc := (QDi G (fun (r : Int32) (u : Int32 × Int32 × Int32 × Int32 × Int32 × Int32 × (Nat → Int32)) => ((0 : Int) ≤ u.1.toInt ∧ u.1.toInt ≤ 900) ∧ ((0 : Int) ≤ u.2.1.toInt ∧ u.2.1.toInt ≤ 4) ∧ ((0 : Int) ≤ u.2.2.1.toInt ∧ u.2.2.1.toInt ≤ 900) ∧ AJ (0) 127 u.2.2.2.2.2.2 ∧ ((0 : Int) ≤ r.toInt ∧ r.toInt ≤ 1)) (fun u : Int32 × Int32 × Int32 × Int32 × Int32 × Int32 × (Nat → Int32) => ((uX6 cs adt qt (upd (upd (upd (upd (upd (upd Ft 1 u.1) 2 u.2.1) 3 u.2.2.1) 4 u.2.2.2.1) 5 u.2.2.2.2.1) 6 u.2.2.2.2.2.1) At Bt Dt) ++ ((uX9 cs (qt 0) qtp Ftp Atp Btp Dtp) ++ (uX3 cs adh qh Fh (vA Ah 10 u.2.2.2.2.2.2) Bh Dh)))))) (by decide) (by simp [lg_sl, Value.category]) ?_
  intro p e s m args below meth c ls A0 hx hb hml hr hlk hown hmn ht hK hP hD hS hA hl
  have hl : lv_has ls 4 [(0, .ref adt), (1, .ref adh)] := hl
  refine lv_aload_n hx hb dX6_readDoor_0 rfl (lv_at hl 0 rfl) ?_
  refine behDw (wr := (uX3 cs adh qh Fh Ah Bh Dh)) (runVD (As := []) (rest := []) ⟨hx, hb, hml, hown, ht⟩ (sX6_advance l G cs adt qt Ft At Bt Dt hIt qtp Ftp Atp Btp Dtp hItp ) okV_RX6_33 ⟨by decide, by decide⟩ hK hP hD [0, 1, 2] rfl (by decide) rfl 0 rfl rfl hl.1 rfl (Nat.le_of_ble_eq_true rfl) dX6_readDoor_1 ⟨(Nat.le_of_ble_eq_true rfl), (Nat.le_of_ble_eq_true rfl)⟩) hP hD hS hA [0, 1, 2] [3, 4, 5, 6, 7, 8, 9, 10] rfl rfl (by decide) (by decide) (fun u H locs hu hP hD hS => ?_)
  obtain ⟨x1, x2, x3, x4⟩ := u
  obtain ⟨hbx1, hbx2, hbx3, hr5⟩ := hu
  have hbx1 : (0 : Int) ≤ x1.toInt ∧ x1.toInt ≤ 900 := hbx1
  have hbx2 : (0 : Int) ≤ x2.toInt ∧ x2.toInt ≤ 4 := hbx2
  have hbx3 : (0 : Int) ≤ x3.toInt ∧ x3.toInt ≤ 900 := hbx3
  have hP : va_P G vwCl ((uX6 cs adt qt (upd (upd (upd (upd Ft 1 x1) 2 x2) 3 x3) 4 x4) At Bt Dt) ++ ((uX9 cs (qt 0) qtp Ftp Atp Btp Dtp) ++ (uX3 cs adh qh Fh Ah Bh Dh))) H := hP.sub [8, 9, 10, 0, 1, 2, 3, 4, 5, 6, 7] rfl
  have hD : va_D A0 ((uX6 cs adt qt (upd (upd (upd (upd Ft 1 x1) 2 x2) 3 x3) 4 x4) At Bt Dt) ++ ((uX9 cs (qt 0) qtp Ftp Atp Btp Dtp) ++ (uX3 cs adh qh Fh Ah Bh Dh))) := hD.sub [8, 9, 10, 0, 1, 2, 3, 4, 5, 6, 7] (by decide) rfl
  refine lv_aload_n hx hb dX6_readDoor_4 rfl (lv_at hl 0 rfl) ?_
  refine lv_iconst (v := 0) hx hb dX6_readDoor_5 (by decide) ?_
  refine lv_aload_n hx hb dX6_readDoor_6 rfl (lv_at hl 1 rfl) ?_
  refine getF (v := .int (Fh 5)) hx hb ht hown hK hP iTX3 3 5 rfl rfl (by decide) fl_RX6_103 rfl dX6_readDoor_7 ?_
  have zf6 : (0 : Int) ≤ (Fh 5).toInt ∧ (Fh 5).toInt ≤ 7 := hIh.1 5
  refine lv_iconst (v := 1) hx hb dX6_readDoor_10 (by decide) ?_
  refine lv_isub hx hb dX6_readDoor_11 ?_
  refine lv_topi (fun v7 ev7 => ?_)
  have tv7 : v7.toInt = (Fh 5).toInt - 1 := by rw [ev7]; exact subT rfl (show (1 : Int32).toInt = 1 by decide) (by omega)
  refine lv_iconst (v := (-1)) hx hb dX6_readDoor_12 (by decide) ?_
  refine behDi (wr := (uX3 cs adh qh Fh Ah Bh Dh)) (runVD (As := [.int 0, .int v7, .int (-1)]) (rest := []) ⟨hx, hb, hml, hown, ht⟩ (sX6_takeNumber l G cs adt qt (upd (upd (upd (upd Ft 1 x1) 2 x2) 3 x3) 4 x4) At Bt Dt (IB_put (k := 4) (IB_put (k := 3) (IB_put (k := 2) (IB_put (k := 1) hIt (show (0 : Int) ≤ x1.toInt ∧ x1.toInt ≤ 900 by omega)) (show (0 : Int) ≤ x2.toInt ∧ x2.toInt ≤ 4 by omega)) (show (0 : Int) ≤ x3.toInt ∧ x3.toInt ≤ 900 by omega)) (i32b _)) qtp Ftp Atp Btp Dtp hItp 0 v7 (-1) ) okV_RX6_120 ⟨by decide, by decide⟩ hK hP hD [0, 1, 2] rfl (by decide) rfl 0 rfl rfl hl.1 rfl (Nat.le_of_ble_eq_true rfl) dX6_readDoor_13 ⟨(Nat.le_of_ble_eq_true rfl), (Nat.le_of_ble_eq_true rfl)⟩) hP hD hS hA [0, 1, 2] [3, 4, 5, 6, 7, 8, 9, 10] rfl rfl (by decide) (by decide) (fun r9 u H locs hu hP hD hS => ?_)
  obtain ⟨x8, x9, x10, x11, x12, x13⟩ := u
  have kk15 : (0 : Int32).toInt = 0 := by decide
  have kk16 : (-1 : Int32).toInt = (-1) := by decide
  obtain ⟨r14, rfl⟩ : ∃ z, z = r9 := ⟨_, rfl⟩
  obtain ⟨hbx8, hbx9, hbx10, hr14⟩ := hu
  have hbx8 : (0 : Int) ≤ x8.toInt ∧ x8.toInt ≤ 900 := hbx8
  have hbx9 : (0 : Int) ≤ x9.toInt ∧ x9.toInt ≤ 4 := hbx9
  have hbx10 : (0 : Int) ≤ x10.toInt ∧ x10.toInt ≤ 900 := hbx10
  have hr14 : TNk r14 ((0 : Int32).toInt) v7.toInt := hr14
  have hP : va_P G vwCl ((uX6 cs adt qt (upd (upd (upd (upd (upd (upd Ft 1 x8) 2 x9) 3 x10) 4 x11) 5 x12) 6 x13) At Bt Dt) ++ ((uX9 cs (qt 0) qtp Ftp Atp Btp Dtp) ++ (uX3 cs adh qh Fh Ah Bh Dh))) H := hP.sub [8, 9, 10, 0, 1, 2, 3, 4, 5, 6, 7] rfl
  have hD : va_D A0 ((uX6 cs adt qt (upd (upd (upd (upd (upd (upd Ft 1 x8) 2 x9) 3 x10) 4 x11) 5 x12) 6 x13) At Bt Dt) ++ ((uX9 cs (qt 0) qtp Ftp Atp Btp Dtp) ++ (uX3 cs adh qh Fh Ah Bh Dh))) := hD.sub [8, 9, 10, 0, 1, 2, 3, 4, 5, 6, 7] (by decide) rfl
  refine lv_istore_n (lv' := [(2, .int r14), (0, .ref adt), (1, .ref adh)]) hx hb dX6_readDoor_16 rfl hl (by decide) rfl (fun ls hl => ?_)
  refine lv_aload_n hx hb dX6_readDoor_17 rfl (lv_at hl 1 rfl) ?_
  refine getF (v := .int x12) hx hb ht hown hK hP iTX6 0 5 rfl rfl (by decide) fl_RX6_27 rfl dX6_readDoor_18 ?_
  have B40 : ∀ (s40_0 : Int32) (ft1_40 : Int32) (ft2_40 : Int32) (ft3_40 : Int32) (ft4_40 : Int32) (ft5_40 : Int32) (ft6_40 : Int32) (H : Heap) (locs : List Loc) (ls : Array Slot), (0 : Int) ≤ ft1_40.toInt ∧ ft1_40.toInt ≤ 900 → (0 : Int) ≤ ft2_40.toInt ∧ ft2_40.toInt ≤ 4 → (0 : Int) ≤ ft3_40.toInt ∧ ft3_40.toInt ≤ 900 → va_P G vwCl ((uX6 cs adt qt (upd (upd (upd (upd (upd (upd Ft 1 ft1_40) 2 ft2_40) 3 ft3_40) 4 ft4_40) 5 ft5_40) 6 ft6_40) At Bt Dt) ++ ((uX9 cs (qt 0) qtp Ftp Atp Btp Dtp) ++ (uX3 cs adh qh Fh Ah Bh Dh))) H → va_D A0 ((uX6 cs adt qt (upd (upd (upd (upd (upd (upd Ft 1 ft1_40) 2 ft2_40) 3 ft3_40) 4 ft4_40) 5 ft5_40) 6 ft6_40) At Bt Dt) ++ ((uX9 cs (qt 0) qtp Ftp Atp Btp Dtp) ++ (uX3 cs adh qh Fh Ah Bh Dh))) → va_S A0 s.heap H locs → lv_has ls 4 [(0, .ref adt), (1, .ref adh), (2, .int r14)] → W p l e (rmk 3 0 0) s m args below meth c H locs 0 0 (MQ below ((QDi G (fun (r : Int32) (u : Int32 × Int32 × Int32 × Int32 × Int32 × Int32 × (Nat → Int32)) => ((0 : Int) ≤ u.1.toInt ∧ u.1.toInt ≤ 900) ∧ ((0 : Int) ≤ u.2.1.toInt ∧ u.2.1.toInt ≤ 4) ∧ ((0 : Int) ≤ u.2.2.1.toInt ∧ u.2.2.1.toInt ≤ 900) ∧ AJ (0) 127 u.2.2.2.2.2.2 ∧ ((0 : Int) ≤ r.toInt ∧ r.toInt ≤ 1)) (fun u : Int32 × Int32 × Int32 × Int32 × Int32 × Int32 × (Nat → Int32) => ((uX6 cs adt qt (upd (upd (upd (upd (upd (upd Ft 1 u.1) 2 u.2.1) 3 u.2.2.1) 4 u.2.2.2.1) 5 u.2.2.2.2.1) 6 u.2.2.2.2.2.1) At Bt Dt) ++ ((uX9 cs (qt 0) qtp Ftp Atp Btp Dtp) ++ (uX3 cs adh qh Fh (vA Ah 10 u.2.2.2.2.2.2) Bh Dh))))) A0) args s 0 0 A0) (F0 m 40 ls [.int s40_0]) := by
    intro s40_0 ft1_40 ft2_40 ft3_40 ft4_40 ft5_40 ft6_40 H locs ls hft1_40 hft2_40 hft3_40 hP hD hS hl
    refine lv_istore_n (lv' := [(3, .int s40_0), (0, .ref adt), (1, .ref adh), (2, .int r14)]) hx hb dX6_readDoor_40 rfl hl (by decide) rfl (fun ls hl => ?_)
    refine lv_aload_n hx hb dX6_readDoor_41 rfl (lv_at hl 1 rfl) ?_
    refine getF (v := .int ft5_40) hx hb ht hown hK hP iTX6 0 5 rfl rfl (by decide) fl_RX6_27 rfl dX6_readDoor_42 ?_
    refine lv_if_eq (tgt := 50) hx hb dX6_readDoor_45 (by decide) (fun c25001 => ?_) (fun c25001 => ?_)
    · have zc25001 := eqK rfl (show (0 : Int32).toInt = 0 by decide) c25001
      refine lv_aload_n hx hb dX6_readDoor_50 rfl (lv_at hl 2 rfl) ?_
      refine lv_iload_n hx hb dX6_readDoor_51 rfl (lv_at hl 3 rfl) ?_
      refine lv_iload_n hx hb dX6_readDoor_52 rfl (lv_at hl 0 rfl) ?_
      refine behDw (wr := ((uX6 cs adt qt (upd (upd (upd (upd (upd (upd Ft 1 ft1_40) 2 ft2_40) 3 ft3_40) 4 ft4_40) 5 ft5_40) 6 ft6_40) At Bt Dt) ++ (uX9 cs (qt 0) qtp Ftp Atp Btp Dtp))) (runVD (As := [.int r14, .int s40_0]) (rest := []) ⟨hx, hb, hml, hown, ht⟩ (sX3_openDoor l G cs adh qh Fh Ah Bh Dh hIh r14 s40_0 ) okV_RX6_124 ⟨by decide, by decide⟩ hK hP hD [3, 4, 5, 6, 7, 8, 9, 10] rfl (by decide) rfl 3 rfl rfl hl.1 rfl (Nat.le_of_ble_eq_true rfl) dX6_readDoor_53 ⟨(Nat.le_of_ble_eq_true rfl), (Nat.le_of_ble_eq_true rfl)⟩) hP hD hS hA [3, 4, 5, 6, 7, 8, 9, 10] [0, 1, 2] rfl rfl (by decide) (by decide) (fun u H locs hu hP hD hS => ?_)
      obtain ⟨g25002, rfl⟩ : ∃ z, z = u := ⟨_, rfl⟩
      obtain ⟨hg25002, hr25003⟩ := hu
      have hg25002 : AJ (0) 127 g25002 := hg25002
      have hP : va_P G vwCl ((uX6 cs adt qt (upd (upd (upd (upd (upd (upd Ft 1 ft1_40) 2 ft2_40) 3 ft3_40) 4 ft4_40) 5 ft5_40) 6 ft6_40) At Bt Dt) ++ ((uX9 cs (qt 0) qtp Ftp Atp Btp Dtp) ++ (uX3 cs adh qh Fh (vA Ah 10 g25002) Bh Dh))) H := hP.sub [0, 1, 2, 3, 4, 5, 6, 7, 8, 9, 10] rfl
      have hD : va_D A0 ((uX6 cs adt qt (upd (upd (upd (upd (upd (upd Ft 1 ft1_40) 2 ft2_40) 3 ft3_40) 4 ft4_40) 5 ft5_40) 6 ft6_40) At Bt Dt) ++ ((uX9 cs (qt 0) qtp Ftp Atp Btp Dtp) ++ (uX3 cs adh qh Fh (vA Ah 10 g25002) Bh Dh))) := hD.sub [0, 1, 2, 3, 4, 5, 6, 7, 8, 9, 10] (by decide) rfl
      refine lv_iconst (v := 1) hx hb dX6_readDoor_56 (by decide) ?_
      exact retDz (ft1_40, ft2_40, ft3_40, ft4_40, ft5_40, ft6_40, g25002) hx hb hr hlk hP hD hS dX6_readDoor_57 (rfl) (⟨show (0 : Int) ≤ ft1_40.toInt ∧ ft1_40.toInt ≤ 900 by omega, show (0 : Int) ≤ ft2_40.toInt ∧ ft2_40.toInt ≤ 4 by omega, show (0 : Int) ≤ ft3_40.toInt ∧ ft3_40.toInt ≤ 900 by omega, hg25002, show (0 : Int) ≤ (1 : Int32).toInt ∧ (1 : Int32).toInt ≤ 1 by have kk : (1 : Int32).toInt = 1 := (by decide); omega⟩) (Nat.le_of_ble_eq_true rfl) (Nat.le_of_ble_eq_true rfl)
    · have zc25001 := neK rfl (show (0 : Int32).toInt = 0 by decide) c25001
      refine lv_iconst (v := 0) hx hb dX6_readDoor_48 (by decide) ?_
      exact retDz (ft1_40, ft2_40, ft3_40, ft4_40, ft5_40, ft6_40, (Ah 10)) hx hb hr hlk hP hD hS dX6_readDoor_49 (rfl) (⟨show (0 : Int) ≤ ft1_40.toInt ∧ ft1_40.toInt ≤ 900 by omega, show (0 : Int) ≤ ft2_40.toInt ∧ ft2_40.toInt ≤ 4 by omega, show (0 : Int) ≤ ft3_40.toInt ∧ ft3_40.toInt ≤ 900 by omega, fun j => hIh.2 10 j, show (0 : Int) ≤ (0 : Int32).toInt ∧ (0 : Int32).toInt ≤ 1 by have kk : (0 : Int32).toInt = 0 := (by decide); omega⟩) (Nat.le_of_ble_eq_true rfl) (Nat.le_of_ble_eq_true rfl)
  refine lv_if_ne (tgt := 39) hx hb dX6_readDoor_21 (by decide) (fun c17 => ?_) (fun c17 => ?_)
  · have zc17 := neK rfl (show (0 : Int32).toInt = 0 by decide) c17
    refine lv_iconst (v := (-1)) hx hb dX6_readDoor_39 (by decide) ?_
    exact B40 (-1) x8 x9 x10 x11 x12 x13 H locs ls (by omega) (by omega) (by omega) hP hD hS (lv_sub hl [1, 2, 0] rfl)
  · have zc17 := eqK rfl (show (0 : Int32).toInt = 0 by decide) c17
    refine lv_aload_n hx hb dX6_readDoor_24 rfl (lv_at hl 1 rfl) ?_
    refine lv_iconst (v := 0) hx hb dX6_readDoor_25 (by decide) ?_
    refine lv_aload_n hx hb dX6_readDoor_26 rfl (lv_at hl 2 rfl) ?_
    refine getF (v := .int (Fh 5)) hx hb ht hown hK hP iTX3 3 5 rfl rfl (by decide) fl_RX6_103 rfl dX6_readDoor_27 ?_
    have zf18 : (0 : Int) ≤ (Fh 5).toInt ∧ (Fh 5).toInt ≤ 7 := hIh.1 5
    refine lv_iconst (v := 1) hx hb dX6_readDoor_30 (by decide) ?_
    refine lv_isub hx hb dX6_readDoor_31 ?_
    refine lv_topi (fun v19 ev19 => ?_)
    have tv19 : v19.toInt = (Fh 5).toInt - 1 := by rw [ev19]; exact subT rfl (show (1 : Int32).toInt = 1 by decide) (by omega)
    refine lv_iload_n hx hb dX6_readDoor_32 rfl (lv_at hl 0 rfl) ?_
    refine behDi (wr := (uX3 cs adh qh Fh Ah Bh Dh)) (runVD (As := [.int 0, .int v19, .int r14]) (rest := []) ⟨hx, hb, hml, hown, ht⟩ (sX6_takeNumber l G cs adt qt (upd (upd (upd (upd (upd (upd Ft 1 x8) 2 x9) 3 x10) 4 x11) 5 x12) 6 x13) At Bt Dt (IB_put (k := 6) (IB_put (k := 5) (IB_put (k := 4) (IB_put (k := 3) (IB_put (k := 2) (IB_put (k := 1) hIt (show (0 : Int) ≤ x8.toInt ∧ x8.toInt ≤ 900 by omega)) (show (0 : Int) ≤ x9.toInt ∧ x9.toInt ≤ 4 by omega)) (show (0 : Int) ≤ x10.toInt ∧ x10.toInt ≤ 900 by omega)) (i32b _)) (i32b _)) (i32b _)) qtp Ftp Atp Btp Dtp hItp 0 v19 r14 ) okV_RX6_120 ⟨by decide, by decide⟩ hK hP hD [0, 1, 2] rfl (by decide) rfl 0 rfl rfl hl.1 rfl (Nat.le_of_ble_eq_true rfl) dX6_readDoor_33 ⟨(Nat.le_of_ble_eq_true rfl), (Nat.le_of_ble_eq_true rfl)⟩) hP hD hS hA [0, 1, 2] [3, 4, 5, 6, 7, 8, 9, 10] rfl rfl (by decide) (by decide) (fun r9 u H locs hu hP hD hS => ?_)
    obtain ⟨x20, x21, x22, x23, x24, x25⟩ := u
    have kk27 : (0 : Int32).toInt = 0 := by decide
    obtain ⟨r26, rfl⟩ : ∃ z, z = r9 := ⟨_, rfl⟩
    obtain ⟨hbx20, hbx21, hbx22, hr26⟩ := hu
    have hbx20 : (0 : Int) ≤ x20.toInt ∧ x20.toInt ≤ 900 := hbx20
    have hbx21 : (0 : Int) ≤ x21.toInt ∧ x21.toInt ≤ 4 := hbx21
    have hbx22 : (0 : Int) ≤ x22.toInt ∧ x22.toInt ≤ 900 := hbx22
    have hr26 : TNk r26 ((0 : Int32).toInt) v19.toInt := hr26
    have hP : va_P G vwCl ((uX6 cs adt qt (upd (upd (upd (upd (upd (upd Ft 1 x20) 2 x21) 3 x22) 4 x23) 5 x24) 6 x25) At Bt Dt) ++ ((uX9 cs (qt 0) qtp Ftp Atp Btp Dtp) ++ (uX3 cs adh qh Fh Ah Bh Dh))) H := hP.sub [8, 9, 10, 0, 1, 2, 3, 4, 5, 6, 7] rfl
    have hD : va_D A0 ((uX6 cs adt qt (upd (upd (upd (upd (upd (upd Ft 1 x20) 2 x21) 3 x22) 4 x23) 5 x24) 6 x25) At Bt Dt) ++ ((uX9 cs (qt 0) qtp Ftp Atp Btp Dtp) ++ (uX3 cs adh qh Fh Ah Bh Dh))) := hD.sub [8, 9, 10, 0, 1, 2, 3, 4, 5, 6, 7] (by decide) rfl
    refine lv_goto (tgt := 40) hx hb dX6_readDoor_36 (by decide) ?_
    exact B40 r26 x20 x21 x22 x23 x24 x25 H locs ls (by omega) (by omega) (by omega) hP hD hS (lv_sub hl [1, 2, 0] rfl)

set_option maxRecDepth 100000 in
set_option maxHeartbeats 16000000 in
theorem sX6_readMan (l : Launch) (G : va_G) (cs : Nat → ClassId) (sd : Nat → Nat × Nat) (adt : Nat) (qt : Nat → Nat) (Ft : Nat → Int32) (At : Nat → Nat → Int32) (Bt : Nat → Nat → Int64) (Dt : Int64) (hIt : IX6 Ft At) (qtp : Nat → Nat) (Ftp : Nat → Int32) (Atp : Nat → Nat → Int32) (Btp : Nat → Nat → Int64) (Dtp : Int64) (hItp : IX9 Ftp Atp) (adh : Nat) (qh : Nat → Nat) (Fh : Nat → Int32) (Ah : Nat → Nat → Int32) (Bh : Nat → Nat → Int64) (Dh : Int64) (hIh : IX3 Fh Ah) : ∀ sz : Nat, Met l yX6_readMan (wk yX6_readMan cX6_readMan 4 (some .boolean)) (rmk 6 0 0) (PreDS SRR sd G (TY cs) [.ref adt, .ref adh] ((uX6 cs adt qt Ft At Bt Dt) ++ ((uX9 cs (qt 0) qtp Ftp Atp Btp Dtp) ++ (uX3 cs adh qh Fh Ah Bh Dh))) sz) ((QDi G (fun (r : Int32) (u : Int32 × Int32 × Int32 × Int32 × Int32 × Int32 × Int32 × (Nat → Int32) × (Nat → Int32) × (Nat → Int32)) => ((0 : Int) ≤ u.1.toInt ∧ u.1.toInt ≤ 6) ∧ ((0 : Int) ≤ u.2.1.toInt ∧ u.2.1.toInt ≤ 900) ∧ ((0 : Int) ≤ u.2.2.1.toInt ∧ u.2.2.1.toInt ≤ 4) ∧ ((0 : Int) ≤ u.2.2.2.1.toInt ∧ u.2.2.2.1.toInt ≤ 900) ∧ AJ (0) 63 u.2.2.2.2.2.2.2.2.1 ∧ ((0 : Int) ≤ r.toInt ∧ r.toInt ≤ 1)) (fun u : Int32 × Int32 × Int32 × Int32 × Int32 × Int32 × Int32 × (Nat → Int32) × (Nat → Int32) × (Nat → Int32) => ((uX6 cs adt qt (upd (upd (upd (upd (upd (upd Ft 1 u.2.1) 2 u.2.2.1) 3 u.2.2.2.1) 4 u.2.2.2.2.1) 5 u.2.2.2.2.2.1) 6 u.2.2.2.2.2.2.1) At Bt Dt) ++ ((uX9 cs (qt 0) qtp Ftp Atp Btp Dtp) ++ (uX3 cs adh qh (upd Fh 6 u.1) (vA (vA (vA Ah 11 u.2.2.2.2.2.2.2.1) 12 u.2.2.2.2.2.2.2.2.1) 13 u.2.2.2.2.2.2.2.2.2) Bh Dh))))) (va_A ((uX6 cs adt qt Ft At Bt Dt) ++ ((uX9 cs (qt 0) qtp Ftp Atp Btp Dtp) ++ (uX3 cs adh qh Fh Ah Bh Dh))) sz)) 0 0 (va_A ((uX6 cs adt qt Ft At Bt Dt) ++ ((uX9 cs (qt 0) qtp Ftp Atp Btp Dtp) ++ (uX3 cs adh qh Fh Ah Bh Dh))) sz) := by
  refine mkDS (Qc := (QDi G (fun (r : Int32) (u : Int32 × Int32 × Int32 × Int32 × Int32 × Int32 × Int32 × (Nat → Int32) × (Nat → Int32) × (Nat → Int32)) => ((0 : Int) ≤ u.1.toInt ∧ u.1.toInt ≤ 6) ∧ ((0 : Int) ≤ u.2.1.toInt ∧ u.2.1.toInt ≤ 900) ∧ ((0 : Int) ≤ u.2.2.1.toInt ∧ u.2.2.1.toInt ≤ 4) ∧ ((0 : Int) ≤ u.2.2.2.1.toInt ∧ u.2.2.2.1.toInt ≤ 900) ∧ AJ (0) 63 u.2.2.2.2.2.2.2.2.1 ∧ ((0 : Int) ≤ r.toInt ∧ r.toInt ≤ 1)) (fun u : Int32 × Int32 × Int32 × Int32 × Int32 × Int32 × Int32 × (Nat → Int32) × (Nat → Int32) × (Nat → Int32) => ((uX6 cs adt qt (upd (upd (upd (upd (upd (upd Ft 1 u.2.1) 2 u.2.2.1) 3 u.2.2.2.1) 4 u.2.2.2.2.1) 5 u.2.2.2.2.2.1) 6 u.2.2.2.2.2.2.1) At Bt Dt) ++ ((uX9 cs (qt 0) qtp Ftp Atp Btp Dtp) ++ (uX3 cs adh qh (upd Fh 6 u.1) (vA (vA (vA Ah 11 u.2.2.2.2.2.2.2.1) 12 u.2.2.2.2.2.2.2.2.1) 13 u.2.2.2.2.2.2.2.2.2) Bh Dh)))))) (by decide) (by simp [lg_sl, Value.category]) ?_
  intro p e s m args below meth c ls A0 hx hb hml hr hlk hown hmn ht hK hP hD hS hA hQ hl
  have hl : lv_has ls 4 [(0, .ref adt), (1, .ref adh)] := hl
  refine lv_aload_n hx hb dX6_readMan_0 rfl (lv_at hl 1 rfl) ?_
  refine getF (v := .int (Fh 6)) hx hb ht hown hK hP iTX3 3 6 rfl rfl (by decide) fl_RX6_128 rfl dX6_readMan_1 ?_
  have zf1 : (0 : Int) ≤ (Fh 6).toInt ∧ (Fh 6).toInt ≤ 6 := hIh.1 6
  refine lv_bipush (v := 6) hx hb dX6_readMan_4 (by decide) ?_
  refine lv_icmp_lt (tgt := 15) hx hb dX6_readMan_6 (by decide) (fun c2 => ?_) (fun c2 => ?_)
  · have zc2 := ltK rfl (show (6 : Int32).toInt = 6 by decide) c2
    refine lv_aload_n hx hb dX6_readMan_15 rfl (lv_at hl 0 rfl) ?_
    refine behDw (wr := (uX3 cs adh qh Fh Ah Bh Dh)) (runVD (As := []) (rest := []) ⟨hx, hb, hml, hown, ht⟩ (sX6_advance l G cs adt qt Ft At Bt Dt hIt qtp Ftp Atp Btp Dtp hItp ) okV_RX6_33 ⟨by decide, by decide⟩ hK hP hD [0, 1, 2] rfl (by decide) rfl 0 rfl rfl hl.1 rfl (Nat.le_of_ble_eq_true rfl) dX6_readMan_16 ⟨(Nat.le_of_ble_eq_true rfl), (Nat.le_of_ble_eq_true rfl)⟩) hP hD hS hA [0, 1, 2] [3, 4, 5, 6, 7, 8, 9, 10] rfl rfl (by decide) (by decide) (fun u H locs hu hP hD hS => ?_)
    obtain ⟨x3, x4, x5, x6⟩ := u
    obtain ⟨hbx3, hbx4, hbx5, hr7⟩ := hu
    have hbx3 : (0 : Int) ≤ x3.toInt ∧ x3.toInt ≤ 900 := hbx3
    have hbx4 : (0 : Int) ≤ x4.toInt ∧ x4.toInt ≤ 4 := hbx4
    have hbx5 : (0 : Int) ≤ x5.toInt ∧ x5.toInt ≤ 900 := hbx5
    have hP : va_P G vwCl ((uX6 cs adt qt (upd (upd (upd (upd Ft 1 x3) 2 x4) 3 x5) 4 x6) At Bt Dt) ++ ((uX9 cs (qt 0) qtp Ftp Atp Btp Dtp) ++ (uX3 cs adh qh Fh Ah Bh Dh))) H := hP.sub [8, 9, 10, 0, 1, 2, 3, 4, 5, 6, 7] rfl
    have hD : va_D A0 ((uX6 cs adt qt (upd (upd (upd (upd Ft 1 x3) 2 x4) 3 x5) 4 x6) At Bt Dt) ++ ((uX9 cs (qt 0) qtp Ftp Atp Btp Dtp) ++ (uX3 cs adh qh Fh Ah Bh Dh))) := hD.sub [8, 9, 10, 0, 1, 2, 3, 4, 5, 6, 7] (by decide) rfl
    refine lv_aload_n hx hb dX6_readMan_19 rfl (lv_at hl 0 rfl) ?_
    refine va_ldcS hx hb hown (hQ.2.2.2 _ (List.mem_of_getElem? (i := 11) rfl)) dX6_readMan_20 ?_
    refine lv_iconst (v := 1) hx hb dX6_readMan_22 (by decide) ?_
    refine lv_bipush (v := 99) hx hb dX6_readMan_23 (by decide) ?_
    refine behDi (wr := (uX3 cs adh qh Fh Ah Bh Dh)) (runVDS (As := [.ref ((sd 11).1), .int 1, .int 99]) (rest := []) ⟨hx, hb, hml, hown, ht⟩ (sX6_takeNamed l G cs sd adt qt (upd (upd (upd (upd Ft 1 x3) 2 x4) 3 x5) 4 x6) At Bt Dt (IB_put (k := 4) (IB_put (k := 3) (IB_put (k := 2) (IB_put (k := 1) hIt (show (0 : Int) ≤ x3.toInt ∧ x3.toInt ≤ 900 by omega)) (show (0 : Int) ≤ x4.toInt ∧ x4.toInt ≤ 4 by omega)) (show (0 : Int) ≤ x5.toInt ∧ x5.toInt ≤ 900 by omega)) (i32b _)) qtp Ftp Atp Btp Dtp hItp 11 (by decide) 1 99 ) okV_RX6_85 ⟨by decide, by decide⟩ hK hP hD hQ hS hA [0, 1, 2] rfl (by decide) rfl 0 rfl rfl hl.1 rfl (Nat.le_of_ble_eq_true rfl) dX6_readMan_25 ⟨(Nat.le_of_ble_eq_true rfl), (Nat.le_of_ble_eq_true rfl)⟩) hP hD hS hA [0, 1, 2] [3, 4, 5, 6, 7, 8, 9, 10] rfl rfl (by decide) (by decide) (fun r9 u H locs hu hP hD hS => ?_)
    obtain ⟨x8, x9, x10, x11, x12, x13⟩ := u
    have kk15 : (1 : Int32).toInt = 1 := by decide
    have kk16 : (99 : Int32).toInt = 99 := by decide
    obtain ⟨r14, rfl⟩ : ∃ z, z = r9 := ⟨_, rfl⟩
    obtain ⟨hbx8, hbx9, hbx10, hr14⟩ := hu
    have hbx8 : (0 : Int) ≤ x8.toInt ∧ x8.toInt ≤ 900 := hbx8
    have hbx9 : (0 : Int) ≤ x9.toInt ∧ x9.toInt ≤ 4 := hbx9
    have hbx10 : (0 : Int) ≤ x10.toInt ∧ x10.toInt ≤ 900 := hbx10
    have hr14 : TNk r14 ((1 : Int32).toInt) ((99 : Int32).toInt) := hr14
    have hP : va_P G vwCl ((uX6 cs adt qt (upd (upd (upd (upd (upd (upd Ft 1 x8) 2 x9) 3 x10) 4 x11) 5 x12) 6 x13) At Bt Dt) ++ ((uX9 cs (qt 0) qtp Ftp Atp Btp Dtp) ++ (uX3 cs adh qh Fh Ah Bh Dh))) H := hP.sub [8, 9, 10, 0, 1, 2, 3, 4, 5, 6, 7] rfl
    have hD : va_D A0 ((uX6 cs adt qt (upd (upd (upd (upd (upd (upd Ft 1 x8) 2 x9) 3 x10) 4 x11) 5 x12) 6 x13) At Bt Dt) ++ ((uX9 cs (qt 0) qtp Ftp Atp Btp Dtp) ++ (uX3 cs adh qh Fh Ah Bh Dh))) := hD.sub [8, 9, 10, 0, 1, 2, 3, 4, 5, 6, 7] (by decide) rfl
    refine lv_istore_n (lv' := [(2, .int r14), (0, .ref adt), (1, .ref adh)]) hx hb dX6_readMan_28 rfl hl (by decide) rfl (fun ls hl => ?_)
    refine lv_iconst (v := 0) hx hb dX6_readMan_29 (by decide) ?_
    refine lv_istore_n (lv' := [(3, .int 0), (2, .int r14), (0, .ref adt), (1, .ref adh)]) hx hb dX6_readMan_30 rfl hl (by decide) rfl (fun ls hl => ?_)
    refine lv_aload_n hx hb dX6_readMan_31 rfl (lv_at hl 2 rfl) ?_
    refine getF (v := .int x12) hx hb ht hown hK hP iTX6 0 5 rfl rfl (by decide) fl_RX6_27 rfl dX6_readMan_32 ?_
    have B56 : ∀ (x56_3 : Int32) (ft1_56 : Int32) (ft2_56 : Int32) (ft3_56 : Int32) (ft4_56 : Int32) (ft5_56 : Int32) (ft6_56 : Int32) (H : Heap) (locs : List Loc) (ls : Array Slot), (0 : Int) ≤ x56_3.toInt ∧ x56_3.toInt ≤ 63 → (0 : Int) ≤ ft1_56.toInt ∧ ft1_56.toInt ≤ 900 → (0 : Int) ≤ ft2_56.toInt ∧ ft2_56.toInt ≤ 4 → (0 : Int) ≤ ft3_56.toInt ∧ ft3_56.toInt ≤ 900 → va_P G vwCl ((uX6 cs adt qt (upd (upd (upd (upd (upd (upd Ft 1 ft1_56) 2 ft2_56) 3 ft3_56) 4 ft4_56) 5 ft5_56) 6 ft6_56) At Bt Dt) ++ ((uX9 cs (qt 0) qtp Ftp Atp Btp Dtp) ++ (uX3 cs adh qh Fh Ah Bh Dh))) H → va_D A0 ((uX6 cs adt qt (upd (upd (upd (upd (upd (upd Ft 1 ft1_56) 2 ft2_56) 3 ft3_56) 4 ft4_56) 5 ft5_56) 6 ft6_56) At Bt Dt) ++ ((uX9 cs (qt 0) qtp Ftp Atp Btp Dtp) ++ (uX3 cs adh qh Fh Ah Bh Dh))) → va_S A0 s.heap H locs → lv_has ls 4 [(0, .ref adt), (1, .ref adh), (2, .int r14), (3, .int x56_3)] → W p l e (rmk 6 0 0) s m args below meth c H locs 0 0 (MQ below ((QDi G (fun (r : Int32) (u : Int32 × Int32 × Int32 × Int32 × Int32 × Int32 × Int32 × (Nat → Int32) × (Nat → Int32) × (Nat → Int32)) => ((0 : Int) ≤ u.1.toInt ∧ u.1.toInt ≤ 6) ∧ ((0 : Int) ≤ u.2.1.toInt ∧ u.2.1.toInt ≤ 900) ∧ ((0 : Int) ≤ u.2.2.1.toInt ∧ u.2.2.1.toInt ≤ 4) ∧ ((0 : Int) ≤ u.2.2.2.1.toInt ∧ u.2.2.2.1.toInt ≤ 900) ∧ AJ (0) 63 u.2.2.2.2.2.2.2.2.1 ∧ ((0 : Int) ≤ r.toInt ∧ r.toInt ≤ 1)) (fun u : Int32 × Int32 × Int32 × Int32 × Int32 × Int32 × Int32 × (Nat → Int32) × (Nat → Int32) × (Nat → Int32) => ((uX6 cs adt qt (upd (upd (upd (upd (upd (upd Ft 1 u.2.1) 2 u.2.2.1) 3 u.2.2.2.1) 4 u.2.2.2.2.1) 5 u.2.2.2.2.2.1) 6 u.2.2.2.2.2.2.1) At Bt Dt) ++ ((uX9 cs (qt 0) qtp Ftp Atp Btp Dtp) ++ (uX3 cs adh qh (upd Fh 6 u.1) (vA (vA (vA Ah 11 u.2.2.2.2.2.2.2.1) 12 u.2.2.2.2.2.2.2.2.1) 13 u.2.2.2.2.2.2.2.2.2) Bh Dh))))) A0) args s 0 0 A0) (F0 m 56 ls []) := by
      intro x56_3 ft1_56 ft2_56 ft3_56 ft4_56 ft5_56 ft6_56 H locs ls hx56_3 hft1_56 hft2_56 hft3_56 hP hD hS hl
      refine lv_aload_n hx hb dX6_readMan_56 rfl (lv_at hl 0 rfl) ?_
      refine getF (v := .int ft5_56) hx hb ht hown hK hP iTX6 0 5 rfl rfl (by decide) fl_RX6_27 rfl dX6_readMan_57 ?_
      refine lv_if_eq (tgt := 65) hx hb dX6_readMan_60 (by decide) (fun c31001 => ?_) (fun c31001 => ?_)
      · have zc31001 := eqK rfl (show (0 : Int32).toInt = 0 by decide) c31001
        refine lv_aload_n hx hb dX6_readMan_65 rfl (lv_at hl 1 rfl) ?_
        refine lv_iload_n hx hb dX6_readMan_66 rfl (lv_at hl 2 rfl) ?_
        refine lv_iload_n hx hb dX6_readMan_67 rfl (lv_at hl 3 rfl) ?_
        refine behDw (wr := ((uX6 cs adt qt (upd (upd (upd (upd (upd (upd Ft 1 ft1_56) 2 ft2_56) 3 ft3_56) 4 ft4_56) 5 ft5_56) 6 ft6_56) At Bt Dt) ++ (uX9 cs (qt 0) qtp Ftp Atp Btp Dtp))) (runVD (As := [.int r14, .int x56_3]) (rest := []) ⟨hx, hb, hml, hown, ht⟩ (sX3_addMan l G cs adh qh Fh Ah Bh Dh hIh r14 x56_3 (by omega)) okV_RX6_139 ⟨by decide, by decide⟩ hK hP hD [3, 4, 5, 6, 7, 8, 9, 10] rfl (by decide) rfl 3 rfl rfl hl.1 rfl (Nat.le_of_ble_eq_true rfl) dX6_readMan_68 ⟨(Nat.le_of_ble_eq_true rfl), (Nat.le_of_ble_eq_true rfl)⟩) hP hD hS hA [3, 4, 5, 6, 7, 8, 9, 10] [0, 1, 2] rfl rfl (by decide) (by decide) (fun u H locs hu hP hD hS => ?_)
        obtain ⟨x31002, g31003, g31004, g31005⟩ := u
        obtain ⟨hbx31002, hg31004, hr31006⟩ := hu
        have hbx31002 : (0 : Int) ≤ x31002.toInt ∧ x31002.toInt ≤ 6 := hbx31002
        have hg31004 : AJ (0) 63 g31004 := hg31004
        have hP : va_P G vwCl ((uX6 cs adt qt (upd (upd (upd (upd (upd (upd Ft 1 ft1_56) 2 ft2_56) 3 ft3_56) 4 ft4_56) 5 ft5_56) 6 ft6_56) At Bt Dt) ++ ((uX9 cs (qt 0) qtp Ftp Atp Btp Dtp) ++ (uX3 cs adh qh (upd Fh 6 x31002) (vA (vA (vA Ah 11 g31003) 12 g31004) 13 g31005) Bh Dh))) H := hP.sub [0, 1, 2, 3, 4, 5, 6, 7, 8, 9, 10] rfl
        have hD : va_D A0 ((uX6 cs adt qt (upd (upd (upd (upd (upd (upd Ft 1 ft1_56) 2 ft2_56) 3 ft3_56) 4 ft4_56) 5 ft5_56) 6 ft6_56) At Bt Dt) ++ ((uX9 cs (qt 0) qtp Ftp Atp Btp Dtp) ++ (uX3 cs adh qh (upd Fh 6 x31002) (vA (vA (vA Ah 11 g31003) 12 g31004) 13 g31005) Bh Dh))) := hD.sub [0, 1, 2, 3, 4, 5, 6, 7, 8, 9, 10] (by decide) rfl
        refine lv_iconst (v := 1) hx hb dX6_readMan_71 (by decide) ?_
        exact retDz (x31002, ft1_56, ft2_56, ft3_56, ft4_56, ft5_56, ft6_56, g31003, g31004, g31005) hx hb hr hlk hP hD hS dX6_readMan_72 (rfl) (⟨show (0 : Int) ≤ x31002.toInt ∧ x31002.toInt ≤ 6 by omega, show (0 : Int) ≤ ft1_56.toInt ∧ ft1_56.toInt ≤ 900 by omega, show (0 : Int) ≤ ft2_56.toInt ∧ ft2_56.toInt ≤ 4 by omega, show (0 : Int) ≤ ft3_56.toInt ∧ ft3_56.toInt ≤ 900 by omega, hg31004, show (0 : Int) ≤ (1 : Int32).toInt ∧ (1 : Int32).toInt ≤ 1 by have kk : (1 : Int32).toInt = 1 := (by decide); omega⟩) (Nat.le_of_ble_eq_true rfl) (Nat.le_of_ble_eq_true rfl)
      · have zc31001 := neK rfl (show (0 : Int32).toInt = 0 by decide) c31001
        refine lv_iconst (v := 0) hx hb dX6_readMan_63 (by decide) ?_
        exact retDz ((Fh 6), ft1_56, ft2_56, ft3_56, ft4_56, ft5_56, ft6_56, (Ah 11), (Ah 12), (Ah 13)) hx hb hr hlk hP hD hS dX6_readMan_64 (rfl) (⟨hIh.1 6, show (0 : Int) ≤ ft1_56.toInt ∧ ft1_56.toInt ≤ 900 by omega, show (0 : Int) ≤ ft2_56.toInt ∧ ft2_56.toInt ≤ 4 by omega, show (0 : Int) ≤ ft3_56.toInt ∧ ft3_56.toInt ≤ 900 by omega, fun j => hIh.2 12 j, show (0 : Int) ≤ (0 : Int32).toInt ∧ (0 : Int32).toInt ≤ 1 by have kk : (0 : Int32).toInt = 0 := (by decide); omega⟩) (Nat.le_of_ble_eq_true rfl) (Nat.le_of_ble_eq_true rfl)
    refine lv_if_ne (tgt := 56) hx hb dX6_readMan_35 (by decide) (fun c17 => ?_) (fun c17 => ?_)
    · have zc17 := neK rfl (show (0 : Int32).toInt = 0 by decide) c17
      exact B56 0 x8 x9 x10 x11 x12 x13 H locs ls (by decide) (by omega) (by omega) (by omega) hP hD hS (lv_sub hl [2, 3, 1, 0] rfl)
    · have zc17 := eqK rfl (show (0 : Int32).toInt = 0 by decide) c17
      refine lv_aload_n hx hb dX6_readMan_38 rfl (lv_at hl 2 rfl) ?_
      refine va_ldcS hx hb hown (hQ.2.2.2 _ (List.mem_of_getElem? (i := 12) rfl)) dX6_readMan_39 ?_
      refine behR (runVPS (As := [.ref ((sd 12).1)]) (rest := []) ⟨hx, hb, hml, hown, ht⟩ (sX6_isWord l G cs sd adt qt (upd (upd (upd (upd (upd (upd Ft 1 x8) 2 x9) 3 x10) 4 x11) 5 x12) 6 x13) At Bt Dt (IB_put (k := 6) (IB_put (k := 5) (IB_put (k := 4) (IB_put (k := 3) (IB_put (k := 2) (IB_put (k := 1) hIt (show (0 : Int) ≤ x8.toInt ∧ x8.toInt ≤ 900 by omega)) (show (0 : Int) ≤ x9.toInt ∧ x9.toInt ≤ 4 by omega)) (show (0 : Int) ≤ x10.toInt ∧ x10.toInt ≤ 900 by omega)) (i32b _)) (i32b _)) (i32b _)) qtp Ftp Atp Btp Dtp hItp 12 (by decide) ) okV_RX6_48 ⟨by decide, by decide⟩ hK hP hQ hS hA [0, 1, 2] rfl 0 rfl rfl hl.1 rfl (Nat.le_of_ble_eq_true rfl) dX6_readMan_41 ⟨by decide, by decide⟩) hP hS hA (fun r18 H locs hr18 hP hS => ?_)
      have hr18 : (0 : Int) ≤ r18.toInt ∧ r18.toInt ≤ 1 := hr18
      refine lv_if_eq (tgt := 56) hx hb dX6_readMan_44 (by decide) (fun c19 => ?_) (fun c19 => ?_)
      · have zc19 := eqK rfl (show (0 : Int32).toInt = 0 by decide) c19
        exact B56 0 x8 x9 x10 x11 x12 x13 H locs ls (by decide) (by omega) (by omega) (by omega) hP hD hS (lv_sub hl [2, 3, 1, 0] rfl)
      · have zc19 := neK rfl (show (0 : Int32).toInt = 0 by decide) c19
        refine lv_aload_n hx hb dX6_readMan_47 rfl (lv_at hl 2 rfl) ?_
        refine behDw (wr := (uX3 cs adh qh Fh Ah Bh Dh)) (runVD (As := []) (rest := []) ⟨hx, hb, hml, hown, ht⟩ (sX6_advance l G cs adt qt (upd (upd (upd (upd (upd (upd Ft 1 x8) 2 x9) 3 x10) 4 x11) 5 x12) 6 x13) At Bt Dt (IB_put (k := 6) (IB_put (k := 5) (IB_put (k := 4) (IB_put (k := 3) (IB_put (k := 2) (IB_put (k := 1) hIt (show (0 : Int) ≤ x8.toInt ∧ x8.toInt ≤ 900 by omega)) (show (0 : Int) ≤ x9.toInt ∧ x9.toInt ≤ 4 by omega)) (show (0 : Int) ≤ x10.toInt ∧ x10.toInt ≤ 900 by omega)) (i32b _)) (i32b _)) (i32b _)) qtp Ftp Atp Btp Dtp hItp ) okV_RX6_33 ⟨by decide, by decide⟩ hK hP hD [0, 1, 2] rfl (by decide) rfl 0 rfl rfl hl.1 rfl (Nat.le_of_ble_eq_true rfl) dX6_readMan_48 ⟨(Nat.le_of_ble_eq_true rfl), (Nat.le_of_ble_eq_true rfl)⟩) hP hD hS hA [0, 1, 2] [3, 4, 5, 6, 7, 8, 9, 10] rfl rfl (by decide) (by decide) (fun u H locs hu hP hD hS => ?_)
        obtain ⟨x20, x21, x22, x23⟩ := u
        obtain ⟨hbx20, hbx21, hbx22, hr24⟩ := hu
        have hbx20 : (0 : Int) ≤ x20.toInt ∧ x20.toInt ≤ 900 := hbx20
        have hbx21 : (0 : Int) ≤ x21.toInt ∧ x21.toInt ≤ 4 := hbx21
        have hbx22 : (0 : Int) ≤ x22.toInt ∧ x22.toInt ≤ 900 := hbx22
        have hP : va_P G vwCl ((uX6 cs adt qt (upd (upd (upd (upd (upd (upd Ft 1 x20) 2 x21) 3 x22) 4 x23) 5 x12) 6 x13) At Bt Dt) ++ ((uX9 cs (qt 0) qtp Ftp Atp Btp Dtp) ++ (uX3 cs adh qh Fh Ah Bh Dh))) H := hP.sub [8, 9, 10, 0, 1, 2, 3, 4, 5, 6, 7] rfl
        have hD : va_D A0 ((uX6 cs adt qt (upd (upd (upd (upd (upd (upd Ft 1 x20) 2 x21) 3 x22) 4 x23) 5 x12) 6 x13) At Bt Dt) ++ ((uX9 cs (qt 0) qtp Ftp Atp Btp Dtp) ++ (uX3 cs adh qh Fh Ah Bh Dh))) := hD.sub [8, 9, 10, 0, 1, 2, 3, 4, 5, 6, 7] (by decide) rfl
        refine lv_aload_n hx hb dX6_readMan_51 rfl (lv_at hl 2 rfl) ?_
        refine behDi (wr := (uX3 cs adh qh Fh Ah Bh Dh)) (runVD (As := []) (rest := []) ⟨hx, hb, hml, hown, ht⟩ (sX6_takeQuestions l G cs adt qt (upd (upd (upd (upd (upd (upd Ft 1 x20) 2 x21) 3 x22) 4 x23) 5 x12) 6 x13) At Bt Dt (IB_put (k := 6) (IB_put (k := 5) (IB_put (k := 4) (IB_put (k := 3) (IB_put (k := 2) (IB_put (k := 1) hIt (show (0 : Int) ≤ x20.toInt ∧ x20.toInt ≤ 900 by omega)) (show (0 : Int) ≤ x21.toInt ∧ x21.toInt ≤ 4 by omega)) (show (0 : Int) ≤ x22.toInt ∧ x22.toInt ≤ 900 by omega)) (i32b _)) (i32b _)) (i32b _)) qtp Ftp Atp Btp Dtp hItp ) okV_RX6_135 ⟨by decide, by decide⟩ hK hP hD [0, 1, 2] rfl (by decide) rfl 0 rfl rfl hl.1 rfl (Nat.le_of_ble_eq_true rfl) dX6_readMan_52 ⟨(Nat.le_of_ble_eq_true rfl), (Nat.le_of_ble_eq_true rfl)⟩) hP hD hS hA [0, 1, 2] [3, 4, 5, 6, 7, 8, 9, 10] rfl rfl (by decide) (by decide) (fun r9 u H locs hu hP hD hS => ?_)
        obtain ⟨x25, x26, x27, x28, x29, x30⟩ := u
        obtain ⟨r31, rfl⟩ : ∃ z, z = r9 := ⟨_, rfl⟩
        obtain ⟨hbx25, hbx26, hbx27, hr31⟩ := hu
        have hbx25 : (0 : Int) ≤ x25.toInt ∧ x25.toInt ≤ 900 := hbx25
        have hbx26 : (0 : Int) ≤ x26.toInt ∧ x26.toInt ≤ 4 := hbx26
        have hbx27 : (0 : Int) ≤ x27.toInt ∧ x27.toInt ≤ 900 := hbx27
        have hr31 : (0 : Int) ≤ r31.toInt ∧ r31.toInt ≤ 63 := hr31
        have hP : va_P G vwCl ((uX6 cs adt qt (upd (upd (upd (upd (upd (upd Ft 1 x25) 2 x26) 3 x27) 4 x28) 5 x29) 6 x30) At Bt Dt) ++ ((uX9 cs (qt 0) qtp Ftp Atp Btp Dtp) ++ (uX3 cs adh qh Fh Ah Bh Dh))) H := hP.sub [8, 9, 10, 0, 1, 2, 3, 4, 5, 6, 7] rfl
        have hD : va_D A0 ((uX6 cs adt qt (upd (upd (upd (upd (upd (upd Ft 1 x25) 2 x26) 3 x27) 4 x28) 5 x29) 6 x30) At Bt Dt) ++ ((uX9 cs (qt 0) qtp Ftp Atp Btp Dtp) ++ (uX3 cs adh qh Fh Ah Bh Dh))) := hD.sub [8, 9, 10, 0, 1, 2, 3, 4, 5, 6, 7] (by decide) rfl
        refine lv_istore_n (lv' := [(3, .int r31), (2, .int r14), (0, .ref adt), (1, .ref adh)]) hx hb dX6_readMan_55 rfl hl (by decide) rfl (fun ls hl => ?_)
        exact B56 r31 x25 x26 x27 x28 x29 x30 H locs ls (by omega) (by omega) (by omega) (by omega) hP hD hS (lv_sub hl [2, 3, 1, 0] rfl)
  · have zc2 := nltK rfl (show (6 : Int32).toInt = 6 by decide) c2
    refine lv_aload_n hx hb dX6_readMan_9 rfl (lv_at hl 0 rfl) ?_
    refine lv_iconst (v := 3) hx hb dX6_readMan_10 (by decide) ?_
    refine behDi (wr := (uX3 cs adh qh Fh Ah Bh Dh)) (runVD (As := [.int 3]) (rest := []) ⟨hx, hb, hml, hown, ht⟩ (sX6_fail l G cs adt qt Ft At Bt Dt hIt qtp Ftp Atp Btp Dtp hItp 3 ) okV_RX6_52 ⟨by decide, by decide⟩ hK hP hD [0, 1, 2] rfl (by decide) rfl 0 rfl rfl hl.1 rfl (Nat.le_of_ble_eq_true rfl) dX6_readMan_11 ⟨(Nat.le_of_ble_eq_true rfl), (Nat.le_of_ble_eq_true rfl)⟩) hP hD hS hA [0, 1, 2] [3, 4, 5, 6, 7, 8, 9, 10] rfl rfl (by decide) (by decide) (fun r9 u H locs hu hP hD hS => ?_)
    obtain ⟨x32, x33⟩ := u
    have kk35 : (3 : Int32).toInt = 3 := by decide
    obtain ⟨r34, rfl⟩ : ∃ z, z = r9 := ⟨_, rfl⟩
    have hr34 := hu
    have hr34 : r34.toInt = 0 := hr34
    have hP : va_P G vwCl ((uX6 cs adt qt (upd (upd Ft 5 x32) 6 x33) At Bt Dt) ++ ((uX9 cs (qt 0) qtp Ftp Atp Btp Dtp) ++ (uX3 cs adh qh Fh Ah Bh Dh))) H := hP.sub [8, 9, 10, 0, 1, 2, 3, 4, 5, 6, 7] rfl
    have hD : va_D A0 ((uX6 cs adt qt (upd (upd Ft 5 x32) 6 x33) At Bt Dt) ++ ((uX9 cs (qt 0) qtp Ftp Atp Btp Dtp) ++ (uX3 cs adh qh Fh Ah Bh Dh))) := hD.sub [8, 9, 10, 0, 1, 2, 3, 4, 5, 6, 7] (by decide) rfl
    exact retDz ((Fh 6), (Ft 1), (Ft 2), (Ft 3), (Ft 4), x32, x33, (Ah 11), (Ah 12), (Ah 13)) hx hb hr hlk hP hD hS dX6_readMan_14 (narZ (by omega)) (⟨hIh.1 6, hIt.1 1, hIt.1 2, hIt.1 3, fun j => hIh.2 12 j, show (0 : Int) ≤ r34.toInt ∧ r34.toInt ≤ 1 by omega⟩) (Nat.le_of_ble_eq_true rfl) (Nat.le_of_ble_eq_true rfl)

set_option maxRecDepth 100000 in
set_option maxHeartbeats 16000000 in
theorem sX6_readSlate (l : Launch) (G : va_G) (cs : Nat → ClassId) (sd : Nat → Nat × Nat) (adt : Nat) (qt : Nat → Nat) (Ft : Nat → Int32) (At : Nat → Nat → Int32) (Bt : Nat → Nat → Int64) (Dt : Int64) (hIt : IX6 Ft At) (qtp : Nat → Nat) (Ftp : Nat → Int32) (Atp : Nat → Nat → Int32) (Btp : Nat → Nat → Int64) (Dtp : Int64) (hItp : IX9 Ftp Atp) (adh : Nat) (qh : Nat → Nat) (Fh : Nat → Int32) (Ah : Nat → Nat → Int32) (Bh : Nat → Nat → Int64) (Dh : Int64) (hIh : IX3 Fh Ah) : ∀ sz : Nat, Met l yX6_readSlate (wk yX6_readSlate cX6_readSlate 5 (some .boolean)) (rmk 6 0 0) (PreDS SRR sd G (TY cs) [.ref adt, .ref adh] ((uX6 cs adt qt Ft At Bt Dt) ++ ((uX9 cs (qt 0) qtp Ftp Atp Btp Dtp) ++ (uX3 cs adh qh Fh Ah Bh Dh))) sz) ((QDi G (fun (r : Int32) (u : Int32 × Int32 × Int32 × Int32 × Int32 × Int32 × (Nat → Int32)) => ((0 : Int) ≤ u.1.toInt ∧ u.1.toInt ≤ 900) ∧ ((0 : Int) ≤ u.2.1.toInt ∧ u.2.1.toInt ≤ 4) ∧ ((0 : Int) ≤ u.2.2.1.toInt ∧ u.2.2.1.toInt ≤ 900) ∧ ((0 : Int) ≤ r.toInt ∧ r.toInt ≤ 1)) (fun u : Int32 × Int32 × Int32 × Int32 × Int32 × Int32 × (Nat → Int32) => ((uX6 cs adt qt (upd (upd (upd (upd (upd (upd Ft 1 u.1) 2 u.2.1) 3 u.2.2.1) 4 u.2.2.2.1) 5 u.2.2.2.2.1) 6 u.2.2.2.2.2.1) At Bt Dt) ++ ((uX9 cs (qt 0) qtp Ftp Atp Btp Dtp) ++ (uX3 cs adh qh Fh (vA Ah 13 u.2.2.2.2.2.2) Bh Dh))))) (va_A ((uX6 cs adt qt Ft At Bt Dt) ++ ((uX9 cs (qt 0) qtp Ftp Atp Btp Dtp) ++ (uX3 cs adh qh Fh Ah Bh Dh))) sz)) 0 0 (va_A ((uX6 cs adt qt Ft At Bt Dt) ++ ((uX9 cs (qt 0) qtp Ftp Atp Btp Dtp) ++ (uX3 cs adh qh Fh Ah Bh Dh))) sz) := by
  refine mkDS (Qc := (QDi G (fun (r : Int32) (u : Int32 × Int32 × Int32 × Int32 × Int32 × Int32 × (Nat → Int32)) => ((0 : Int) ≤ u.1.toInt ∧ u.1.toInt ≤ 900) ∧ ((0 : Int) ≤ u.2.1.toInt ∧ u.2.1.toInt ≤ 4) ∧ ((0 : Int) ≤ u.2.2.1.toInt ∧ u.2.2.1.toInt ≤ 900) ∧ ((0 : Int) ≤ r.toInt ∧ r.toInt ≤ 1)) (fun u : Int32 × Int32 × Int32 × Int32 × Int32 × Int32 × (Nat → Int32) => ((uX6 cs adt qt (upd (upd (upd (upd (upd (upd Ft 1 u.1) 2 u.2.1) 3 u.2.2.1) 4 u.2.2.2.1) 5 u.2.2.2.2.1) 6 u.2.2.2.2.2.1) At Bt Dt) ++ ((uX9 cs (qt 0) qtp Ftp Atp Btp Dtp) ++ (uX3 cs adh qh Fh (vA Ah 13 u.2.2.2.2.2.2) Bh Dh)))))) (by decide) (by simp [lg_sl, Value.category]) ?_
  intro p e s m args below meth c ls A0 hx hb hml hr hlk hown hmn ht hK hP hD hS hA hQ hl
  have hl : lv_has ls 5 [(0, .ref adt), (1, .ref adh)] := hl
  refine lv_aload_n hx hb dX6_readSlate_0 rfl (lv_at hl 0 rfl) ?_
  refine behDw (wr := (uX3 cs adh qh Fh Ah Bh Dh)) (runVD (As := []) (rest := []) ⟨hx, hb, hml, hown, ht⟩ (sX6_advance l G cs adt qt Ft At Bt Dt hIt qtp Ftp Atp Btp Dtp hItp ) okV_RX6_33 ⟨by decide, by decide⟩ hK hP hD [0, 1, 2] rfl (by decide) rfl 0 rfl rfl hl.1 rfl (Nat.le_of_ble_eq_true rfl) dX6_readSlate_1 ⟨(Nat.le_of_ble_eq_true rfl), (Nat.le_of_ble_eq_true rfl)⟩) hP hD hS hA [0, 1, 2] [3, 4, 5, 6, 7, 8, 9, 10] rfl rfl (by decide) (by decide) (fun u H locs hu hP hD hS => ?_)
  obtain ⟨x1, x2, x3, x4⟩ := u
  obtain ⟨hbx1, hbx2, hbx3, hr5⟩ := hu
  have hbx1 : (0 : Int) ≤ x1.toInt ∧ x1.toInt ≤ 900 := hbx1
  have hbx2 : (0 : Int) ≤ x2.toInt ∧ x2.toInt ≤ 4 := hbx2
  have hbx3 : (0 : Int) ≤ x3.toInt ∧ x3.toInt ≤ 900 := hbx3
  have hP : va_P G vwCl ((uX6 cs adt qt (upd (upd (upd (upd Ft 1 x1) 2 x2) 3 x3) 4 x4) At Bt Dt) ++ ((uX9 cs (qt 0) qtp Ftp Atp Btp Dtp) ++ (uX3 cs adh qh Fh Ah Bh Dh))) H := hP.sub [8, 9, 10, 0, 1, 2, 3, 4, 5, 6, 7] rfl
  have hD : va_D A0 ((uX6 cs adt qt (upd (upd (upd (upd Ft 1 x1) 2 x2) 3 x3) 4 x4) At Bt Dt) ++ ((uX9 cs (qt 0) qtp Ftp Atp Btp Dtp) ++ (uX3 cs adh qh Fh Ah Bh Dh))) := hD.sub [8, 9, 10, 0, 1, 2, 3, 4, 5, 6, 7] (by decide) rfl
  refine lv_aload_n hx hb dX6_readSlate_4 rfl (lv_at hl 0 rfl) ?_
  refine lv_iconst (v := 0) hx hb dX6_readSlate_5 (by decide) ?_
  refine lv_aload_n hx hb dX6_readSlate_6 rfl (lv_at hl 1 rfl) ?_
  refine getF (v := .int (Fh 6)) hx hb ht hown hK hP iTX3 3 6 rfl rfl (by decide) fl_RX6_128 rfl dX6_readSlate_7 ?_
  have zf6 : (0 : Int) ≤ (Fh 6).toInt ∧ (Fh 6).toInt ≤ 6 := hIh.1 6
  refine lv_iconst (v := 1) hx hb dX6_readSlate_10 (by decide) ?_
  refine lv_isub hx hb dX6_readSlate_11 ?_
  refine lv_topi (fun v7 ev7 => ?_)
  have tv7 : v7.toInt = (Fh 6).toInt - 1 := by rw [ev7]; exact subT rfl (show (1 : Int32).toInt = 1 by decide) (by omega)
  refine lv_iconst (v := (-1)) hx hb dX6_readSlate_12 (by decide) ?_
  refine behDi (wr := (uX3 cs adh qh Fh Ah Bh Dh)) (runVD (As := [.int 0, .int v7, .int (-1)]) (rest := []) ⟨hx, hb, hml, hown, ht⟩ (sX6_takeNumber l G cs adt qt (upd (upd (upd (upd Ft 1 x1) 2 x2) 3 x3) 4 x4) At Bt Dt (IB_put (k := 4) (IB_put (k := 3) (IB_put (k := 2) (IB_put (k := 1) hIt (show (0 : Int) ≤ x1.toInt ∧ x1.toInt ≤ 900 by omega)) (show (0 : Int) ≤ x2.toInt ∧ x2.toInt ≤ 4 by omega)) (show (0 : Int) ≤ x3.toInt ∧ x3.toInt ≤ 900 by omega)) (i32b _)) qtp Ftp Atp Btp Dtp hItp 0 v7 (-1) ) okV_RX6_120 ⟨by decide, by decide⟩ hK hP hD [0, 1, 2] rfl (by decide) rfl 0 rfl rfl hl.1 rfl (Nat.le_of_ble_eq_true rfl) dX6_readSlate_13 ⟨(Nat.le_of_ble_eq_true rfl), (Nat.le_of_ble_eq_true rfl)⟩) hP hD hS hA [0, 1, 2] [3, 4, 5, 6, 7, 8, 9, 10] rfl rfl (by decide) (by decide) (fun r9 u H locs hu hP hD hS => ?_)
  obtain ⟨x8, x9, x10, x11, x12, x13⟩ := u
  have kk15 : (0 : Int32).toInt = 0 := by decide
  have kk16 : (-1 : Int32).toInt = (-1) := by decide
  obtain ⟨r14, rfl⟩ : ∃ z, z = r9 := ⟨_, rfl⟩
  obtain ⟨hbx8, hbx9, hbx10, hr14⟩ := hu
  have hbx8 : (0 : Int) ≤ x8.toInt ∧ x8.toInt ≤ 900 := hbx8
  have hbx9 : (0 : Int) ≤ x9.toInt ∧ x9.toInt ≤ 4 := hbx9
  have hbx10 : (0 : Int) ≤ x10.toInt ∧ x10.toInt ≤ 900 := hbx10
  have hr14 : TNk r14 ((0 : Int32).toInt) v7.toInt := hr14
  have hP : va_P G vwCl ((uX6 cs adt qt (upd (upd (upd (upd (upd (upd Ft 1 x8) 2 x9) 3 x10) 4 x11) 5 x12) 6 x13) At Bt Dt) ++ ((uX9 cs (qt 0) qtp Ftp Atp Btp Dtp) ++ (uX3 cs adh qh Fh Ah Bh Dh))) H := hP.sub [8, 9, 10, 0, 1, 2, 3, 4, 5, 6, 7] rfl
  have hD : va_D A0 ((uX6 cs adt qt (upd (upd (upd (upd (upd (upd Ft 1 x8) 2 x9) 3 x10) 4 x11) 5 x12) 6 x13) At Bt Dt) ++ ((uX9 cs (qt 0) qtp Ftp Atp Btp Dtp) ++ (uX3 cs adh qh Fh Ah Bh Dh))) := hD.sub [8, 9, 10, 0, 1, 2, 3, 4, 5, 6, 7] (by decide) rfl
  refine lv_istore_n (lv' := [(2, .int r14), (0, .ref adt), (1, .ref adh)]) hx hb dX6_readSlate_16 rfl hl (by decide) rfl (fun ls hl => ?_)
  refine lv_aload_n hx hb dX6_readSlate_17 rfl (lv_at hl 1 rfl) ?_
  refine getF (v := .int x12) hx hb ht hown hK hP iTX6 0 5 rfl rfl (by decide) fl_RX6_27 rfl dX6_readSlate_18 ?_
  have B41 : ∀ (s41_0 : Int32) (ft1_41 : Int32) (ft2_41 : Int32) (ft3_41 : Int32) (ft4_41 : Int32) (ft5_41 : Int32) (ft6_41 : Int32) (H : Heap) (locs : List Loc) (ls : Array Slot), (0 : Int) ≤ ft1_41.toInt ∧ ft1_41.toInt ≤ 900 → (0 : Int) ≤ ft2_41.toInt ∧ ft2_41.toInt ≤ 4 → (0 : Int) ≤ ft3_41.toInt ∧ ft3_41.toInt ≤ 900 → va_P G vwCl ((uX6 cs adt qt (upd (upd (upd (upd (upd (upd Ft 1 ft1_41) 2 ft2_41) 3 ft3_41) 4 ft4_41) 5 ft5_41) 6 ft6_41) At Bt Dt) ++ ((uX9 cs (qt 0) qtp Ftp Atp Btp Dtp) ++ (uX3 cs adh qh Fh Ah Bh Dh))) H → va_D A0 ((uX6 cs adt qt (upd (upd (upd (upd (upd (upd Ft 1 ft1_41) 2 ft2_41) 3 ft3_41) 4 ft4_41) 5 ft5_41) 6 ft6_41) At Bt Dt) ++ ((uX9 cs (qt 0) qtp Ftp Atp Btp Dtp) ++ (uX3 cs adh qh Fh Ah Bh Dh))) → va_S A0 s.heap H locs → lv_has ls 5 [(0, .ref adt), (1, .ref adh), (2, .int r14)] → W p l e (rmk 6 0 0) s m args below meth c H locs 0 0 (MQ below ((QDi G (fun (r : Int32) (u : Int32 × Int32 × Int32 × Int32 × Int32 × Int32 × (Nat → Int32)) => ((0 : Int) ≤ u.1.toInt ∧ u.1.toInt ≤ 900) ∧ ((0 : Int) ≤ u.2.1.toInt ∧ u.2.1.toInt ≤ 4) ∧ ((0 : Int) ≤ u.2.2.1.toInt ∧ u.2.2.1.toInt ≤ 900) ∧ ((0 : Int) ≤ r.toInt ∧ r.toInt ≤ 1)) (fun u : Int32 × Int32 × Int32 × Int32 × Int32 × Int32 × (Nat → Int32) => ((uX6 cs adt qt (upd (upd (upd (upd (upd (upd Ft 1 u.1) 2 u.2.1) 3 u.2.2.1) 4 u.2.2.2.1) 5 u.2.2.2.2.1) 6 u.2.2.2.2.2.1) At Bt Dt) ++ ((uX9 cs (qt 0) qtp Ftp Atp Btp Dtp) ++ (uX3 cs adh qh Fh (vA Ah 13 u.2.2.2.2.2.2) Bh Dh))))) A0) args s 0 0 A0) (F0 m 41 ls [.int s41_0]) := by
    intro s41_0 ft1_41 ft2_41 ft3_41 ft4_41 ft5_41 ft6_41 H locs ls hft1_41 hft2_41 hft3_41 hP hD hS hl
    refine lv_istore_n (lv' := [(3, .int s41_0), (0, .ref adt), (1, .ref adh), (2, .int r14)]) hx hb dX6_readSlate_41 rfl hl (by decide) rfl (fun ls hl => ?_)
    refine lv_aload_n hx hb dX6_readSlate_42 rfl (lv_at hl 1 rfl) ?_
    refine getF (v := .int ft5_41) hx hb ht hown hK hP iTX6 0 5 rfl rfl (by decide) fl_RX6_27 rfl dX6_readSlate_43 ?_
    have B61 : ∀ (s61_0 : Int32) (ft1_61 : Int32) (ft2_61 : Int32) (ft3_61 : Int32) (ft4_61 : Int32) (ft5_61 : Int32) (ft6_61 : Int32) (H : Heap) (locs : List Loc) (ls : Array Slot), (0 : Int) ≤ ft1_61.toInt ∧ ft1_61.toInt ≤ 900 → (0 : Int) ≤ ft2_61.toInt ∧ ft2_61.toInt ≤ 4 → (0 : Int) ≤ ft3_61.toInt ∧ ft3_61.toInt ≤ 900 → va_P G vwCl ((uX6 cs adt qt (upd (upd (upd (upd (upd (upd Ft 1 ft1_61) 2 ft2_61) 3 ft3_61) 4 ft4_61) 5 ft5_61) 6 ft6_61) At Bt Dt) ++ ((uX9 cs (qt 0) qtp Ftp Atp Btp Dtp) ++ (uX3 cs adh qh Fh Ah Bh Dh))) H → va_D A0 ((uX6 cs adt qt (upd (upd (upd (upd (upd (upd Ft 1 ft1_61) 2 ft2_61) 3 ft3_61) 4 ft4_61) 5 ft5_61) 6 ft6_61) At Bt Dt) ++ ((uX9 cs (qt 0) qtp Ftp Atp Btp Dtp) ++ (uX3 cs adh qh Fh Ah Bh Dh))) → va_S A0 s.heap H locs → lv_has ls 5 [(0, .ref adt), (1, .ref adh), (2, .int r14), (3, .int s41_0)] → W p l e (rmk 6 0 0) s m args below meth c H locs 0 0 (MQ below ((QDi G (fun (r : Int32) (u : Int32 × Int32 × Int32 × Int32 × Int32 × Int32 × (Nat → Int32)) => ((0 : Int) ≤ u.1.toInt ∧ u.1.toInt ≤ 900) ∧ ((0 : Int) ≤ u.2.1.toInt ∧ u.2.1.toInt ≤ 4) ∧ ((0 : Int) ≤ u.2.2.1.toInt ∧ u.2.2.1.toInt ≤ 900) ∧ ((0 : Int) ≤ r.toInt ∧ r.toInt ≤ 1)) (fun u : Int32 × Int32 × Int32 × Int32 × Int32 × Int32 × (Nat → Int32) => ((uX6 cs adt qt (upd (upd (upd (upd (upd (upd Ft 1 u.1) 2 u.2.1) 3 u.2.2.1) 4 u.2.2.2.1) 5 u.2.2.2.2.1) 6 u.2.2.2.2.2.1) At Bt Dt) ++ ((uX9 cs (qt 0) qtp Ftp Atp Btp Dtp) ++ (uX3 cs adh qh Fh (vA Ah 13 u.2.2.2.2.2.2) Bh Dh))))) A0) args s 0 0 A0) (F0 m 61 ls [.int s61_0]) := by
      intro s61_0 ft1_61 ft2_61 ft3_61 ft4_61 ft5_61 ft6_61 H locs ls hft1_61 hft2_61 hft3_61 hP hD hS hl
      refine lv_istore (lv' := [(4, .int s61_0), (0, .ref adt), (1, .ref adh), (2, .int r14), (3, .int s41_0)]) hx hb dX6_readSlate_61 hl (by decide) rfl (fun ls hl => ?_)
      refine lv_aload_n hx hb dX6_readSlate_63 rfl (lv_at hl 1 rfl) ?_
      refine getF (v := .int ft5_61) hx hb ht hown hK hP iTX6 0 5 rfl rfl (by decide) fl_RX6_27 rfl dX6_readSlate_64 ?_
      refine lv_if_eq (tgt := 72) hx hb dX6_readSlate_67 (by decide) (fun c36001 => ?_) (fun c36001 => ?_)
      · have zc36001 := eqK rfl (show (0 : Int32).toInt = 0 by decide) c36001
        refine lv_aload_n hx hb dX6_readSlate_72 rfl (lv_at hl 2 rfl) ?_
        refine lv_iload_n hx hb dX6_readSlate_73 rfl (lv_at hl 3 rfl) ?_
        refine lv_iload_n hx hb dX6_readSlate_74 rfl (lv_at hl 4 rfl) ?_
        refine lv_iload hx hb dX6_readSlate_75 (lv_at hl 0 rfl) ?_
        refine behDw (wr := ((uX6 cs adt qt (upd (upd (upd (upd (upd (upd Ft 1 ft1_61) 2 ft2_61) 3 ft3_61) 4 ft4_61) 5 ft5_61) 6 ft6_61) At Bt Dt) ++ (uX9 cs (qt 0) qtp Ftp Atp Btp Dtp))) (runVD (As := [.int r14, .int s41_0, .int s61_0]) (rest := []) ⟨hx, hb, hml, hown, ht⟩ (sX3_tellSlate l G cs adh qh Fh Ah Bh Dh hIh r14 s41_0 s61_0 ) okV_RX6_144 ⟨by decide, by decide⟩ hK hP hD [3, 4, 5, 6, 7, 8, 9, 10] rfl (by decide) rfl 3 rfl rfl hl.1 rfl (Nat.le_of_ble_eq_true rfl) dX6_readSlate_77 ⟨(Nat.le_of_ble_eq_true rfl), (Nat.le_of_ble_eq_true rfl)⟩) hP hD hS hA [3, 4, 5, 6, 7, 8, 9, 10] [0, 1, 2] rfl rfl (by decide) (by decide) (fun u H locs hu hP hD hS => ?_)
        obtain ⟨g36002, rfl⟩ : ∃ z, z = u := ⟨_, rfl⟩
        have hr36003 := hu
        have hP : va_P G vwCl ((uX6 cs adt qt (upd (upd (upd (upd (upd (upd Ft 1 ft1_61) 2 ft2_61) 3 ft3_61) 4 ft4_61) 5 ft5_61) 6 ft6_61) At Bt Dt) ++ ((uX9 cs (qt 0) qtp Ftp Atp Btp Dtp) ++ (uX3 cs adh qh Fh (vA Ah 13 g36002) Bh Dh))) H := hP.sub [0, 1, 2, 3, 4, 5, 6, 7, 8, 9, 10] rfl
        have hD : va_D A0 ((uX6 cs adt qt (upd (upd (upd (upd (upd (upd Ft 1 ft1_61) 2 ft2_61) 3 ft3_61) 4 ft4_61) 5 ft5_61) 6 ft6_61) At Bt Dt) ++ ((uX9 cs (qt 0) qtp Ftp Atp Btp Dtp) ++ (uX3 cs adh qh Fh (vA Ah 13 g36002) Bh Dh))) := hD.sub [0, 1, 2, 3, 4, 5, 6, 7, 8, 9, 10] (by decide) rfl
        refine lv_iconst (v := 1) hx hb dX6_readSlate_80 (by decide) ?_
        exact retDz (ft1_61, ft2_61, ft3_61, ft4_61, ft5_61, ft6_61, g36002) hx hb hr hlk hP hD hS dX6_readSlate_81 (rfl) (⟨show (0 : Int) ≤ ft1_61.toInt ∧ ft1_61.toInt ≤ 900 by omega, show (0 : Int) ≤ ft2_61.toInt ∧ ft2_61.toInt ≤ 4 by omega, show (0 : Int) ≤ ft3_61.toInt ∧ ft3_61.toInt ≤ 900 by omega, show (0 : Int) ≤ (1 : Int32).toInt ∧ (1 : Int32).toInt ≤ 1 by have kk : (1 : Int32).toInt = 1 := (by decide); omega⟩) (Nat.le_of_ble_eq_true rfl) (Nat.le_of_ble_eq_true rfl)
      · have zc36001 := neK rfl (show (0 : Int32).toInt = 0 by decide) c36001
        refine lv_iconst (v := 0) hx hb dX6_readSlate_70 (by decide) ?_
        exact retDz (ft1_61, ft2_61, ft3_61, ft4_61, ft5_61, ft6_61, (Ah 13)) hx hb hr hlk hP hD hS dX6_readSlate_71 (rfl) (⟨show (0 : Int) ≤ ft1_61.toInt ∧ ft1_61.toInt ≤ 900 by omega, show (0 : Int) ≤ ft2_61.toInt ∧ ft2_61.toInt ≤ 4 by omega, show (0 : Int) ≤ ft3_61.toInt ∧ ft3_61.toInt ≤ 900 by omega, show (0 : Int) ≤ (0 : Int32).toInt ∧ (0 : Int32).toInt ≤ 1 by have kk : (0 : Int32).toInt = 0 := (by decide); omega⟩) (Nat.le_of_ble_eq_true rfl) (Nat.le_of_ble_eq_true rfl)
    refine lv_if_ne (tgt := 60) hx hb dX6_readSlate_46 (by decide) (fun c25001 => ?_) (fun c25001 => ?_)
    · have zc25001 := neK rfl (show (0 : Int32).toInt = 0 by decide) c25001
      refine lv_iconst (v := (-1)) hx hb dX6_readSlate_60 (by decide) ?_
      exact B61 (-1) ft1_41 ft2_41 ft3_41 ft4_41 ft5_41 ft6_41 H locs ls (by omega) (by omega) (by omega) hP hD hS (lv_sub hl [1, 2, 3, 0] rfl)
    · have zc25001 := eqK rfl (show (0 : Int32).toInt = 0 by decide) c25001
      refine lv_aload_n hx hb dX6_readSlate_49 rfl (lv_at hl 1 rfl) ?_
      refine lv_iconst (v := 0) hx hb dX6_readSlate_50 (by decide) ?_
      refine lv_bipush (v := 9) hx hb dX6_readSlate_51 (by decide) ?_
      refine lv_iconst (v := (-1)) hx hb dX6_readSlate_53 (by decide) ?_
      refine behDi (wr := (uX3 cs adh qh Fh Ah Bh Dh)) (runVD (As := [.int 0, .int 9, .int (-1)]) (rest := []) ⟨hx, hb, hml, hown, ht⟩ (sX6_takeNumber l G cs adt qt (upd (upd (upd (upd (upd (upd Ft 1 ft1_41) 2 ft2_41) 3 ft3_41) 4 ft4_41) 5 ft5_41) 6 ft6_41) At Bt Dt (IB_put (k := 6) (IB_put (k := 5) (IB_put (k := 4) (IB_put (k := 3) (IB_put (k := 2) (IB_put (k := 1) hIt (show (0 : Int) ≤ ft1_41.toInt ∧ ft1_41.toInt ≤ 900 by omega)) (show (0 : Int) ≤ ft2_41.toInt ∧ ft2_41.toInt ≤ 4 by omega)) (show (0 : Int) ≤ ft3_41.toInt ∧ ft3_41.toInt ≤ 900 by omega)) (i32b _)) (i32b _)) (i32b _)) qtp Ftp Atp Btp Dtp hItp 0 9 (-1) ) okV_RX6_120 ⟨by decide, by decide⟩ hK hP hD [0, 1, 2] rfl (by decide) rfl 0 rfl rfl hl.1 rfl (Nat.le_of_ble_eq_true rfl) dX6_readSlate_54 ⟨(Nat.le_of_ble_eq_true rfl), (Nat.le_of_ble_eq_true rfl)⟩) hP hD hS hA [0, 1, 2] [3, 4, 5, 6, 7, 8, 9, 10] rfl rfl (by decide) (by decide) (fun r9 u H locs hu hP hD hS => ?_)
      obtain ⟨x25002, x25003, x25004, x25005, x25006, x25007⟩ := u
      have kk25009 : (0 : Int32).toInt = 0 := by decide
      have kk25010 : (9 : Int32).toInt = 9 := by decide
      have kk25011 : (-1 : Int32).toInt = (-1) := by decide
      obtain ⟨r25008, rfl⟩ : ∃ z, z = r9 := ⟨_, rfl⟩
      obtain ⟨hbx25002, hbx25003, hbx25004, hr25008⟩ := hu
      have hbx25002 : (0 : Int) ≤ x25002.toInt ∧ x25002.toInt ≤ 900 := hbx25002
      have hbx25003 : (0 : Int) ≤ x25003.toInt ∧ x25003.toInt ≤ 4 := hbx25003
      have hbx25004 : (0 : Int) ≤ x25004.toInt ∧ x25004.toInt ≤ 900 := hbx25004
      have hr25008 : TNk r25008 ((0 : Int32).toInt) ((9 : Int32).toInt) := hr25008
      have hP : va_P G vwCl ((uX6 cs adt qt (upd (upd (upd (upd (upd (upd Ft 1 x25002) 2 x25003) 3 x25004) 4 x25005) 5 x25006) 6 x25007) At Bt Dt) ++ ((uX9 cs (qt 0) qtp Ftp Atp Btp Dtp) ++ (uX3 cs adh qh Fh Ah Bh Dh))) H := hP.sub [8, 9, 10, 0, 1, 2, 3, 4, 5, 6, 7] rfl
      have hD : va_D A0 ((uX6 cs adt qt (upd (upd (upd (upd (upd (upd Ft 1 x25002) 2 x25003) 3 x25004) 4 x25005) 5 x25006) 6 x25007) At Bt Dt) ++ ((uX9 cs (qt 0) qtp Ftp Atp Btp Dtp) ++ (uX3 cs adh qh Fh Ah Bh Dh))) := hD.sub [8, 9, 10, 0, 1, 2, 3, 4, 5, 6, 7] (by decide) rfl
      refine lv_goto (tgt := 61) hx hb dX6_readSlate_57 (by decide) ?_
      exact B61 r25008 x25002 x25003 x25004 x25005 x25006 x25007 H locs ls (by omega) (by omega) (by omega) hP hD hS (lv_sub hl [1, 2, 3, 0] rfl)
  refine lv_if_ne (tgt := 40) hx hb dX6_readSlate_21 (by decide) (fun c17 => ?_) (fun c17 => ?_)
  · have zc17 := neK rfl (show (0 : Int32).toInt = 0 by decide) c17
    refine lv_iconst (v := (-1)) hx hb dX6_readSlate_40 (by decide) ?_
    exact B41 (-1) x8 x9 x10 x11 x12 x13 H locs ls (by omega) (by omega) (by omega) hP hD hS (lv_sub hl [1, 2, 0] rfl)
  · have zc17 := eqK rfl (show (0 : Int32).toInt = 0 by decide) c17
    refine lv_aload_n hx hb dX6_readSlate_24 rfl (lv_at hl 1 rfl) ?_
    refine va_ldcS hx hb hown (hQ.2.2.2 _ (List.mem_of_getElem? (i := 14) rfl)) dX6_readSlate_25 ?_
    refine lv_iconst (v := 0) hx hb dX6_readSlate_27 (by decide) ?_
    refine lv_aload_n hx hb dX6_readSlate_28 rfl (lv_at hl 2 rfl) ?_
    refine getF (v := .int (Fh 6)) hx hb ht hown hK hP iTX3 3 6 rfl rfl (by decide) fl_RX6_128 rfl dX6_readSlate_29 ?_
    have zf18 : (0 : Int) ≤ (Fh 6).toInt ∧ (Fh 6).toInt ≤ 6 := hIh.1 6
    refine lv_iconst (v := 1) hx hb dX6_readSlate_32 (by decide) ?_
    refine lv_isub hx hb dX6_readSlate_33 ?_
    refine lv_topi (fun v19 ev19 => ?_)
    have tv19 : v19.toInt = (Fh 6).toInt - 1 := by rw [ev19]; exact subT rfl (show (1 : Int32).toInt = 1 by decide) (by omega)
    refine behDi (wr := (uX3 cs adh qh Fh Ah Bh Dh)) (runVDS (As := [.ref ((sd 14).1), .int 0, .int v19]) (rest := []) ⟨hx, hb, hml, hown, ht⟩ (sX6_takeNamed l G cs sd adt qt (upd (upd (upd (upd (upd (upd Ft 1 x8) 2 x9) 3 x10) 4 x11) 5 x12) 6 x13) At Bt Dt (IB_put (k := 6) (IB_put (k := 5) (IB_put (k := 4) (IB_put (k := 3) (IB_put (k := 2) (IB_put (k := 1) hIt (show (0 : Int) ≤ x8.toInt ∧ x8.toInt ≤ 900 by omega)) (show (0 : Int) ≤ x9.toInt ∧ x9.toInt ≤ 4 by omega)) (show (0 : Int) ≤ x10.toInt ∧ x10.toInt ≤ 900 by omega)) (i32b _)) (i32b _)) (i32b _)) qtp Ftp Atp Btp Dtp hItp 14 (by decide) 0 v19 ) okV_RX6_85 ⟨by decide, by decide⟩ hK hP hD hQ hS hA [0, 1, 2] rfl (by decide) rfl 0 rfl rfl hl.1 rfl (Nat.le_of_ble_eq_true rfl) dX6_readSlate_34 ⟨(Nat.le_of_ble_eq_true rfl), (Nat.le_of_ble_eq_true rfl)⟩) hP hD hS hA [0, 1, 2] [3, 4, 5, 6, 7, 8, 9, 10] rfl rfl (by decide) (by decide) (fun r9 u H locs hu hP hD hS => ?_)
    obtain ⟨x20, x21, x22, x23, x24, x25⟩ := u
    have kk27 : (0 : Int32).toInt = 0 := by decide
    obtain ⟨r26, rfl⟩ : ∃ z, z = r9 := ⟨_, rfl⟩
    obtain ⟨hbx20, hbx21, hbx22, hr26⟩ := hu
    have hbx20 : (0 : Int) ≤ x20.toInt ∧ x20.toInt ≤ 900 := hbx20
    have hbx21 : (0 : Int) ≤ x21.toInt ∧ x21.toInt ≤ 4 := hbx21
    have hbx22 : (0 : Int) ≤ x22.toInt ∧ x22.toInt ≤ 900 := hbx22
    have hr26 : TNk r26 ((0 : Int32).toInt) v19.toInt := hr26
    have hP : va_P G vwCl ((uX6 cs adt qt (upd (upd (upd (upd (upd (upd Ft 1 x20) 2 x21) 3 x22) 4 x23) 5 x24) 6 x25) At Bt Dt) ++ ((uX9 cs (qt 0) qtp Ftp Atp Btp Dtp) ++ (uX3 cs adh qh Fh Ah Bh Dh))) H := hP.sub [8, 9, 10, 0, 1, 2, 3, 4, 5, 6, 7] rfl
    have hD : va_D A0 ((uX6 cs adt qt (upd (upd (upd (upd (upd (upd Ft 1 x20) 2 x21) 3 x22) 4 x23) 5 x24) 6 x25) At Bt Dt) ++ ((uX9 cs (qt 0) qtp Ftp Atp Btp Dtp) ++ (uX3 cs adh qh Fh Ah Bh Dh))) := hD.sub [8, 9, 10, 0, 1, 2, 3, 4, 5, 6, 7] (by decide) rfl
    refine lv_goto (tgt := 41) hx hb dX6_readSlate_37 (by decide) ?_
    exact B41 r26 x20 x21 x22 x23 x24 x25 H locs ls (by omega) (by omega) (by omega) hP hD hS (lv_sub hl [1, 2, 0] rfl)

set_option maxRecDepth 100000 in
set_option maxHeartbeats 16000000 in
theorem sX6_readLine (l : Launch) (G : va_G) (cs : Nat → ClassId) (sd : Nat → Nat × Nat) (adt : Nat) (qt : Nat → Nat) (Ft : Nat → Int32) (At : Nat → Nat → Int32) (Bt : Nat → Nat → Int64) (Dt : Int64) (hIt : IX6 Ft At) (qtp : Nat → Nat) (Ftp : Nat → Int32) (Atp : Nat → Nat → Int32) (Btp : Nat → Nat → Int64) (Dtp : Int64) (hItp : IX9 Ftp Atp) (adh : Nat) (qh : Nat → Nat) (Fh : Nat → Int32) (Ah : Nat → Nat → Int32) (Bh : Nat → Nat → Int64) (Dh : Int64) (hIh : IX3 Fh Ah) : ∀ sz : Nat, Met l yX6_readLine (wk yX6_readLine cX6_readLine 4 (some .boolean)) (rmk 7 0 0) (PreDS SRR sd G (TY cs) [.ref adt, .ref adh] ((uX6 cs adt qt Ft At Bt Dt) ++ ((uX9 cs (qt 0) qtp Ftp Atp Btp Dtp) ++ (uX3 cs adh qh Fh Ah Bh Dh))) sz) ((QDi G (fun (r : Int32) (u : Int32 × Int32 × Int32 × Int32 × Int32 × Int32 × Int32 × Int32 × Int32 × Int32 × Int32 × Int32 × Int32 × (Nat → Int32) × (Nat → Int32) × (Nat → Int32) × (Nat → Int32) × (Nat → Int32) × (Nat → Int32) × (Nat → Int32)) => ((0 : Int) ≤ u.2.2.2.2.2.1.toInt ∧ u.2.2.2.2.2.1.toInt ≤ 7) ∧ ((0 : Int) ≤ u.2.2.2.2.2.2.1.toInt ∧ u.2.2.2.2.2.2.1.toInt ≤ 6) ∧ ((0 : Int) ≤ u.2.2.2.2.2.2.2.1.toInt ∧ u.2.2.2.2.2.2.2.1.toInt ≤ 900) ∧ ((0 : Int) ≤ u.2.2.2.2.2.2.2.2.1.toInt ∧ u.2.2.2.2.2.2.2.2.1.toInt ≤ 4) ∧ ((0 : Int) ≤ u.2.2.2.2.2.2.2.2.2.1.toInt ∧ u.2.2.2.2.2.2.2.2.2.1.toInt ≤ 900) ∧ AJ (0) 127 u.2.2.2.2.2.2.2.2.2.2.2.2.2.2.2.2.1 ∧ AJ (0) 63 u.2.2.2.2.2.2.2.2.2.2.2.2.2.2.2.2.2.2.1 ∧ ((0 : Int) ≤ r.toInt ∧ r.toInt ≤ 1)) (fun u : Int32 × Int32 × Int32 × Int32 × Int32 × Int32 × Int32 × Int32 × Int32 × Int32 × Int32 × Int32 × Int32 × (Nat → Int32) × (Nat → Int32) × (Nat → Int32) × (Nat → Int32) × (Nat → Int32) × (Nat → Int32) × (Nat → Int32) => ((uX6 cs adt qt (upd (upd (upd (upd (upd (upd Ft 1 u.2.2.2.2.2.2.2.1) 2 u.2.2.2.2.2.2.2.2.1) 3 u.2.2.2.2.2.2.2.2.2.1) 4 u.2.2.2.2.2.2.2.2.2.2.1) 5 u.2.2.2.2.2.2.2.2.2.2.2.1) 6 u.2.2.2.2.2.2.2.2.2.2.2.2.1) At Bt Dt) ++ ((uX9 cs (qt 0) qtp Ftp Atp Btp Dtp) ++ (uX3 cs adh qh (upd (upd (upd (upd (upd (upd (upd Fh 0 u.1) 1 u.2.1) 2 u.2.2.1) 3 u.2.2.2.1) 4 u.2.2.2.2.1) 5 u.2.2.2.2.2.1) 6 u.2.2.2.2.2.2.1) (vA (vA (vA (vA (vA (vA (vA Ah 7 u.2.2.2.2.2.2.2.2.2.2.2.2.2.1) 8 u.2.2.2.2.2.2.2.2.2.2.2.2.2.2.1) 9 u.2.2.2.2.2.2.2.2.2.2.2.2.2.2.2.1) 10 u.2.2.2.2.2.2.2.2.2.2.2.2.2.2.2.2.1) 11 u.2.2.2.2.2.2.2.2.2.2.2.2.2.2.2.2.2.1) 12 u.2.2.2.2.2.2.2.2.2.2.2.2.2.2.2.2.2.2.1) 13 u.2.2.2.2.2.2.2.2.2.2.2.2.2.2.2.2.2.2.2) Bh Dh))))) (va_A ((uX6 cs adt qt Ft At Bt Dt) ++ ((uX9 cs (qt 0) qtp Ftp Atp Btp Dtp) ++ (uX3 cs adh qh Fh Ah Bh Dh))) sz)) 0 0 (va_A ((uX6 cs adt qt Ft At Bt Dt) ++ ((uX9 cs (qt 0) qtp Ftp Atp Btp Dtp) ++ (uX3 cs adh qh Fh Ah Bh Dh))) sz) := by
  refine mkDS (Qc := (QDi G (fun (r : Int32) (u : Int32 × Int32 × Int32 × Int32 × Int32 × Int32 × Int32 × Int32 × Int32 × Int32 × Int32 × Int32 × Int32 × (Nat → Int32) × (Nat → Int32) × (Nat → Int32) × (Nat → Int32) × (Nat → Int32) × (Nat → Int32) × (Nat → Int32)) => ((0 : Int) ≤ u.2.2.2.2.2.1.toInt ∧ u.2.2.2.2.2.1.toInt ≤ 7) ∧ ((0 : Int) ≤ u.2.2.2.2.2.2.1.toInt ∧ u.2.2.2.2.2.2.1.toInt ≤ 6) ∧ ((0 : Int) ≤ u.2.2.2.2.2.2.2.1.toInt ∧ u.2.2.2.2.2.2.2.1.toInt ≤ 900) ∧ ((0 : Int) ≤ u.2.2.2.2.2.2.2.2.1.toInt ∧ u.2.2.2.2.2.2.2.2.1.toInt ≤ 4) ∧ ((0 : Int) ≤ u.2.2.2.2.2.2.2.2.2.1.toInt ∧ u.2.2.2.2.2.2.2.2.2.1.toInt ≤ 900) ∧ AJ (0) 127 u.2.2.2.2.2.2.2.2.2.2.2.2.2.2.2.2.1 ∧ AJ (0) 63 u.2.2.2.2.2.2.2.2.2.2.2.2.2.2.2.2.2.2.1 ∧ ((0 : Int) ≤ r.toInt ∧ r.toInt ≤ 1)) (fun u : Int32 × Int32 × Int32 × Int32 × Int32 × Int32 × Int32 × Int32 × Int32 × Int32 × Int32 × Int32 × Int32 × (Nat → Int32) × (Nat → Int32) × (Nat → Int32) × (Nat → Int32) × (Nat → Int32) × (Nat → Int32) × (Nat → Int32) => ((uX6 cs adt qt (upd (upd (upd (upd (upd (upd Ft 1 u.2.2.2.2.2.2.2.1) 2 u.2.2.2.2.2.2.2.2.1) 3 u.2.2.2.2.2.2.2.2.2.1) 4 u.2.2.2.2.2.2.2.2.2.2.1) 5 u.2.2.2.2.2.2.2.2.2.2.2.1) 6 u.2.2.2.2.2.2.2.2.2.2.2.2.1) At Bt Dt) ++ ((uX9 cs (qt 0) qtp Ftp Atp Btp Dtp) ++ (uX3 cs adh qh (upd (upd (upd (upd (upd (upd (upd Fh 0 u.1) 1 u.2.1) 2 u.2.2.1) 3 u.2.2.2.1) 4 u.2.2.2.2.1) 5 u.2.2.2.2.2.1) 6 u.2.2.2.2.2.2.1) (vA (vA (vA (vA (vA (vA (vA Ah 7 u.2.2.2.2.2.2.2.2.2.2.2.2.2.1) 8 u.2.2.2.2.2.2.2.2.2.2.2.2.2.2.1) 9 u.2.2.2.2.2.2.2.2.2.2.2.2.2.2.2.1) 10 u.2.2.2.2.2.2.2.2.2.2.2.2.2.2.2.2.1) 11 u.2.2.2.2.2.2.2.2.2.2.2.2.2.2.2.2.2.1) 12 u.2.2.2.2.2.2.2.2.2.2.2.2.2.2.2.2.2.2.1) 13 u.2.2.2.2.2.2.2.2.2.2.2.2.2.2.2.2.2.2.2) Bh Dh)))))) (by decide) (by simp [lg_sl, Value.category]) ?_
  intro p e s m args below meth c ls A0 hx hb hml hr hlk hown hmn ht hK hP hD hS hA hQ hl
  have hl : lv_has ls 4 [(0, .ref adt), (1, .ref adh)] := hl
  refine lv_aload_n hx hb dX6_readLine_0 rfl (lv_at hl 1 rfl) ?_
  refine getF (v := .int (Fh 0)) hx hb ht hown hK hP iTX3 3 0 rfl rfl (by decide) fl_RX6_43 rfl dX6_readLine_1 ?_
  have B12 : ∀ (s12_0 : Int32) (H : Heap) (locs : List Loc) (ls : Array Slot), (0 : Int) ≤ s12_0.toInt ∧ s12_0.toInt ≤ 1 → va_P G vwCl ((uX6 cs adt qt Ft At Bt Dt) ++ ((uX9 cs (qt 0) qtp Ftp Atp Btp Dtp) ++ (uX3 cs adh qh Fh Ah Bh Dh))) H → va_D A0 ((uX6 cs adt qt Ft At Bt Dt) ++ ((uX9 cs (qt 0) qtp Ftp Atp Btp Dtp) ++ (uX3 cs adh qh Fh Ah Bh Dh))) → va_S A0 s.heap H locs → lv_has ls 4 [(0, .ref adt), (1, .ref adh)] → W p l e (rmk 7 0 0) s m args below meth c H locs 0 0 (MQ below ((QDi G (fun (r : Int32) (u : Int32 × Int32 × Int32 × Int32 × Int32 × Int32 × Int32 × Int32 × Int32 × Int32 × Int32 × Int32 × Int32 × (Nat → Int32) × (Nat → Int32) × (Nat → Int32) × (Nat → Int32) × (Nat → Int32) × (Nat → Int32) × (Nat → Int32)) => ((0 : Int) ≤ u.2.2.2.2.2.1.toInt ∧ u.2.2.2.2.2.1.toInt ≤ 7) ∧ ((0 : Int) ≤ u.2.2.2.2.2.2.1.toInt ∧ u.2.2.2.2.2.2.1.toInt ≤ 6) ∧ ((0 : Int) ≤ u.2.2.2.2.2.2.2.1.toInt ∧ u.2.2.2.2.2.2.2.1.toInt ≤ 900) ∧ ((0 : Int) ≤ u.2.2.2.2.2.2.2.2.1.toInt ∧ u.2.2.2.2.2.2.2.2.1.toInt ≤ 4) ∧ ((0 : Int) ≤ u.2.2.2.2.2.2.2.2.2.1.toInt ∧ u.2.2.2.2.2.2.2.2.2.1.toInt ≤ 900) ∧ AJ (0) 127 u.2.2.2.2.2.2.2.2.2.2.2.2.2.2.2.2.1 ∧ AJ (0) 63 u.2.2.2.2.2.2.2.2.2.2.2.2.2.2.2.2.2.2.1 ∧ ((0 : Int) ≤ r.toInt ∧ r.toInt ≤ 1)) (fun u : Int32 × Int32 × Int32 × Int32 × Int32 × Int32 × Int32 × Int32 × Int32 × Int32 × Int32 × Int32 × Int32 × (Nat → Int32) × (Nat → Int32) × (Nat → Int32) × (Nat → Int32) × (Nat → Int32) × (Nat → Int32) × (Nat → Int32) => ((uX6 cs adt qt (upd (upd (upd (upd (upd (upd Ft 1 u.2.2.2.2.2.2.2.1) 2 u.2.2.2.2.2.2.2.2.1) 3 u.2.2.2.2.2.2.2.2.2.1) 4 u.2.2.2.2.2.2.2.2.2.2.1) 5 u.2.2.2.2.2.2.2.2.2.2.2.1) 6 u.2.2.2.2.2.2.2.2.2.2.2.2.1) At Bt Dt) ++ ((uX9 cs (qt 0) qtp Ftp Atp Btp Dtp) ++ (uX3 cs adh qh (upd (upd (upd (upd (upd (upd (upd Fh 0 u.1) 1 u.2.1) 2 u.2.2.1) 3 u.2.2.2.1) 4 u.2.2.2.2.1) 5 u.2.2.2.2.2.1) 6 u.2.2.2.2.2.2.1) (vA (vA (vA (vA (vA (vA (vA Ah 7 u.2.2.2.2.2.2.2.2.2.2.2.2.2.1) 8 u.2.2.2.2.2.2.2.2.2.2.2.2.2.2.1) 9 u.2.2.2.2.2.2.2.2.2.2.2.2.2.2.2.1) 10 u.2.2.2.2.2.2.2.2.2.2.2.2.2.2.2.2.1) 11 u.2.2.2.2.2.2.2.2.2.2.2.2.2.2.2.2.2.1) 12 u.2.2.2.2.2.2.2.2.2.2.2.2.2.2.2.2.2.2.1) 13 u.2.2.2.2.2.2.2.2.2.2.2.2.2.2.2.2.2.2.2) Bh Dh))))) A0) args s 0 0 A0) (F0 m 12 ls [.int s12_0]) := by
    intro s12_0 H locs ls hs12_0 hP hD hS hl
    refine lv_istore_n (lv' := [(2, .int s12_0), (0, .ref adt), (1, .ref adh)]) hx hb dX6_readLine_12 rfl hl (by decide) rfl (fun ls hl => ?_)
    refine lv_iload_n hx hb dX6_readLine_13 rfl (lv_at hl 0 rfl) ?_
    refine lv_aload_n hx hb dX6_readLine_14 rfl (lv_at hl 1 rfl) ?_
    refine va_ldcS hx hb hown (hQ.2.2.2 _ (List.mem_of_getElem? (i := 0) rfl)) dX6_readLine_15 ?_
    refine behR (runVPS (As := [.ref ((sd 0).1)]) (rest := [.int s12_0]) ⟨hx, hb, hml, hown, ht⟩ (sX6_isWord l G cs sd adt qt Ft At Bt Dt hIt qtp Ftp Atp Btp Dtp hItp 0 (by decide) ) okV_RX6_48 ⟨by decide, by decide⟩ hK hP hQ hS hA [0, 1, 2] rfl 0 rfl rfl hl.1 rfl (Nat.le_of_ble_eq_true rfl) dX6_readLine_17 ⟨by decide, by decide⟩) hP hS hA (fun r7001 H locs hr7001 hP hS => ?_)
    have hr7001 : (0 : Int) ≤ r7001.toInt ∧ r7001.toInt ≤ 1 := hr7001
    have B123 : ∀ (x123_3 : Int32) (fh1_123 : Int32) (fh2_123 : Int32) (fh3_123 : Int32) (fh4_123 : Int32) (fh5_123 : Int32) (fh6_123 : Int32) (ft1_123 : Int32) (ft2_123 : Int32) (ft3_123 : Int32) (ft4_123 : Int32) (ft5_123 : Int32) (ft6_123 : Int32) (ah7_123 : (Nat → Int32)) (ah8_123 : (Nat → Int32)) (ah9_123 : (Nat → Int32)) (ah10_123 : (Nat → Int32)) (ah11_123 : (Nat → Int32)) (ah12_123 : (Nat → Int32)) (ah13_123 : (Nat → Int32)) (H : Heap) (locs : List Loc) (ls : Array Slot), (0 : Int) ≤ x123_3.toInt ∧ x123_3.toInt ≤ 1 → (0 : Int) ≤ fh5_123.toInt ∧ fh5_123.toInt ≤ 7 → (0 : Int) ≤ fh6_123.toInt ∧ fh6_123.toInt ≤ 6 → (0 : Int) ≤ ft1_123.toInt ∧ ft1_123.toInt ≤ 900 → (0 : Int) ≤ ft2_123.toInt ∧ ft2_123.toInt ≤ 4 → (0 : Int) ≤ ft3_123.toInt ∧ ft3_123.toInt ≤ 900 → AJ (0) 127 ah10_123 → AJ (0) 63 ah12_123 → va_P G vwCl ((uX6 cs adt qt (upd (upd (upd (upd (upd (upd Ft 1 ft1_123) 2 ft2_123) 3 ft3_123) 4 ft4_123) 5 ft5_123) 6 ft6_123) At Bt Dt) ++ ((uX9 cs (qt 0) qtp Ftp Atp Btp Dtp) ++ (uX3 cs adh qh (upd (upd (upd (upd (upd (upd Fh 1 fh1_123) 2 fh2_123) 3 fh3_123) 4 fh4_123) 5 fh5_123) 6 fh6_123) (vA (vA (vA (vA (vA (vA (vA Ah 7 ah7_123) 8 ah8_123) 9 ah9_123) 10 ah10_123) 11 ah11_123) 12 ah12_123) 13 ah13_123) Bh Dh))) H → va_D A0 ((uX6 cs adt qt (upd (upd (upd (upd (upd (upd Ft 1 ft1_123) 2 ft2_123) 3 ft3_123) 4 ft4_123) 5 ft5_123) 6 ft6_123) At Bt Dt) ++ ((uX9 cs (qt 0) qtp Ftp Atp Btp Dtp) ++ (uX3 cs adh qh (upd (upd (upd (upd (upd (upd Fh 1 fh1_123) 2 fh2_123) 3 fh3_123) 4 fh4_123) 5 fh5_123) 6 fh6_123) (vA (vA (vA (vA (vA (vA (vA Ah 7 ah7_123) 8 ah8_123) 9 ah9_123) 10 ah10_123) 11 ah11_123) 12 ah12_123) 13 ah13_123) Bh Dh))) → va_S A0 s.heap H locs → lv_has ls 4 [(0, .ref adt), (1, .ref adh), (3, .int x123_3)] → W p l e (rmk 7 0 0) s m args below meth c H locs 0 0 (MQ below ((QDi G (fun (r : Int32) (u : Int32 × Int32 × Int32 × Int32 × Int32 × Int32 × Int32 × Int32 × Int32 × Int32 × Int32 × Int32 × Int32 × (Nat → Int32) × (Nat → Int32) × (Nat → Int32) × (Nat → Int32) × (Nat → Int32) × (Nat → Int32) × (Nat → Int32)) => ((0 : Int) ≤ u.2.2.2.2.2.1.toInt ∧ u.2.2.2.2.2.1.toInt ≤ 7) ∧ ((0 : Int) ≤ u.2.2.2.2.2.2.1.toInt ∧ u.2.2.2.2.2.2.1.toInt ≤ 6) ∧ ((0 : Int) ≤ u.2.2.2.2.2.2.2.1.toInt ∧ u.2.2.2.2.2.2.2.1.toInt ≤ 900) ∧ ((0 : Int) ≤ u.2.2.2.2.2.2.2.2.1.toInt ∧ u.2.2.2.2.2.2.2.2.1.toInt ≤ 4) ∧ ((0 : Int) ≤ u.2.2.2.2.2.2.2.2.2.1.toInt ∧ u.2.2.2.2.2.2.2.2.2.1.toInt ≤ 900) ∧ AJ (0) 127 u.2.2.2.2.2.2.2.2.2.2.2.2.2.2.2.2.1 ∧ AJ (0) 63 u.2.2.2.2.2.2.2.2.2.2.2.2.2.2.2.2.2.2.1 ∧ ((0 : Int) ≤ r.toInt ∧ r.toInt ≤ 1)) (fun u : Int32 × Int32 × Int32 × Int32 × Int32 × Int32 × Int32 × Int32 × Int32 × Int32 × Int32 × Int32 × Int32 × (Nat → Int32) × (Nat → Int32) × (Nat → Int32) × (Nat → Int32) × (Nat → Int32) × (Nat → Int32) × (Nat → Int32) => ((uX6 cs adt qt (upd (upd (upd (upd (upd (upd Ft 1 u.2.2.2.2.2.2.2.1) 2 u.2.2.2.2.2.2.2.2.1) 3 u.2.2.2.2.2.2.2.2.2.1) 4 u.2.2.2.2.2.2.2.2.2.2.1) 5 u.2.2.2.2.2.2.2.2.2.2.2.1) 6 u.2.2.2.2.2.2.2.2.2.2.2.2.1) At Bt Dt) ++ ((uX9 cs (qt 0) qtp Ftp Atp Btp Dtp) ++ (uX3 cs adh qh (upd (upd (upd (upd (upd (upd (upd Fh 0 u.1) 1 u.2.1) 2 u.2.2.1) 3 u.2.2.2.1) 4 u.2.2.2.2.1) 5 u.2.2.2.2.2.1) 6 u.2.2.2.2.2.2.1) (vA (vA (vA (vA (vA (vA (vA Ah 7 u.2.2.2.2.2.2.2.2.2.2.2.2.2.1) 8 u.2.2.2.2.2.2.2.2.2.2.2.2.2.2.1) 9 u.2.2.2.2.2.2.2.2.2.2.2.2.2.2.2.1) 10 u.2.2.2.2.2.2.2.2.2.2.2.2.2.2.2.2.1) 11 u.2.2.2.2.2.2.2.2.2.2.2.2.2.2.2.2.2.1) 12 u.2.2.2.2.2.2.2.2.2.2.2.2.2.2.2.2.2.2.1) 13 u.2.2.2.2.2.2.2.2.2.2.2.2.2.2.2.2.2.2.2) Bh Dh))))) A0) args s 0 0 A0) (F0 m 123 ls []) := by
      intro x123_3 fh1_123 fh2_123 fh3_123 fh4_123 fh5_123 fh6_123 ft1_123 ft2_123 ft3_123 ft4_123 ft5_123 ft6_123 ah7_123 ah8_123 ah9_123 ah10_123 ah11_123 ah12_123 ah13_123 H locs ls hx123_3 hfh5_123 hfh6_123 hft1_123 hft2_123 hft3_123 hah10_123 hah12_123 hP hD hS hl
      refine lv_iload_n hx hb dX6_readLine_123 rfl (lv_at hl 2 rfl) ?_
      refine lv_if_eq (tgt := 134) hx hb dX6_readLine_124 (by decide) (fun c65001 => ?_) (fun c65001 => ?_)
      · have zc65001 := eqK rfl (show (0 : Int32).toInt = 0 by decide) c65001
        refine lv_iconst (v := 0) hx hb dX6_readLine_134 (by decide) ?_
        exact retDz ((Fh 0), fh1_123, fh2_123, fh3_123, fh4_123, fh5_123, fh6_123, ft1_123, ft2_123, ft3_123, ft4_123, ft5_123, ft6_123, ah7_123, ah8_123, ah9_123, ah10_123, ah11_123, ah12_123, ah13_123) hx hb hr hlk hP hD hS dX6_readLine_135 (rfl) (⟨show (0 : Int) ≤ fh5_123.toInt ∧ fh5_123.toInt ≤ 7 by omega, show (0 : Int) ≤ fh6_123.toInt ∧ fh6_123.toInt ≤ 6 by omega, show (0 : Int) ≤ ft1_123.toInt ∧ ft1_123.toInt ≤ 900 by omega, show (0 : Int) ≤ ft2_123.toInt ∧ ft2_123.toInt ≤ 4 by omega, show (0 : Int) ≤ ft3_123.toInt ∧ ft3_123.toInt ≤ 900 by omega, hah10_123, hah12_123, show (0 : Int) ≤ (0 : Int32).toInt ∧ (0 : Int32).toInt ≤ 1 by have kk : (0 : Int32).toInt = 0 := (by decide); omega⟩) (Nat.le_of_ble_eq_true rfl) (Nat.le_of_ble_eq_true rfl)
      · have zc65001 := neK rfl (show (0 : Int32).toInt = 0 by decide) c65001
        refine lv_aload_n hx hb dX6_readLine_127 rfl (lv_at hl 0 rfl) ?_
        refine behDi (wr := (uX3 cs adh qh (upd (upd (upd (upd (upd (upd Fh 1 fh1_123) 2 fh2_123) 3 fh3_123) 4 fh4_123) 5 fh5_123) 6 fh6_123) (vA (vA (vA (vA (vA (vA (vA Ah 7 ah7_123) 8 ah8_123) 9 ah9_123) 10 ah10_123) 11 ah11_123) 12 ah12_123) 13 ah13_123) Bh Dh)) (runVD (As := []) (rest := []) ⟨hx, hb, hml, hown, ht⟩ (sX6_takeSign l G cs adt qt (upd (upd (upd (upd (upd (upd Ft 1 ft1_123) 2 ft2_123) 3 ft3_123) 4 ft4_123) 5 ft5_123) 6 ft6_123) At Bt Dt (IB_put (k := 6) (IB_put (k := 5) (IB_put (k := 4) (IB_put (k := 3) (IB_put (k := 2) (IB_put (k := 1) hIt (show (0 : Int) ≤ ft1_123.toInt ∧ ft1_123.toInt ≤ 900 by omega)) (show (0 : Int) ≤ ft2_123.toInt ∧ ft2_123.toInt ≤ 4 by omega)) (show (0 : Int) ≤ ft3_123.toInt ∧ ft3_123.toInt ≤ 900 by omega)) (i32b _)) (i32b _)) (i32b _)) qtp Ftp Atp Btp Dtp hItp ) okV_RX6_79 ⟨by decide, by decide⟩ hK hP hD [0, 1, 2] rfl (by decide) rfl 0 rfl rfl hl.1 rfl (Nat.le_of_ble_eq_true rfl) dX6_readLine_128 ⟨(Nat.le_of_ble_eq_true rfl), (Nat.le_of_ble_eq_true rfl)⟩) hP hD hS hA [0, 1, 2] [3, 4, 5, 6, 7, 8, 9, 10] rfl rfl (by decide) (by decide) (fun r9 u H locs hu hP hD hS => ?_)
        obtain ⟨x65002, x65003, x65004, x65005, x65006, x65007⟩ := u
        obtain ⟨r65008, rfl⟩ : ∃ z, z = r9 := ⟨_, rfl⟩
        obtain ⟨hbx65002, hbx65003, hbx65004, hr65008⟩ := hu
        have hbx65002 : (0 : Int) ≤ x65002.toInt ∧ x65002.toInt ≤ 900 := hbx65002
        have hbx65003 : (0 : Int) ≤ x65003.toInt ∧ x65003.toInt ≤ 4 := hbx65003
        have hbx65004 : (0 : Int) ≤ x65004.toInt ∧ x65004.toInt ≤ 900 := hbx65004
        have hr65008 : (0 : Int) ≤ r65008.toInt ∧ r65008.toInt ≤ 1 := hr65008
        have hP : va_P G vwCl ((uX6 cs adt qt (upd (upd (upd (upd (upd (upd Ft 1 x65002) 2 x65003) 3 x65004) 4 x65005) 5 x65006) 6 x65007) At Bt Dt) ++ ((uX9 cs (qt 0) qtp Ftp Atp Btp Dtp) ++ (uX3 cs adh qh (upd (upd (upd (upd (upd (upd Fh 1 fh1_123) 2 fh2_123) 3 fh3_123) 4 fh4_123) 5 fh5_123) 6 fh6_123) (vA (vA (vA (vA (vA (vA (vA Ah 7 ah7_123) 8 ah8_123) 9 ah9_123) 10 ah10_123) 11 ah11_123) 12 ah12_123) 13 ah13_123) Bh Dh))) H := hP.sub [8, 9, 10, 0, 1, 2, 3, 4, 5, 6, 7] rfl
        have hD : va_D A0 ((uX6 cs adt qt (upd (upd (upd (upd (upd (upd Ft 1 x65002) 2 x65003) 3 x65004) 4 x65005) 5 x65006) 6 x65007) At Bt Dt) ++ ((uX9 cs (qt 0) qtp Ftp Atp Btp Dtp) ++ (uX3 cs adh qh (upd (upd (upd (upd (upd (upd Fh 1 fh1_123) 2 fh2_123) 3 fh3_123) 4 fh4_123) 5 fh5_123) 6 fh6_123) (vA (vA (vA (vA (vA (vA (vA Ah 7 ah7_123) 8 ah8_123) 9 ah9_123) 10 ah10_123) 11 ah11_123) 12 ah12_123) 13 ah13_123) Bh Dh))) := hD.sub [8, 9, 10, 0, 1, 2, 3, 4, 5, 6, 7] (by decide) rfl
        refine lv_if_ne (tgt := 136) hx hb dX6_readLine_131 (by decide) (fun c65009 => ?_) (fun c65009 => ?_)
        · have zc65009 := neK rfl (show (0 : Int32).toInt = 0 by decide) c65009
          refine lv_aload_n hx hb dX6_readLine_136 rfl (lv_at hl 1 rfl) ?_
          refine lv_dup hx hb dX6_readLine_137 rfl ?_
          refine getF (v := .int (Fh 0)) hx hb ht hown hK hP iTX3 3 0 rfl rfl (by decide) fl_RX6_43 rfl dX6_readLine_138 ?_
          refine lv_iconst (v := 1) hx hb dX6_readLine_141 (by decide) ?_
          refine lv_iadd hx hb dX6_readLine_142 ?_
          refine lv_topi (fun v65010 ev65010 => ?_)
          refine putD hx hb ht hown hK hP hD hS iTX3 tyX3 tyX3_ok nmX3 3 0 rfl rfl (by decide) fl_RX6_43 rfl rfl rfl (Nat.le_of_ble_eq_true rfl) dX6_readLine_143 (fun H locs hP hD hS => ?_)
          have hP : va_P G vwCl ((uX6 cs adt qt (upd (upd (upd (upd (upd (upd Ft 1 x65002) 2 x65003) 3 x65004) 4 x65005) 5 x65006) 6 x65007) At Bt Dt) ++ ((uX9 cs (qt 0) qtp Ftp Atp Btp Dtp) ++ (uX3 cs adh qh (upd (upd (upd (upd (upd (upd (upd Fh 0 v65010) 1 fh1_123) 2 fh2_123) 3 fh3_123) 4 fh4_123) 5 fh5_123) 6 fh6_123) (vA (vA (vA (vA (vA (vA (vA Ah 7 ah7_123) 8 ah8_123) 9 ah9_123) 10 ah10_123) 11 ah11_123) 12 ah12_123) 13 ah13_123) Bh Dh))) H := hP
          have hD : va_D A0 ((uX6 cs adt qt (upd (upd (upd (upd (upd (upd Ft 1 x65002) 2 x65003) 3 x65004) 4 x65005) 5 x65006) 6 x65007) At Bt Dt) ++ ((uX9 cs (qt 0) qtp Ftp Atp Btp Dtp) ++ (uX3 cs adh qh (upd (upd (upd (upd (upd (upd (upd Fh 0 v65010) 1 fh1_123) 2 fh2_123) 3 fh3_123) 4 fh4_123) 5 fh5_123) 6 fh6_123) (vA (vA (vA (vA (vA (vA (vA Ah 7 ah7_123) 8 ah8_123) 9 ah9_123) 10 ah10_123) 11 ah11_123) 12 ah12_123) 13 ah13_123) Bh Dh))) := hD
          refine lv_iconst (v := 1) hx hb dX6_readLine_146 (by decide) ?_
          exact retDz (v65010, fh1_123, fh2_123, fh3_123, fh4_123, fh5_123, fh6_123, x65002, x65003, x65004, x65005, x65006, x65007, ah7_123, ah8_123, ah9_123, ah10_123, ah11_123, ah12_123, ah13_123) hx hb hr hlk hP hD hS dX6_readLine_147 (rfl) (⟨show (0 : Int) ≤ fh5_123.toInt ∧ fh5_123.toInt ≤ 7 by omega, show (0 : Int) ≤ fh6_123.toInt ∧ fh6_123.toInt ≤ 6 by omega, show (0 : Int) ≤ x65002.toInt ∧ x65002.toInt ≤ 900 by omega, show (0 : Int) ≤ x65003.toInt ∧ x65003.toInt ≤ 4 by omega, show (0 : Int) ≤ x65004.toInt ∧ x65004.toInt ≤ 900 by omega, hah10_123, hah12_123, show (0 : Int) ≤ (1 : Int32).toInt ∧ (1 : Int32).toInt ≤ 1 by have kk : (1 : Int32).toInt = 1 := (by decide); omega⟩) (Nat.le_of_ble_eq_true rfl) (Nat.le_of_ble_eq_true rfl)
        · have zc65009 := eqK rfl (show (0 : Int32).toInt = 0 by decide) c65009
          refine lv_iconst (v := 0) hx hb dX6_readLine_134 (by decide) ?_
          exact retDz ((Fh 0), fh1_123, fh2_123, fh3_123, fh4_123, fh5_123, fh6_123, x65002, x65003, x65004, x65005, x65006, x65007, ah7_123, ah8_123, ah9_123, ah10_123, ah11_123, ah12_123, ah13_123) hx hb hr hlk hP hD hS dX6_readLine_135 (rfl) (⟨show (0 : Int) ≤ fh5_123.toInt ∧ fh5_123.toInt ≤ 7 by omega, show (0 : Int) ≤ fh6_123.toInt ∧ fh6_123.toInt ≤ 6 by omega, show (0 : Int) ≤ x65002.toInt ∧ x65002.toInt ≤ 900 by omega, show (0 : Int) ≤ x65003.toInt ∧ x65003.toInt ≤ 4 by omega, show (0 : Int) ≤ x65004.toInt ∧ x65004.toInt ≤ 900 by omega, hah10_123, hah12_123, show (0 : Int) ≤ (0 : Int32).toInt ∧ (0 : Int32).toInt ≤ 1 by have kk : (0 : Int32).toInt = 0 := (by decide); omega⟩) (Nat.le_of_ble_eq_true rfl) (Nat.le_of_ble_eq_true rfl)
    refine lv_icmp_eq (tgt := 32) hx hb dX6_readLine_20 (by decide) (fun c7002 => ?_) (fun c7002 => ?_)
    · have zc7002 := eqK rfl rfl c7002
      refine lv_iload_n hx hb dX6_readLine_32 rfl (lv_at hl 0 rfl) ?_
      refine lv_if_eq (tgt := 45) hx hb dX6_readLine_33 (by decide) (fun c7003 => ?_) (fun c7003 => ?_)
      · have zc7003 := eqK rfl (show (0 : Int32).toInt = 0 by decide) c7003
        refine lv_aload_n hx hb dX6_readLine_45 rfl (lv_at hl 1 rfl) ?_
        refine va_ldcS hx hb hown (hQ.2.2.2 _ (List.mem_of_getElem? (i := 5) rfl)) dX6_readLine_46 ?_
        refine behR (runVPS (As := [.ref ((sd 5).1)]) (rest := []) ⟨hx, hb, hml, hown, ht⟩ (sX6_isWord l G cs sd adt qt Ft At Bt Dt hIt qtp Ftp Atp Btp Dtp hItp 5 (by decide) ) okV_RX6_48 ⟨by decide, by decide⟩ hK hP hQ hS hA [0, 1, 2] rfl 0 rfl rfl hl.1 rfl (Nat.le_of_ble_eq_true rfl) dX6_readLine_48 ⟨by decide, by decide⟩) hP hS hA (fun r7004 H locs hr7004 hP hS => ?_)
        have hr7004 : (0 : Int) ≤ r7004.toInt ∧ r7004.toInt ≤ 1 := hr7004
        refine lv_if_eq (tgt := 63) hx hb dX6_readLine_51 (by decide) (fun c7005 => ?_) (fun c7005 => ?_)
        · have zc7005 := eqK rfl (show (0 : Int32).toInt = 0 by decide) c7005
          refine lv_aload_n hx hb dX6_readLine_63 rfl (lv_at hl 1 rfl) ?_
          refine va_ldcS hx hb hown (hQ.2.2.2 _ (List.mem_of_getElem? (i := 9) rfl)) dX6_readLine_64 ?_
          refine behR (runVPS (As := [.ref ((sd 9).1)]) (rest := []) ⟨hx, hb, hml, hown, ht⟩ (sX6_isWord l G cs sd adt qt Ft At Bt Dt hIt qtp Ftp Atp Btp Dtp hItp 9 (by decide) ) okV_RX6_48 ⟨by decide, by decide⟩ hK hP hQ hS hA [0, 1, 2] rfl 0 rfl rfl hl.1 rfl (Nat.le_of_ble_eq_true rfl) dX6_readLine_66 ⟨by decide, by decide⟩) hP hS hA (fun r7006 H locs hr7006 hP hS => ?_)
          have hr7006 : (0 : Int) ≤ r7006.toInt ∧ r7006.toInt ≤ 1 := hr7006
          refine lv_if_eq (tgt := 81) hx hb dX6_readLine_69 (by decide) (fun c7007 => ?_) (fun c7007 => ?_)
          · have zc7007 := eqK rfl (show (0 : Int32).toInt = 0 by decide) c7007
            refine lv_aload_n hx hb dX6_readLine_81 rfl (lv_at hl 1 rfl) ?_
            refine va_ldcS hx hb hown (hQ.2.2.2 _ (List.mem_of_getElem? (i := 10) rfl)) dX6_readLine_82 ?_
            refine behR (runVPS (As := [.ref ((sd 10).1)]) (rest := []) ⟨hx, hb, hml, hown, ht⟩ (sX6_isWord l G cs sd adt qt Ft At Bt Dt hIt qtp Ftp Atp Btp Dtp hItp 10 (by decide) ) okV_RX6_48 ⟨by decide, by decide⟩ hK hP hQ hS hA [0, 1, 2] rfl 0 rfl rfl hl.1 rfl (Nat.le_of_ble_eq_true rfl) dX6_readLine_84 ⟨by decide, by decide⟩) hP hS hA (fun r7008 H locs hr7008 hP hS => ?_)
            have hr7008 : (0 : Int) ≤ r7008.toInt ∧ r7008.toInt ≤ 1 := hr7008
            refine lv_if_eq (tgt := 99) hx hb dX6_readLine_87 (by decide) (fun c7009 => ?_) (fun c7009 => ?_)
            · have zc7009 := eqK rfl (show (0 : Int32).toInt = 0 by decide) c7009
              refine lv_aload_n hx hb dX6_readLine_99 rfl (lv_at hl 1 rfl) ?_
              refine va_ldcS hx hb hown (hQ.2.2.2 _ (List.mem_of_getElem? (i := 13) rfl)) dX6_readLine_100 ?_
              refine behR (runVPS (As := [.ref ((sd 13).1)]) (rest := []) ⟨hx, hb, hml, hown, ht⟩ (sX6_isWord l G cs sd adt qt Ft At Bt Dt hIt qtp Ftp Atp Btp Dtp hItp 13 (by decide) ) okV_RX6_48 ⟨by decide, by decide⟩ hK hP hQ hS hA [0, 1, 2] rfl 0 rfl rfl hl.1 rfl (Nat.le_of_ble_eq_true rfl) dX6_readLine_102 ⟨by decide, by decide⟩) hP hS hA (fun r7010 H locs hr7010 hP hS => ?_)
              have hr7010 : (0 : Int) ≤ r7010.toInt ∧ r7010.toInt ≤ 1 := hr7010
              refine lv_if_eq (tgt := 117) hx hb dX6_readLine_105 (by decide) (fun c7011 => ?_) (fun c7011 => ?_)
              · have zc7011 := eqK rfl (show (0 : Int32).toInt = 0 by decide) c7011
                refine lv_aload_n hx hb dX6_readLine_117 rfl (lv_at hl 1 rfl) ?_
                refine lv_iconst (v := 1) hx hb dX6_readLine_118 (by decide) ?_
                refine behDi (wr := (uX3 cs adh qh Fh Ah Bh Dh)) (runVD (As := [.int 1]) (rest := []) ⟨hx, hb, hml, hown, ht⟩ (sX6_fail l G cs adt qt Ft At Bt Dt hIt qtp Ftp Atp Btp Dtp hItp 1 ) okV_RX6_52 ⟨by decide, by decide⟩ hK hP hD [0, 1, 2] rfl (by decide) rfl 0 rfl rfl hl.1 rfl (Nat.le_of_ble_eq_true rfl) dX6_readLine_119 ⟨(Nat.le_of_ble_eq_true rfl), (Nat.le_of_ble_eq_true rfl)⟩) hP hD hS hA [0, 1, 2] [3, 4, 5, 6, 7, 8, 9, 10] rfl rfl (by decide) (by decide) (fun r9 u H locs hu hP hD hS => ?_)
                obtain ⟨x7012, x7013⟩ := u
                have kk7015 : (1 : Int32).toInt = 1 := by decide
                obtain ⟨r7014, rfl⟩ : ∃ z, z = r9 := ⟨_, rfl⟩
                have hr7014 := hu
                have hr7014 : r7014.toInt = 0 := hr7014
                have hP : va_P G vwCl ((uX6 cs adt qt (upd (upd Ft 5 x7012) 6 x7013) At Bt Dt) ++ ((uX9 cs (qt 0) qtp Ftp Atp Btp Dtp) ++ (uX3 cs adh qh Fh Ah Bh Dh))) H := hP.sub [8, 9, 10, 0, 1, 2, 3, 4, 5, 6, 7] rfl
                have hD : va_D A0 ((uX6 cs adt qt (upd (upd Ft 5 x7012) 6 x7013) At Bt Dt) ++ ((uX9 cs (qt 0) qtp Ftp Atp Btp Dtp) ++ (uX3 cs adh qh Fh Ah Bh Dh))) := hD.sub [8, 9, 10, 0, 1, 2, 3, 4, 5, 6, 7] (by decide) rfl
                refine lv_istore_n (lv' := [(3, .int r7014), (2, .int s12_0), (0, .ref adt), (1, .ref adh)]) hx hb dX6_readLine_122 rfl hl (by decide) rfl (fun ls hl => ?_)
                exact B123 r7014 (Fh 1) (Fh 2) (Fh 3) (Fh 4) (Fh 5) (Fh 6) (Ft 1) (Ft 2) (Ft 3) (Ft 4) x7012 x7013 (Ah 7) (Ah 8) (Ah 9) (Ah 10) (Ah 11) (Ah 12) (Ah 13) H locs ls (by omega) (hIh.1 5) (hIh.1 6) (hIt.1 1) (hIt.1 2) (hIt.1 3) (fun j => hIh.2 10 j) (fun j => hIh.2 12 j) hP hD hS (lv_sub hl [2, 3, 0] rfl)
              · have zc7011 := neK rfl (show (0 : Int32).toInt = 0 by decide) c7011
                refine lv_aload_n hx hb dX6_readLine_108 rfl (lv_at hl 1 rfl) ?_
                refine lv_aload_n hx hb dX6_readLine_109 rfl (lv_at hl 2 rfl) ?_
                refine behDi (wr := ([] : va_W)) (runVDS (As := [.ref adh]) (rest := []) ⟨hx, hb, hml, hown, ht⟩ (sX6_readSlate l G cs sd adt qt Ft At Bt Dt hIt qtp Ftp Atp Btp Dtp hItp adh qh Fh Ah Bh Dh hIh ) okV_RX6_76 ⟨by decide, by decide⟩ hK hP hD hQ hS hA [0, 1, 2, 3, 4, 5, 6, 7, 8, 9, 10] rfl (by decide) rfl 0 rfl rfl hl.1 rfl (Nat.le_of_ble_eq_true rfl) dX6_readLine_110 ⟨(Nat.le_of_ble_eq_true rfl), (Nat.le_of_ble_eq_true rfl)⟩) hP hD hS hA [0, 1, 2, 3, 4, 5, 6, 7, 8, 9, 10] [] rfl rfl (by decide) (by decide) (fun r9 u H locs hu hP hD hS => ?_)
                obtain ⟨x7016, x7017, x7018, x7019, x7020, x7021, g7022⟩ := u
                obtain ⟨r7023, rfl⟩ : ∃ z, z = r9 := ⟨_, rfl⟩
                obtain ⟨hbx7016, hbx7017, hbx7018, hr7023⟩ := hu
                have hbx7016 : (0 : Int) ≤ x7016.toInt ∧ x7016.toInt ≤ 900 := hbx7016
                have hbx7017 : (0 : Int) ≤ x7017.toInt ∧ x7017.toInt ≤ 4 := hbx7017
                have hbx7018 : (0 : Int) ≤ x7018.toInt ∧ x7018.toInt ≤ 900 := hbx7018
                have hr7023 : (0 : Int) ≤ r7023.toInt ∧ r7023.toInt ≤ 1 := hr7023
                have hP : va_P G vwCl ((uX6 cs adt qt (upd (upd (upd (upd (upd (upd Ft 1 x7016) 2 x7017) 3 x7018) 4 x7019) 5 x7020) 6 x7021) At Bt Dt) ++ ((uX9 cs (qt 0) qtp Ftp Atp Btp Dtp) ++ (uX3 cs adh qh Fh (vA Ah 13 g7022) Bh Dh))) H := hP.sub [0, 1, 2, 3, 4, 5, 6, 7, 8, 9, 10] rfl
                have hD : va_D A0 ((uX6 cs adt qt (upd (upd (upd (upd (upd (upd Ft 1 x7016) 2 x7017) 3 x7018) 4 x7019) 5 x7020) 6 x7021) At Bt Dt) ++ ((uX9 cs (qt 0) qtp Ftp Atp Btp Dtp) ++ (uX3 cs adh qh Fh (vA Ah 13 g7022) Bh Dh))) := hD.sub [0, 1, 2, 3, 4, 5, 6, 7, 8, 9, 10] (by decide) rfl
                refine lv_istore_n (lv' := [(3, .int r7023), (2, .int s12_0), (0, .ref adt), (1, .ref adh)]) hx hb dX6_readLine_113 rfl hl (by decide) rfl (fun ls hl => ?_)
                refine lv_goto (tgt := 123) hx hb dX6_readLine_114 (by decide) ?_
                exact B123 r7023 (Fh 1) (Fh 2) (Fh 3) (Fh 4) (Fh 5) (Fh 6) x7016 x7017 x7018 x7019 x7020 x7021 (Ah 7) (Ah 8) (Ah 9) (Ah 10) (Ah 11) (Ah 12) g7022 H locs ls (by omega) (hIh.1 5) (hIh.1 6) (by omega) (by omega) (by omega) (fun j => hIh.2 10 j) (fun j => hIh.2 12 j) hP hD hS (lv_sub hl [2, 3, 0] rfl)
            · have zc7009 := neK rfl (show (0 : Int32).toInt = 0 by decide) c7009
              refine lv_aload_n hx hb dX6_readLine_90 rfl (lv_at hl 1 rfl) ?_
              refine lv_aload_n hx hb dX6_readLine_91 rfl (lv_at hl 2 rfl) ?_
              refine behDi (wr := ([] : va_W)) (runVDS (As := [.ref adh]) (rest := []) ⟨hx, hb, hml, hown, ht⟩ (sX6_readMan l G cs sd adt qt Ft At Bt Dt hIt qtp Ftp Atp Btp Dtp hItp adh qh Fh Ah Bh Dh hIh ) okV_RX6_71 ⟨by decide, by decide⟩ hK hP hD hQ hS hA [0, 1, 2, 3, 4, 5, 6, 7, 8, 9, 10] rfl (by decide) rfl 0 rfl rfl hl.1 rfl (Nat.le_of_ble_eq_true rfl) dX6_readLine_92 ⟨(Nat.le_of_ble_eq_true rfl), (Nat.le_of_ble_eq_true rfl)⟩) hP hD hS hA [0, 1, 2, 3, 4, 5, 6, 7, 8, 9, 10] [] rfl rfl (by decide) (by decide) (fun r9 u H locs hu hP hD hS => ?_)
              obtain ⟨x7024, x7025, x7026, x7027, x7028, x7029, x7030, g7031, g7032, g7033⟩ := u
              obtain ⟨r7034, rfl⟩ : ∃ z, z = r9 := ⟨_, rfl⟩
              obtain ⟨hbx7024, hbx7025, hbx7026, hbx7027, hg7032, hr7034⟩ := hu
              have hbx7024 : (0 : Int) ≤ x7024.toInt ∧ x7024.toInt ≤ 6 := hbx7024
              have hbx7025 : (0 : Int) ≤ x7025.toInt ∧ x7025.toInt ≤ 900 := hbx7025
              have hbx7026 : (0 : Int) ≤ x7026.toInt ∧ x7026.toInt ≤ 4 := hbx7026
              have hbx7027 : (0 : Int) ≤ x7027.toInt ∧ x7027.toInt ≤ 900 := hbx7027
              have hg7032 : AJ (0) 63 g7032 := hg7032
              have hr7034 : (0 : Int) ≤ r7034.toInt ∧ r7034.toInt ≤ 1 := hr7034
              have hP : va_P G vwCl ((uX6 cs adt qt (upd (upd (upd (upd (upd (upd Ft 1 x7025) 2 x7026) 3 x7027) 4 x7028) 5 x7029) 6 x7030) At Bt Dt) ++ ((uX9 cs (qt 0) qtp Ftp Atp Btp Dtp) ++ (uX3 cs adh qh (upd Fh 6 x7024) (vA (vA (vA Ah 11 g7031) 12 g7032) 13 g7033) Bh Dh))) H := hP.sub [0, 1, 2, 3, 4, 5, 6, 7, 8, 9, 10] rfl
              have hD : va_D A0 ((uX6 cs adt qt (upd (upd (upd (upd (upd (upd Ft 1 x7025) 2 x7026) 3 x7027) 4 x7028) 5 x7029) 6 x7030) At Bt Dt) ++ ((uX9 cs (qt 0) qtp Ftp Atp Btp Dtp) ++ (uX3 cs adh qh (upd Fh 6 x7024) (vA (vA (vA Ah 11 g7031) 12 g7032) 13 g7033) Bh Dh))) := hD.sub [0, 1, 2, 3, 4, 5, 6, 7, 8, 9, 10] (by decide) rfl
              refine lv_istore_n (lv' := [(3, .int r7034), (2, .int s12_0), (0, .ref adt), (1, .ref adh)]) hx hb dX6_readLine_95 rfl hl (by decide) rfl (fun ls hl => ?_)
              refine lv_goto (tgt := 123) hx hb dX6_readLine_96 (by decide) ?_
              exact B123 r7034 (Fh 1) (Fh 2) (Fh 3) (Fh 4) (Fh 5) x7024 x7025 x7026 x7027 x7028 x7029 x7030 (Ah 7) (Ah 8) (Ah 9) (Ah 10) g7031 g7032 g7033 H locs ls (by omega) (hIh.1 5) (by omega) (by omega) (by omega) (by omega) (fun j => hIh.2 10 j) hg7032 hP hD hS (lv_sub hl [2, 3, 0] rfl)
          · have zc7007 := neK rfl (show (0 : Int32).toInt = 0 by decide) c7007
            refine lv_aload_n hx hb dX6_readLine_72 rfl (lv_at hl 1 rfl) ?_
            refine lv_aload_n hx hb dX6_readLine_73 rfl (lv_at hl 2 rfl) ?_
            refine behDi (wr := ([] : va_W)) (runVD (As := [.ref adh]) (rest := []) ⟨hx, hb, hml, hown, ht⟩ (sX6_readDoor l G cs adt qt Ft At Bt Dt hIt qtp Ftp Atp Btp Dtp hItp adh qh Fh Ah Bh Dh hIh ) okV_RX6_66 ⟨by decide, by decide⟩ hK hP hD [0, 1, 2, 3, 4, 5, 6, 7, 8, 9, 10] rfl (by decide) rfl 0 rfl rfl hl.1 rfl (Nat.le_of_ble_eq_true rfl) dX6_readLine_74 ⟨(Nat.le_of_ble_eq_true rfl), (Nat.le_of_ble_eq_true rfl)⟩) hP hD hS hA [0, 1, 2, 3, 4, 5, 6, 7, 8, 9, 10] [] rfl rfl (by decide) (by decide) (fun r9 u H locs hu hP hD hS => ?_)
            obtain ⟨x7035, x7036, x7037, x7038, x7039, x7040, g7041⟩ := u
            obtain ⟨r7042, rfl⟩ : ∃ z, z = r9 := ⟨_, rfl⟩
            obtain ⟨hbx7035, hbx7036, hbx7037, hg7041, hr7042⟩ := hu
            have hbx7035 : (0 : Int) ≤ x7035.toInt ∧ x7035.toInt ≤ 900 := hbx7035
            have hbx7036 : (0 : Int) ≤ x7036.toInt ∧ x7036.toInt ≤ 4 := hbx7036
            have hbx7037 : (0 : Int) ≤ x7037.toInt ∧ x7037.toInt ≤ 900 := hbx7037
            have hg7041 : AJ (0) 127 g7041 := hg7041
            have hr7042 : (0 : Int) ≤ r7042.toInt ∧ r7042.toInt ≤ 1 := hr7042
            have hP : va_P G vwCl ((uX6 cs adt qt (upd (upd (upd (upd (upd (upd Ft 1 x7035) 2 x7036) 3 x7037) 4 x7038) 5 x7039) 6 x7040) At Bt Dt) ++ ((uX9 cs (qt 0) qtp Ftp Atp Btp Dtp) ++ (uX3 cs adh qh Fh (vA Ah 10 g7041) Bh Dh))) H := hP.sub [0, 1, 2, 3, 4, 5, 6, 7, 8, 9, 10] rfl
            have hD : va_D A0 ((uX6 cs adt qt (upd (upd (upd (upd (upd (upd Ft 1 x7035) 2 x7036) 3 x7037) 4 x7038) 5 x7039) 6 x7040) At Bt Dt) ++ ((uX9 cs (qt 0) qtp Ftp Atp Btp Dtp) ++ (uX3 cs adh qh Fh (vA Ah 10 g7041) Bh Dh))) := hD.sub [0, 1, 2, 3, 4, 5, 6, 7, 8, 9, 10] (by decide) rfl
            refine lv_istore_n (lv' := [(3, .int r7042), (2, .int s12_0), (0, .ref adt), (1, .ref adh)]) hx hb dX6_readLine_77 rfl hl (by decide) rfl (fun ls hl => ?_)
            refine lv_goto (tgt := 123) hx hb dX6_readLine_78 (by decide) ?_
            exact B123 r7042 (Fh 1) (Fh 2) (Fh 3) (Fh 4) (Fh 5) (Fh 6) x7035 x7036 x7037 x7038 x7039 x7040 (Ah 7) (Ah 8) (Ah 9) g7041 (Ah 11) (Ah 12) (Ah 13) H locs ls (by omega) (hIh.1 5) (hIh.1 6) (by omega) (by omega) (by omega) hg7041 (fun j => hIh.2 12 j) hP hD hS (lv_sub hl [2, 3, 0] rfl)
        · have zc7005 := neK rfl (show (0 : Int32).toInt = 0 by decide) c7005
          refine lv_aload_n hx hb dX6_readLine_54 rfl (lv_at hl 1 rfl) ?_
          refine lv_aload_n hx hb dX6_readLine_55 rfl (lv_at hl 2 rfl) ?_
          refine behDi (wr := ([] : va_W)) (runVDS (As := [.ref adh]) (rest := []) ⟨hx, hb, hml, hown, ht⟩ (sX6_readRoom l G cs sd adt qt Ft At Bt Dt hIt qtp Ftp Atp Btp Dtp hItp adh qh Fh Ah Bh Dh hIh ) okV_RX6_61 ⟨by decide, by decide⟩ hK hP hD hQ hS hA [0, 1, 2, 3, 4, 5, 6, 7, 8, 9, 10] rfl (by decide) rfl 0 rfl rfl hl.1 rfl (Nat.le_of_ble_eq_true rfl) dX6_readLine_56 ⟨(Nat.le_of_ble_eq_true rfl), (Nat.le_of_ble_eq_true rfl)⟩) hP hD hS hA [0, 1, 2, 3, 4, 5, 6, 7, 8, 9, 10] [] rfl rfl (by decide) (by decide) (fun r9 u H locs hu hP hD hS => ?_)
          obtain ⟨x7043, x7044, x7045, x7046, x7047, x7048, x7049, g7050, g7051, g7052, g7053⟩ := u
          obtain ⟨r7054, rfl⟩ : ∃ z, z = r9 := ⟨_, rfl⟩
          obtain ⟨hbx7043, hbx7044, hbx7045, hbx7046, hg7053, hr7054⟩ := hu
          have hbx7043 : (0 : Int) ≤ x7043.toInt ∧ x7043.toInt ≤ 7 := hbx7043
          have hbx7044 : (0 : Int) ≤ x7044.toInt ∧ x7044.toInt ≤ 900 := hbx7044
          have hbx7045 : (0 : Int) ≤ x7045.toInt ∧ x7045.toInt ≤ 4 := hbx7045
          have hbx7046 : (0 : Int) ≤ x7046.toInt ∧ x7046.toInt ≤ 900 := hbx7046
          have hg7053 : AJ (0) 127 g7053 := hg7053
          have hr7054 : (0 : Int) ≤ r7054.toInt ∧ r7054.toInt ≤ 1 := hr7054
          have hP : va_P G vwCl ((uX6 cs adt qt (upd (upd (upd (upd (upd (upd Ft 1 x7044) 2 x7045) 3 x7046) 4 x7047) 5 x7048) 6 x7049) At Bt Dt) ++ ((uX9 cs (qt 0) qtp Ftp Atp Btp Dtp) ++ (uX3 cs adh qh (upd Fh 5 x7043) (vA (vA (vA (vA Ah 7 g7050) 8 g7051) 9 g7052) 10 g7053) Bh Dh))) H := hP.sub [0, 1, 2, 3, 4, 5, 6, 7, 8, 9, 10] rfl
          have hD : va_D A0 ((uX6 cs adt qt (upd (upd (upd (upd (upd (upd Ft 1 x7044) 2 x7045) 3 x7046) 4 x7047) 5 x7048) 6 x7049) At Bt Dt) ++ ((uX9 cs (qt 0) qtp Ftp Atp Btp Dtp) ++ (uX3 cs adh qh (upd Fh 5 x7043) (vA (vA (vA (vA Ah 7 g7050) 8 g7051) 9 g7052) 10 g7053) Bh Dh))) := hD.sub [0, 1, 2, 3, 4, 5, 6, 7, 8, 9, 10] (by decide) rfl
          refine lv_istore_n (lv' := [(3, .int r7054), (2, .int s12_0), (0, .ref adt), (1, .ref adh)]) hx hb dX6_readLine_59 rfl hl (by decide) rfl (fun ls hl => ?_)
          refine lv_goto (tgt := 123) hx hb dX6_readLine_60 (by decide) ?_
          exact B123 r7054 (Fh 1) (Fh 2) (Fh 3) (Fh 4) x7043 (Fh 6) x7044 x7045 x7046 x7047 x7048 x7049 g7050 g7051 g7052 g7053 (Ah 11) (Ah 12) (Ah 13) H locs ls (by omega) (by omega) (hIh.1 6) (by omega) (by omega) (by omega) hg7053 (fun j => hIh.2 12 j) hP hD hS (lv_sub hl [2, 3, 0] rfl)
      · have zc7003 := neK rfl (show (0 : Int32).toInt = 0 by decide) c7003
        refine lv_aload_n hx hb dX6_readLine_36 rfl (lv_at hl 1 rfl) ?_
        refine lv_aload_n hx hb dX6_readLine_37 rfl (lv_at hl 2 rfl) ?_
        refine behDi (wr := ([] : va_W)) (runVDS (As := [.ref adh]) (rest := []) ⟨hx, hb, hml, hown, ht⟩ (sX6_readFirst l G cs sd adt qt Ft At Bt Dt hIt qtp Ftp Atp Btp Dtp hItp adh qh Fh Ah Bh Dh hIh ) okV_RX6_56 ⟨by decide, by decide⟩ hK hP hD hQ hS hA [0, 1, 2, 3, 4, 5, 6, 7, 8, 9, 10] rfl (by decide) rfl 0 rfl rfl hl.1 rfl (Nat.le_of_ble_eq_true rfl) dX6_readLine_38 ⟨(Nat.le_of_ble_eq_true rfl), (Nat.le_of_ble_eq_true rfl)⟩) hP hD hS hA [0, 1, 2, 3, 4, 5, 6, 7, 8, 9, 10] [] rfl rfl (by decide) (by decide) (fun r9 u H locs hu hP hD hS => ?_)
        obtain ⟨x7055, x7056, x7057, x7058, x7059, x7060, x7061, x7062, x7063, x7064⟩ := u
        obtain ⟨r7065, rfl⟩ : ∃ z, z = r9 := ⟨_, rfl⟩
        obtain ⟨hbx7059, hbx7060, hbx7061, hr7065⟩ := hu
        have hbx7059 : (0 : Int) ≤ x7059.toInt ∧ x7059.toInt ≤ 900 := hbx7059
        have hbx7060 : (0 : Int) ≤ x7060.toInt ∧ x7060.toInt ≤ 4 := hbx7060
        have hbx7061 : (0 : Int) ≤ x7061.toInt ∧ x7061.toInt ≤ 900 := hbx7061
        have hr7065 : (0 : Int) ≤ r7065.toInt ∧ r7065.toInt ≤ 1 := hr7065
        have hP : va_P G vwCl ((uX6 cs adt qt (upd (upd (upd (upd (upd (upd Ft 1 x7059) 2 x7060) 3 x7061) 4 x7062) 5 x7063) 6 x7064) At Bt Dt) ++ ((uX9 cs (qt 0) qtp Ftp Atp Btp Dtp) ++ (uX3 cs adh qh (upd (upd (upd (upd Fh 1 x7055) 2 x7056) 3 x7057) 4 x7058) Ah Bh Dh))) H := hP.sub [0, 1, 2, 3, 4, 5, 6, 7, 8, 9, 10] rfl
        have hD : va_D A0 ((uX6 cs adt qt (upd (upd (upd (upd (upd (upd Ft 1 x7059) 2 x7060) 3 x7061) 4 x7062) 5 x7063) 6 x7064) At Bt Dt) ++ ((uX9 cs (qt 0) qtp Ftp Atp Btp Dtp) ++ (uX3 cs adh qh (upd (upd (upd (upd Fh 1 x7055) 2 x7056) 3 x7057) 4 x7058) Ah Bh Dh))) := hD.sub [0, 1, 2, 3, 4, 5, 6, 7, 8, 9, 10] (by decide) rfl
        refine lv_istore_n (lv' := [(3, .int r7065), (2, .int s12_0), (0, .ref adt), (1, .ref adh)]) hx hb dX6_readLine_41 rfl hl (by decide) rfl (fun ls hl => ?_)
        refine lv_goto (tgt := 123) hx hb dX6_readLine_42 (by decide) ?_
        exact B123 r7065 x7055 x7056 x7057 x7058 (Fh 5) (Fh 6) x7059 x7060 x7061 x7062 x7063 x7064 (Ah 7) (Ah 8) (Ah 9) (Ah 10) (Ah 11) (Ah 12) (Ah 13) H locs ls (by omega) (hIh.1 5) (hIh.1 6) (by omega) (by omega) (by omega) (fun j => hIh.2 10 j) (fun j => hIh.2 12 j) hP hD hS (lv_sub hl [2, 3, 0] rfl)
    · have zc7002 := neK rfl rfl c7002
      refine lv_aload_n hx hb dX6_readLine_23 rfl (lv_at hl 1 rfl) ?_
      refine lv_iconst (v := 1) hx hb dX6_readLine_24 (by decide) ?_
      refine behDi (wr := (uX3 cs adh qh Fh Ah Bh Dh)) (runVD (As := [.int 1]) (rest := []) ⟨hx, hb, hml, hown, ht⟩ (sX6_fail l G cs adt qt Ft At Bt Dt hIt qtp Ftp Atp Btp Dtp hItp 1 ) okV_RX6_52 ⟨by decide, by decide⟩ hK hP hD [0, 1, 2] rfl (by decide) rfl 0 rfl rfl hl.1 rfl (Nat.le_of_ble_eq_true rfl) dX6_readLine_25 ⟨(Nat.le_of_ble_eq_true rfl), (Nat.le_of_ble_eq_true rfl)⟩) hP hD hS hA [0, 1, 2] [3, 4, 5, 6, 7, 8, 9, 10] rfl rfl (by decide) (by decide) (fun r9 u H locs hu hP hD hS => ?_)
      obtain ⟨x7066, x7067⟩ := u
      have kk7069 : (1 : Int32).toInt = 1 := by decide
      obtain ⟨r7068, rfl⟩ : ∃ z, z = r9 := ⟨_, rfl⟩
      have hr7068 := hu
      have hr7068 : r7068.toInt = 0 := hr7068
      have hP : va_P G vwCl ((uX6 cs adt qt (upd (upd Ft 5 x7066) 6 x7067) At Bt Dt) ++ ((uX9 cs (qt 0) qtp Ftp Atp Btp Dtp) ++ (uX3 cs adh qh Fh Ah Bh Dh))) H := hP.sub [8, 9, 10, 0, 1, 2, 3, 4, 5, 6, 7] rfl
      have hD : va_D A0 ((uX6 cs adt qt (upd (upd Ft 5 x7066) 6 x7067) At Bt Dt) ++ ((uX9 cs (qt 0) qtp Ftp Atp Btp Dtp) ++ (uX3 cs adh qh Fh Ah Bh Dh))) := hD.sub [8, 9, 10, 0, 1, 2, 3, 4, 5, 6, 7] (by decide) rfl
      refine lv_istore_n (lv' := [(3, .int r7068), (2, .int s12_0), (0, .ref adt), (1, .ref adh)]) hx hb dX6_readLine_28 rfl hl (by decide) rfl (fun ls hl => ?_)
      refine lv_goto (tgt := 123) hx hb dX6_readLine_29 (by decide) ?_
      exact B123 r7068 (Fh 1) (Fh 2) (Fh 3) (Fh 4) (Fh 5) (Fh 6) (Ft 1) (Ft 2) (Ft 3) (Ft 4) x7066 x7067 (Ah 7) (Ah 8) (Ah 9) (Ah 10) (Ah 11) (Ah 12) (Ah 13) H locs ls (by omega) (hIh.1 5) (hIh.1 6) (hIt.1 1) (hIt.1 2) (hIt.1 3) (fun j => hIh.2 10 j) (fun j => hIh.2 12 j) hP hD hS (lv_sub hl [2, 3, 0] rfl)
  refine lv_if_ne (tgt := 11) hx hb dX6_readLine_4 (by decide) (fun c1 => ?_) (fun c1 => ?_)
  · have zc1 := neK rfl (show (0 : Int32).toInt = 0 by decide) c1
    refine lv_iconst (v := 0) hx hb dX6_readLine_11 (by decide) ?_
    exact B12 0 s.heap [] ls (by decide) hP hD hS (lv_sub hl [0, 1] rfl)
  · have zc1 := eqK rfl (show (0 : Int32).toInt = 0 by decide) c1
    refine lv_iconst (v := 1) hx hb dX6_readLine_7 (by decide) ?_
    refine lv_goto (tgt := 12) hx hb dX6_readLine_8 (by decide) ?_
    exact B12 1 s.heap [] ls (by decide) hP hD hS (lv_sub hl [0, 1] rfl)

