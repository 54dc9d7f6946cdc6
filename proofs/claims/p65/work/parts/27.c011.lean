set_option maxRecDepth 100000 in
set_option maxHeartbeats 16000000 in
theorem sX6_readMan (l : Launch) (G : va_G) (cs : Nat → ClassId) (sd : Nat → Nat × Nat) (adt : Nat) (qt : Nat → Nat) (Ft : Nat → Int32) (At : Nat → Nat → Int32) (Bt : Nat → Nat → Int64) (Dt : Int64) (hIt : IX6 Ft At) (qtp : Nat → Nat) (Ftp : Nat → Int32) (Atp : Nat → Nat → Int32) (Btp : Nat → Nat → Int64) (Dtp : Int64) (hItp : IX9 Ftp Atp) (adh : Nat) (qh : Nat → Nat) (Fh : Nat → Int32) (Ah : Nat → Nat → Int32) (Bh : Nat → Nat → Int64) (Dh : Int64) (hIh : IX3 Fh Ah) : ∀ sz : Nat, Met l yX6_readMan (wk yX6_readMan cX6_readMan 4 (some .boolean)) (rmk 6 0 0) (PreDS SRR sd G (TY cs) [.ref adt, .ref adh] ((uX6 cs adt qt Ft At Bt Dt) ++ ((uX9 cs (qt 0) qtp Ftp Atp Btp Dtp) ++ (uX3 cs adh qh Fh Ah Bh Dh))) sz) ((QDi G (fun (r : Int32) (u : Int32 × Int32 × Int32 × Int32 × Int32 × Int32 × Int32 × (Nat → Int32) × (Nat → Int32) × (Nat → Int32)) => ((0 : Int) ≤ u.1.toInt ∧ u.1.toInt ≤ 6) ∧ ((0 : Int) ≤ u.2.1.toInt ∧ u.2.1.toInt ≤ 900) ∧ ((0 : Int) ≤ u.2.2.1.toInt ∧ u.2.2.1.toInt ≤ 4) ∧ ((0 : Int) ≤ u.2.2.2.1.toInt ∧ u.2.2.2.1.toInt ≤ 900) ∧ AJ (0) 63 u.2.2.2.2.2.2.2.2.1 ∧ ((0 : Int) ≤ r.toInt ∧ r.toInt ≤ 1)) (fun u : Int32 × Int32 × Int32 × Int32 × Int32 × Int32 × Int32 × (Nat → Int32) × (Nat → Int32) × (Nat → Int32) => ((wX6 cs adt qt (upd (upd (upd (upd (upd (upd Ft 1 u.2.1) 2 u.2.2.1) 3 u.2.2.2.1) 4 u.2.2.2.2.1) 5 u.2.2.2.2.2.1) 6 u.2.2.2.2.2.2.1) At Bt Dt) ++ ((uX9 cs (qt 0) qtp Ftp Atp Btp Dtp) ++ (wX3 cs adh qh (upd Fh 6 u.1) (vA (vA (vA Ah 11 u.2.2.2.2.2.2.2.1) 12 u.2.2.2.2.2.2.2.2.1) 13 u.2.2.2.2.2.2.2.2.2) Bh Dh))))) (va_A ((uX6 cs adt qt Ft At Bt Dt) ++ ((uX9 cs (qt 0) qtp Ftp Atp Btp Dtp) ++ (uX3 cs adh qh Fh Ah Bh Dh))) sz)) 0 0 (va_A ((uX6 cs adt qt Ft At Bt Dt) ++ ((uX9 cs (qt 0) qtp Ftp Atp Btp Dtp) ++ (uX3 cs adh qh Fh Ah Bh Dh))) sz) := by
  refine mkDS (Qc := (QDi G (fun (r : Int32) (u : Int32 × Int32 × Int32 × Int32 × Int32 × Int32 × Int32 × (Nat → Int32) × (Nat → Int32) × (Nat → Int32)) => ((0 : Int) ≤ u.1.toInt ∧ u.1.toInt ≤ 6) ∧ ((0 : Int) ≤ u.2.1.toInt ∧ u.2.1.toInt ≤ 900) ∧ ((0 : Int) ≤ u.2.2.1.toInt ∧ u.2.2.1.toInt ≤ 4) ∧ ((0 : Int) ≤ u.2.2.2.1.toInt ∧ u.2.2.2.1.toInt ≤ 900) ∧ AJ (0) 63 u.2.2.2.2.2.2.2.2.1 ∧ ((0 : Int) ≤ r.toInt ∧ r.toInt ≤ 1)) (fun u : Int32 × Int32 × Int32 × Int32 × Int32 × Int32 × Int32 × (Nat → Int32) × (Nat → Int32) × (Nat → Int32) => ((wX6 cs adt qt (upd (upd (upd (upd (upd (upd Ft 1 u.2.1) 2 u.2.2.1) 3 u.2.2.2.1) 4 u.2.2.2.2.1) 5 u.2.2.2.2.2.1) 6 u.2.2.2.2.2.2.1) At Bt Dt) ++ ((uX9 cs (qt 0) qtp Ftp Atp Btp Dtp) ++ (wX3 cs adh qh (upd Fh 6 u.1) (vA (vA (vA Ah 11 u.2.2.2.2.2.2.2.1) 12 u.2.2.2.2.2.2.2.2.1) 13 u.2.2.2.2.2.2.2.2.2) Bh Dh)))))) (by decide) (by simp [lg_sl, Value.category]) ?_
  intro p e s m args below meth c ls A0 hx hb hml hr hlk hown hmn ht hK hP hD hS hA hQ hl
  have hl : lv_has ls 4 [(0, .ref adt), (1, .ref adh)] := hl
  refine lv_aload_n hx hb dX6_readMan_0 rfl (lv_at hl 1 rfl) ?_
  refine getF (v := .int (Fh 6)) hx hb ht hown hK hP iTX3 3 6 rfl rfl (by decide) fl_RX6_128 rfl dX6_readMan_1 ?_
  have zf1 : (0 : Int) ≤ (Fh 6).toInt ∧ (Fh 6).toInt ≤ 6 := hIh.1 6
  refine lv_bipush (v := 6) hx hb dX6_readMan_4 (by decide) ?_
  refine lv_icmp_lt (tgt := 15) hx hb dX6_readMan_6 (by decide) (fun c2 => ?_) (fun c2 => ?_)
  · have zc2 := ltK rfl (show (6 : Int32).toInt = 6 by decide) c2
    refine lv_aload_n hx hb dX6_readMan_15 rfl (lv_at hl 0 rfl) ?_
    refine behDw (wr := (uX3 cs adh qh Fh Ah Bh Dh)) (runVD (As := []) (rest := []) ⟨hx, hb, hml, hown, ht⟩ (sX6_advance l G cs adt qt Ft At Bt Dt hIt qtp Ftp Atp Btp Dtp hItp ) okV_RX6_33 ⟨by decide, by decide⟩ hK hP hD [0, 1, 2] rfl (by decide) rfl 0 rfl rfl hl.1 rfl (Nat.le_of_ble_eq_true rfl) dX6_readMan_16 ⟨(Nat.le_of_ble_eq_true rfl), (Nat.le_of_ble_eq_true rfl)⟩) hP hD hS hA [0, 1, 2] [3, 4, 5, 6, 7, 8, 9, 10] rfl rfl (by decide) (by decide) (fun u H locs hu hP hD hS => ?_)
    obtain ⟨x3, x4, x5, x6⟩ := u
    obtain ⟨hbx3, hbx4, hbx5, hr7⟩ := hu
    have hbx3 : (0 : Int) ≤ x3.toInt ∧ x3.toInt ≤ 900 := hbx3
    have hbx4 : (0 : Int) ≤ x4.toInt ∧ x4.toInt ≤ 4 := hbx4
    have hbx5 : (0 : Int) ≤ x5.toInt ∧ x5.toInt ≤ 900 := hbx5
    have hP : va_P G vwCl ((uX6 cs adt qt (upv 4 x6 (upv 3 x5 (upv 2 x4 (upv 1 x3 Ft)))) At Bt Dt) ++ ((uX9 cs (qt 0) qtp Ftp Atp Btp Dtp) ++ (uX3 cs adh qh Fh Ah Bh Dh))) H := hP.sub [8, 9, 10, 0, 1, 2, 3, 4, 5, 6, 7] rfl
    have hD : va_D A0 ((uX6 cs adt qt (upv 4 x6 (upv 3 x5 (upv 2 x4 (upv 1 x3 Ft)))) At Bt Dt) ++ ((uX9 cs (qt 0) qtp Ftp Atp Btp Dtp) ++ (uX3 cs adh qh Fh Ah Bh Dh))) := hD.sub [8, 9, 10, 0, 1, 2, 3, 4, 5, 6, 7] (by decide) rfl
    refine lv_aload_n hx hb dX6_readMan_19 rfl (lv_at hl 0 rfl) ?_
    have hz8 : vk_R "CallForBrown$Reader" 131 "weighs" (sd 11).1 s := hQ.2.2.2 ("CallForBrown$Reader", 131, "weighs", 11) (List.mem_of_getElem? (i := 11) rfl)
    refine va_ldcS hx hb hown hz8 dX6_readMan_20 ?_
    refine lv_iconst (v := 1) hx hb dX6_readMan_22 (by decide) ?_
    refine lv_bipush (v := 99) hx hb dX6_readMan_23 (by decide) ?_
    refine behDi (wr := (uX3 cs adh qh Fh Ah Bh Dh)) (runVDS (As := [.ref ((sd 11).1), .int 1, .int 99]) (rest := []) ⟨hx, hb, hml, hown, ht⟩ (sX6_takeNamed l G cs sd adt qt (upv 4 x6 (upv 3 x5 (upv 2 x4 (upv 1 x3 Ft)))) At Bt Dt (IB_pv (k := 4) (IB_pv (k := 3) (IB_pv (k := 2) (IB_pv (k := 1) hIt (show (0 : Int) ≤ x3.toInt ∧ x3.toInt ≤ 900 by omega)) (show (0 : Int) ≤ x4.toInt ∧ x4.toInt ≤ 4 by omega)) (show (0 : Int) ≤ x5.toInt ∧ x5.toInt ≤ 900 by omega)) (i32b _)) qtp Ftp Atp Btp Dtp hItp 11 (by decide) 1 99 ) okV_RX6_85 ⟨by decide, by decide⟩ hK hP hD hQ hS hA [0, 1, 2] rfl (by decide) rfl 0 rfl rfl hl.1 rfl (Nat.le_of_ble_eq_true rfl) dX6_readMan_25 ⟨(Nat.le_of_ble_eq_true rfl), (Nat.le_of_ble_eq_true rfl)⟩) hP hD hS hA [0, 1, 2] [3, 4, 5, 6, 7, 8, 9, 10] rfl rfl (by decide) (by decide) (fun r9 u H locs hu hP hD hS => ?_)
    obtain ⟨x9, x10, x11, x12, x13, x14⟩ := u
    have kk16 : (1 : Int32).toInt = 1 := by decide
    have kk17 : (99 : Int32).toInt = 99 := by decide
    obtain ⟨r15, rfl⟩ : ∃ z, z = r9 := ⟨_, rfl⟩
    obtain ⟨hbx9, hbx10, hbx11, hr15⟩ := hu
    have hbx9 : (0 : Int) ≤ x9.toInt ∧ x9.toInt ≤ 900 := hbx9
    have hbx10 : (0 : Int) ≤ x10.toInt ∧ x10.toInt ≤ 4 := hbx10
    have hbx11 : (0 : Int) ≤ x11.toInt ∧ x11.toInt ≤ 900 := hbx11
    have hr15 : TNk r15 ((1 : Int32).toInt) ((99 : Int32).toInt) := hr15
    have hP : va_P G vwCl ((uX6 cs adt qt (upv 6 x14 (upv 5 x13 (upv 4 x12 (upv 3 x11 (upv 2 x10 (upv 1 x9 Ft)))))) At Bt Dt) ++ ((uX9 cs (qt 0) qtp Ftp Atp Btp Dtp) ++ (uX3 cs adh qh Fh Ah Bh Dh))) H := hP.sub [8, 9, 10, 0, 1, 2, 3, 4, 5, 6, 7] rfl
    have hD : va_D A0 ((uX6 cs adt qt (upv 6 x14 (upv 5 x13 (upv 4 x12 (upv 3 x11 (upv 2 x10 (upv 1 x9 Ft)))))) At Bt Dt) ++ ((uX9 cs (qt 0) qtp Ftp Atp Btp Dtp) ++ (uX3 cs adh qh Fh Ah Bh Dh))) := hD.sub [8, 9, 10, 0, 1, 2, 3, 4, 5, 6, 7] (by decide) rfl
    refine lv_istore_n (lv' := [(2, .int r15), (0, .ref adt), (1, .ref adh)]) hx hb dX6_readMan_28 rfl hl (by decide) rfl (fun ls hl => ?_)
    refine lv_iconst (v := 0) hx hb dX6_readMan_29 (by decide) ?_
    refine lv_istore_n (lv' := [(3, .int 0), (2, .int r15), (0, .ref adt), (1, .ref adh)]) hx hb dX6_readMan_30 rfl hl (by decide) rfl (fun ls hl => ?_)
    refine lv_aload_n hx hb dX6_readMan_31 rfl (lv_at hl 2 rfl) ?_
    refine getF (v := .int x13) hx hb ht hown hK hP iTX6 0 5 rfl rfl (by decide) fl_RX6_27 rfl dX6_readMan_32 ?_
    have B56 : ∀ (x56_3 : Int32) (ft1_56 : Int32) (ft2_56 : Int32) (ft3_56 : Int32) (ft4_56 : Int32) (ft5_56 : Int32) (ft6_56 : Int32) (H : Heap) (locs : List Loc) (ls : Array Slot), (0 : Int) ≤ x56_3.toInt ∧ x56_3.toInt ≤ 63 → (0 : Int) ≤ ft1_56.toInt ∧ ft1_56.toInt ≤ 900 → (0 : Int) ≤ ft2_56.toInt ∧ ft2_56.toInt ≤ 4 → (0 : Int) ≤ ft3_56.toInt ∧ ft3_56.toInt ≤ 900 → va_P G vwCl ((uX6 cs adt qt (upv 6 ft6_56 (upv 5 ft5_56 (upv 4 ft4_56 (upv 3 ft3_56 (upv 2 ft2_56 (upv 1 ft1_56 Ft)))))) At Bt Dt) ++ ((uX9 cs (qt 0) qtp Ftp Atp Btp Dtp) ++ (uX3 cs adh qh Fh Ah Bh Dh))) H → va_D A0 ((uX6 cs adt qt (upv 6 ft6_56 (upv 5 ft5_56 (upv 4 ft4_56 (upv 3 ft3_56 (upv 2 ft2_56 (upv 1 ft1_56 Ft)))))) At Bt Dt) ++ ((uX9 cs (qt 0) qtp Ftp Atp Btp Dtp) ++ (uX3 cs adh qh Fh Ah Bh Dh))) → va_S A0 s.heap H locs → lv_has ls 4 [(0, .ref adt), (1, .ref adh), (2, .int r15), (3, .int x56_3)] → W p l e (rmk 6 0 0) s m args below meth c H locs 0 0 (MQ below ((QDi G (fun (r : Int32) (u : Int32 × Int32 × Int32 × Int32 × Int32 × Int32 × Int32 × (Nat → Int32) × (Nat → Int32) × (Nat → Int32)) => ((0 : Int) ≤ u.1.toInt ∧ u.1.toInt ≤ 6) ∧ ((0 : Int) ≤ u.2.1.toInt ∧ u.2.1.toInt ≤ 900) ∧ ((0 : Int) ≤ u.2.2.1.toInt ∧ u.2.2.1.toInt ≤ 4) ∧ ((0 : Int) ≤ u.2.2.2.1.toInt ∧ u.2.2.2.1.toInt ≤ 900) ∧ AJ (0) 63 u.2.2.2.2.2.2.2.2.1 ∧ ((0 : Int) ≤ r.toInt ∧ r.toInt ≤ 1)) (fun u : Int32 × Int32 × Int32 × Int32 × Int32 × Int32 × Int32 × (Nat → Int32) × (Nat → Int32) × (Nat → Int32) => ((wX6 cs adt qt (upd (upd (upd (upd (upd (upd Ft 1 u.2.1) 2 u.2.2.1) 3 u.2.2.2.1) 4 u.2.2.2.2.1) 5 u.2.2.2.2.2.1) 6 u.2.2.2.2.2.2.1) At Bt Dt) ++ ((uX9 cs (qt 0) qtp Ftp Atp Btp Dtp) ++ (wX3 cs adh qh (upd Fh 6 u.1) (vA (vA (vA Ah 11 u.2.2.2.2.2.2.2.1) 12 u.2.2.2.2.2.2.2.2.1) 13 u.2.2.2.2.2.2.2.2.2) Bh Dh))))) A0) args s 0 0 A0) (F0 m 56 ls []) := by
      intro x56_3 ft1_56 ft2_56 ft3_56 ft4_56 ft5_56 ft6_56 H locs ls hx56_3 hft1_56 hft2_56 hft3_56 hP hD hS hl
      refine lv_aload_n hx hb dX6_readMan_56 rfl (lv_at hl 0 rfl) ?_
      refine getF (v := .int ft5_56) hx hb ht hown hK hP iTX6 0 5 rfl rfl (by decide) fl_RX6_27 rfl dX6_readMan_57 ?_
      refine lv_if_eq (tgt := 65) hx hb dX6_readMan_60 (by decide) (fun c31001 => ?_) (fun c31001 => ?_)
      · have zc31001 := eqK rfl (show (0 : Int32).toInt = 0 by decide) c31001
        refine lv_aload_n hx hb dX6_readMan_65 rfl (lv_at hl 1 rfl) ?_
        refine lv_iload_n hx hb dX6_readMan_66 rfl (lv_at hl 2 rfl) ?_
        refine lv_iload_n hx hb dX6_readMan_67 rfl (lv_at hl 3 rfl) ?_
        refine behDw (wr := ((uX6 cs adt qt (upv 6 ft6_56 (upv 5 ft5_56 (upv 4 ft4_56 (upv 3 ft3_56 (upv 2 ft2_56 (upv 1 ft1_56 Ft)))))) At Bt Dt) ++ (uX9 cs (qt 0) qtp Ftp Atp Btp Dtp))) (runVD (As := [.int r15, .int x56_3]) (rest := []) ⟨hx, hb, hml, hown, ht⟩ (sX3_addMan l G cs adh qh Fh Ah Bh Dh hIh r15 x56_3 (by omega)) okV_RX6_139 ⟨by decide, by decide⟩ hK hP hD [3, 4, 5, 6, 7, 8, 9, 10] rfl (by decide) rfl 3 rfl rfl hl.1 rfl (Nat.le_of_ble_eq_true rfl) dX6_readMan_68 ⟨(Nat.le_of_ble_eq_true rfl), (Nat.le_of_ble_eq_true rfl)⟩) hP hD hS hA [3, 4, 5, 6, 7, 8, 9, 10] [0, 1, 2] rfl rfl (by decide) (by decide) (fun u H locs hu hP hD hS => ?_)
        obtain ⟨x31002, g31003, g31004, g31005⟩ := u
        obtain ⟨hbx31002, hg31004, hr31006⟩ := hu
        have hbx31002 : (0 : Int) ≤ x31002.toInt ∧ x31002.toInt ≤ 6 := hbx31002
        have hg31004 : AJ (0) 63 g31004 := hg31004
        have hP : va_P G vwCl ((uX6 cs adt qt (upv 6 ft6_56 (upv 5 ft5_56 (upv 4 ft4_56 (upv 3 ft3_56 (upv 2 ft2_56 (upv 1 ft1_56 Ft)))))) At Bt Dt) ++ ((uX9 cs (qt 0) qtp Ftp Atp Btp Dtp) ++ (uX3 cs adh qh (upv 6 x31002 Fh) (vB 13 g31005 (vB 12 g31004 (vB 11 g31003 Ah))) Bh Dh))) H := hP.sub [0, 1, 2, 3, 4, 5, 6, 7, 8, 9, 10] rfl
        have hD : va_D A0 ((uX6 cs adt qt (upv 6 ft6_56 (upv 5 ft5_56 (upv 4 ft4_56 (upv 3 ft3_56 (upv 2 ft2_56 (upv 1 ft1_56 Ft)))))) At Bt Dt) ++ ((uX9 cs (qt 0) qtp Ftp Atp Btp Dtp) ++ (uX3 cs adh qh (upv 6 x31002 Fh) (vB 13 g31005 (vB 12 g31004 (vB 11 g31003 Ah))) Bh Dh))) := hD.sub [0, 1, 2, 3, 4, 5, 6, 7, 8, 9, 10] (by decide) rfl
        refine lv_iconst (v := 1) hx hb dX6_readMan_71 (by decide) ?_
        exact retDz (x31002, ft1_56, ft2_56, ft3_56, ft4_56, ft5_56, ft6_56, g31003, g31004, g31005) hx hb hr hlk hP hD hS dX6_readMan_72 (rfl) (⟨show (0 : Int) ≤ x31002.toInt ∧ x31002.toInt ≤ 6 by omega, show (0 : Int) ≤ ft1_56.toInt ∧ ft1_56.toInt ≤ 900 by omega, show (0 : Int) ≤ ft2_56.toInt ∧ ft2_56.toInt ≤ 4 by omega, show (0 : Int) ≤ ft3_56.toInt ∧ ft3_56.toInt ≤ 900 by omega, hg31004, show (0 : Int) ≤ (1 : Int32).toInt ∧ (1 : Int32).toInt ≤ 1 by have kk : (1 : Int32).toInt = 1 := (by decide); omega⟩) (Nat.le_of_ble_eq_true rfl) (Nat.le_of_ble_eq_true rfl)
      · have zc31001 := neK rfl (show (0 : Int32).toInt = 0 by decide) c31001
        refine lv_iconst (v := 0) hx hb dX6_readMan_63 (by decide) ?_
        exact retDz ((Fh 6), ft1_56, ft2_56, ft3_56, ft4_56, ft5_56, ft6_56, (Ah 11), (Ah 12), (Ah 13)) hx hb hr hlk hP hD hS dX6_readMan_64 (rfl) (⟨hIh.1 6, show (0 : Int) ≤ ft1_56.toInt ∧ ft1_56.toInt ≤ 900 by omega, show (0 : Int) ≤ ft2_56.toInt ∧ ft2_56.toInt ≤ 4 by omega, show (0 : Int) ≤ ft3_56.toInt ∧ ft3_56.toInt ≤ 900 by omega, fun j => hIh.2 12 j, show (0 : Int) ≤ (0 : Int32).toInt ∧ (0 : Int32).toInt ≤ 1 by have kk : (0 : Int32).toInt = 0 := (by decide); omega⟩) (Nat.le_of_ble_eq_true rfl) (Nat.le_of_ble_eq_true rfl)
    refine lv_if_ne (tgt := 56) hx hb dX6_readMan_35 (by decide) (fun c18 => ?_) (fun c18 => ?_)
    · have zc18 := neK rfl (show (0 : Int32).toInt = 0 by decide) c18
      exact B56 0 x9 x10 x11 x12 x13 x14 H locs ls (by decide) (by omega) (by omega) (by omega) hP hD hS (lv_sub hl [2, 3, 1, 0] rfl)
    · have zc18 := eqK rfl (show (0 : Int32).toInt = 0 by decide) c18
      refine lv_aload_n hx hb dX6_readMan_38 rfl (lv_at hl 2 rfl) ?_
      have hz19 : vk_R "CallForBrown$Reader" 133 "yes" (sd 12).1 s := hQ.2.2.2 ("CallForBrown$Reader", 133, "yes", 12) (List.mem_of_getElem? (i := 12) rfl)
      refine va_ldcS hx hb hown hz19 dX6_readMan_39 ?_
      refine behR (runVPS (As := [.ref ((sd 12).1)]) (rest := []) ⟨hx, hb, hml, hown, ht⟩ (sX6_isWord l G cs sd adt qt (upv 6 x14 (upv 5 x13 (upv 4 x12 (upv 3 x11 (upv 2 x10 (upv 1 x9 Ft)))))) At Bt Dt (IB_pv (k := 6) (IB_pv (k := 5) (IB_pv (k := 4) (IB_pv (k := 3) (IB_pv (k := 2) (IB_pv (k := 1) hIt (show (0 : Int) ≤ x9.toInt ∧ x9.toInt ≤ 900 by omega)) (show (0 : Int) ≤ x10.toInt ∧ x10.toInt ≤ 4 by omega)) (show (0 : Int) ≤ x11.toInt ∧ x11.toInt ≤ 900 by omega)) (i32b _)) (i32b _)) (i32b _)) qtp Ftp Atp Btp Dtp hItp 12 (by decide) ) okV_RX6_48 ⟨by decide, by decide⟩ hK hP hQ hS hA [0, 1, 2] rfl 0 rfl rfl hl.1 rfl (Nat.le_of_ble_eq_true rfl) dX6_readMan_41 ⟨by decide, by decide⟩) hP hS hA (fun r20 H locs hr20 hP hS => ?_)
      have hr20 : (0 : Int) ≤ r20.toInt ∧ r20.toInt ≤ 1 := hr20
      refine lv_if_eq (tgt := 56) hx hb dX6_readMan_44 (by decide) (fun c21 => ?_) (fun c21 => ?_)
      · have zc21 := eqK rfl (show (0 : Int32).toInt = 0 by decide) c21
        exact B56 0 x9 x10 x11 x12 x13 x14 H locs ls (by decide) (by omega) (by omega) (by omega) hP hD hS (lv_sub hl [2, 3, 1, 0] rfl)
      · have zc21 := neK rfl (show (0 : Int32).toInt = 0 by decide) c21
        refine lv_aload_n hx hb dX6_readMan_47 rfl (lv_at hl 2 rfl) ?_
        refine behDw (wr := (uX3 cs adh qh Fh Ah Bh Dh)) (runVD (As := []) (rest := []) ⟨hx, hb, hml, hown, ht⟩ (sX6_advance l G cs adt qt (upv 6 x14 (upv 5 x13 (upv 4 x12 (upv 3 x11 (upv 2 x10 (upv 1 x9 Ft)))))) At Bt Dt (IB_pv (k := 6) (IB_pv (k := 5) (IB_pv (k := 4) (IB_pv (k := 3) (IB_pv (k := 2) (IB_pv (k := 1) hIt (show (0 : Int) ≤ x9.toInt ∧ x9.toInt ≤ 900 by omega)) (show (0 : Int) ≤ x10.toInt ∧ x10.toInt ≤ 4 by omega)) (show (0 : Int) ≤ x11.toInt ∧ x11.toInt ≤ 900 by omega)) (i32b _)) (i32b _)) (i32b _)) qtp Ftp Atp Btp Dtp hItp ) okV_RX6_33 ⟨by decide, by decide⟩ hK hP hD [0, 1, 2] rfl (by decide) rfl 0 rfl rfl hl.1 rfl (Nat.le_of_ble_eq_true rfl) dX6_readMan_48 ⟨(Nat.le_of_ble_eq_true rfl), (Nat.le_of_ble_eq_true rfl)⟩) hP hD hS hA [0, 1, 2] [3, 4, 5, 6, 7, 8, 9, 10] rfl rfl (by decide) (by decide) (fun u H locs hu hP hD hS => ?_)
        obtain ⟨x22, x23, x24, x25⟩ := u
        obtain ⟨hbx22, hbx23, hbx24, hr26⟩ := hu
        have hbx22 : (0 : Int) ≤ x22.toInt ∧ x22.toInt ≤ 900 := hbx22
        have hbx23 : (0 : Int) ≤ x23.toInt ∧ x23.toInt ≤ 4 := hbx23
        have hbx24 : (0 : Int) ≤ x24.toInt ∧ x24.toInt ≤ 900 := hbx24
        have hP : va_P G vwCl ((uX6 cs adt qt (upv 6 x14 (upv 5 x13 (upv 4 x25 (upv 3 x24 (upv 2 x23 (upv 1 x22 Ft)))))) At Bt Dt) ++ ((uX9 cs (qt 0) qtp Ftp Atp Btp Dtp) ++ (uX3 cs adh qh Fh Ah Bh Dh))) H := hP.sub [8, 9, 10, 0, 1, 2, 3, 4, 5, 6, 7] rfl
        have hD : va_D A0 ((uX6 cs adt qt (upv 6 x14 (upv 5 x13 (upv 4 x25 (upv 3 x24 (upv 2 x23 (upv 1 x22 Ft)))))) At Bt Dt) ++ ((uX9 cs (qt 0) qtp Ftp Atp Btp Dtp) ++ (uX3 cs adh qh Fh Ah Bh Dh))) := hD.sub [8, 9, 10, 0, 1, 2, 3, 4, 5, 6, 7] (by decide) rfl
        refine lv_aload_n hx hb dX6_readMan_51 rfl (lv_at hl 2 rfl) ?_
        refine behDi (wr := (uX3 cs adh qh Fh Ah Bh Dh)) (runVD (As := []) (rest := []) ⟨hx, hb, hml, hown, ht⟩ (sX6_takeQuestions l G cs adt qt (upv 6 x14 (upv 5 x13 (upv 4 x25 (upv 3 x24 (upv 2 x23 (upv 1 x22 Ft)))))) At Bt Dt (IB_pv (k := 6) (IB_pv (k := 5) (IB_pv (k := 4) (IB_pv (k := 3) (IB_pv (k := 2) (IB_pv (k := 1) hIt (show (0 : Int) ≤ x22.toInt ∧ x22.toInt ≤ 900 by omega)) (show (0 : Int) ≤ x23.toInt ∧ x23.toInt ≤ 4 by omega)) (show (0 : Int) ≤ x24.toInt ∧ x24.toInt ≤ 900 by omega)) (i32b _)) (i32b _)) (i32b _)) qtp Ftp Atp Btp Dtp hItp ) okV_RX6_135 ⟨by decide, by decide⟩ hK hP hD [0, 1, 2] rfl (by decide) rfl 0 rfl rfl hl.1 rfl (Nat.le_of_ble_eq_true rfl) dX6_readMan_52 ⟨(Nat.le_of_ble_eq_true rfl), (Nat.le_of_ble_eq_true rfl)⟩) hP hD hS hA [0, 1, 2] [3, 4, 5, 6, 7, 8, 9, 10] rfl rfl (by decide) (by decide) (fun r9 u H locs hu hP hD hS => ?_)
        obtain ⟨x27, x28, x29, x30, x31, x32⟩ := u
        obtain ⟨r33, rfl⟩ : ∃ z, z = r9 := ⟨_, rfl⟩
        obtain ⟨hbx27, hbx28, hbx29, hr33⟩ := hu
        have hbx27 : (0 : Int) ≤ x27.toInt ∧ x27.toInt ≤ 900 := hbx27
        have hbx28 : (0 : Int) ≤ x28.toInt ∧ x28.toInt ≤ 4 := hbx28
        have hbx29 : (0 : Int) ≤ x29.toInt ∧ x29.toInt ≤ 900 := hbx29
        have hr33 : (0 : Int) ≤ r33.toInt ∧ r33.toInt ≤ 63 := hr33
        have hP : va_P G vwCl ((uX6 cs adt qt (upv 6 x32 (upv 5 x31 (upv 4 x30 (upv 3 x29 (upv 2 x28 (upv 1 x27 Ft)))))) At Bt Dt) ++ ((uX9 cs (qt 0) qtp Ftp Atp Btp Dtp) ++ (uX3 cs adh qh Fh Ah Bh Dh))) H := hP.sub [8, 9, 10, 0, 1, 2, 3, 4, 5, 6, 7] rfl
        have hD : va_D A0 ((uX6 cs adt qt (upv 6 x32 (upv 5 x31 (upv 4 x30 (upv 3 x29 (upv 2 x28 (upv 1 x27 Ft)))))) At Bt Dt) ++ ((uX9 cs (qt 0) qtp Ftp Atp Btp Dtp) ++ (uX3 cs adh qh Fh Ah Bh Dh))) := hD.sub [8, 9, 10, 0, 1, 2, 3, 4, 5, 6, 7] (by decide) rfl
        refine lv_istore_n (lv' := [(3, .int r33), (2, .int r15), (0, .ref adt), (1, .ref adh)]) hx hb dX6_readMan_55 rfl hl (by decide) rfl (fun ls hl => ?_)
        exact B56 r33 x27 x28 x29 x30 x31 x32 H locs ls (by omega) (by omega) (by omega) (by omega) hP hD hS (lv_sub hl [2, 3, 1, 0] rfl)
  · have zc2 := nltK rfl (show (6 : Int32).toInt = 6 by decide) c2
    refine lv_aload_n hx hb dX6_readMan_9 rfl (lv_at hl 0 rfl) ?_
    refine lv_iconst (v := 3) hx hb dX6_readMan_10 (by decide) ?_
    refine behDi (wr := (uX3 cs adh qh Fh Ah Bh Dh)) (runVD (As := [.int 3]) (rest := []) ⟨hx, hb, hml, hown, ht⟩ (sX6_fail l G cs adt qt Ft At Bt Dt hIt qtp Ftp Atp Btp Dtp hItp 3 ) okV_RX6_52 ⟨by decide, by decide⟩ hK hP hD [0, 1, 2] rfl (by decide) rfl 0 rfl rfl hl.1 rfl (Nat.le_of_ble_eq_true rfl) dX6_readMan_11 ⟨(Nat.le_of_ble_eq_true rfl), (Nat.le_of_ble_eq_true rfl)⟩) hP hD hS hA [0, 1, 2] [3, 4, 5, 6, 7, 8, 9, 10] rfl rfl (by decide) (by decide) (fun r9 u H locs hu hP hD hS => ?_)
    obtain ⟨x34, x35⟩ := u
    have kk37 : (3 : Int32).toInt = 3 := by decide
    obtain ⟨r36, rfl⟩ : ∃ z, z = r9 := ⟨_, rfl⟩
    have hr36 := hu
    have hr36 : r36.toInt = 0 := hr36
    have hP : va_P G vwCl ((uX6 cs adt qt (upv 6 x35 (upv 5 x34 Ft)) At Bt Dt) ++ ((uX9 cs (qt 0) qtp Ftp Atp Btp Dtp) ++ (uX3 cs adh qh Fh Ah Bh Dh))) H := hP.sub [8, 9, 10, 0, 1, 2, 3, 4, 5, 6, 7] rfl
    have hD : va_D A0 ((uX6 cs adt qt (upv 6 x35 (upv 5 x34 Ft)) At Bt Dt) ++ ((uX9 cs (qt 0) qtp Ftp Atp Btp Dtp) ++ (uX3 cs adh qh Fh Ah Bh Dh))) := hD.sub [8, 9, 10, 0, 1, 2, 3, 4, 5, 6, 7] (by decide) rfl
    exact retDz ((Fh 6), (Ft 1), (Ft 2), (Ft 3), (Ft 4), x34, x35, (Ah 11), (Ah 12), (Ah 13)) hx hb hr hlk hP hD hS dX6_readMan_14 (narZ (by omega)) (⟨hIh.1 6, hIt.1 1, hIt.1 2, hIt.1 3, fun j => hIh.2 12 j, show (0 : Int) ≤ r36.toInt ∧ r36.toInt ≤ 1 by omega⟩) (Nat.le_of_ble_eq_true rfl) (Nat.le_of_ble_eq_true rfl)

