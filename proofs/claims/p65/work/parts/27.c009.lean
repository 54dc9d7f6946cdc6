set_option maxRecDepth 100000 in
set_option maxHeartbeats 16000000 in
theorem sX6_readRoom (l : Launch) (G : va_G) (cs : Nat → ClassId) (sd : Nat → Nat × Nat) (adt : Nat) (qt : Nat → Nat) (Ft : Nat → Int32) (At : Nat → Nat → Int32) (Bt : Nat → Nat → Int64) (Dt : Int64) (hIt : IX6 Ft At) (qtp : Nat → Nat) (Ftp : Nat → Int32) (Atp : Nat → Nat → Int32) (Btp : Nat → Nat → Int64) (Dtp : Int64) (hItp : IX9 Ftp Atp) (adh : Nat) (qh : Nat → Nat) (Fh : Nat → Int32) (Ah : Nat → Nat → Int32) (Bh : Nat → Nat → Int64) (Dh : Int64) (hIh : IX3 Fh Ah) : ∀ sz : Nat, Met l yX6_readRoom (wk yX6_readRoom cX6_readRoom 5 (some .boolean)) (rmk 6 0 0) (PreDS SRR sd G (TY cs) [.ref adt, .ref adh] ((uX6 cs adt qt Ft At Bt Dt) ++ ((uX9 cs (qt 0) qtp Ftp Atp Btp Dtp) ++ (uX3 cs adh qh Fh Ah Bh Dh))) sz) ((QDi G (fun (r : Int32) (u : Int32 × Int32 × Int32 × Int32 × Int32 × Int32 × Int32 × (Nat → Int32) × (Nat → Int32) × (Nat → Int32) × (Nat → Int32)) => ((0 : Int) ≤ u.1.toInt ∧ u.1.toInt ≤ 7) ∧ ((0 : Int) ≤ u.2.1.toInt ∧ u.2.1.toInt ≤ 900) ∧ ((0 : Int) ≤ u.2.2.1.toInt ∧ u.2.2.1.toInt ≤ 4) ∧ ((0 : Int) ≤ u.2.2.2.1.toInt ∧ u.2.2.2.1.toInt ≤ 900) ∧ AJ (0) 127 u.2.2.2.2.2.2.2.2.2.2 ∧ ((0 : Int) ≤ r.toInt ∧ r.toInt ≤ 1)) (fun u : Int32 × Int32 × Int32 × Int32 × Int32 × Int32 × Int32 × (Nat → Int32) × (Nat → Int32) × (Nat → Int32) × (Nat → Int32) => ((wX6 cs adt qt (upd (upd (upd (upd (upd (upd Ft 1 u.2.1) 2 u.2.2.1) 3 u.2.2.2.1) 4 u.2.2.2.2.1) 5 u.2.2.2.2.2.1) 6 u.2.2.2.2.2.2.1) At Bt Dt) ++ ((uX9 cs (qt 0) qtp Ftp Atp Btp Dtp) ++ (wX3 cs adh qh (upd Fh 5 u.1) (vA (vA (vA (vA Ah 7 u.2.2.2.2.2.2.2.1) 8 u.2.2.2.2.2.2.2.2.1) 9 u.2.2.2.2.2.2.2.2.2.1) 10 u.2.2.2.2.2.2.2.2.2.2) Bh Dh))))) (va_A ((uX6 cs adt qt Ft At Bt Dt) ++ ((uX9 cs (qt 0) qtp Ftp Atp Btp Dtp) ++ (uX3 cs adh qh Fh Ah Bh Dh))) sz)) 0 0 (va_A ((uX6 cs adt qt Ft At Bt Dt) ++ ((uX9 cs (qt 0) qtp Ftp Atp Btp Dtp) ++ (uX3 cs adh qh Fh Ah Bh Dh))) sz) := by
  refine mkDS (Qc := (QDi G (fun (r : Int32) (u : Int32 × Int32 × Int32 × Int32 × Int32 × Int32 × Int32 × (Nat → Int32) × (Nat → Int32) × (Nat → Int32) × (Nat → Int32)) => ((0 : Int) ≤ u.1.toInt ∧ u.1.toInt ≤ 7) ∧ ((0 : Int) ≤ u.2.1.toInt ∧ u.2.1.toInt ≤ 900) ∧ ((0 : Int) ≤ u.2.2.1.toInt ∧ u.2.2.1.toInt ≤ 4) ∧ ((0 : Int) ≤ u.2.2.2.1.toInt ∧ u.2.2.2.1.toInt ≤ 900) ∧ AJ (0) 127 u.2.2.2.2.2.2.2.2.2.2 ∧ ((0 : Int) ≤ r.toInt ∧ r.toInt ≤ 1)) (fun u : Int32 × Int32 × Int32 × Int32 × Int32 × Int32 × Int32 × (Nat → Int32) × (Nat → Int32) × (Nat → Int32) × (Nat → Int32) => ((wX6 cs adt qt (upd (upd (upd (upd (upd (upd Ft 1 u.2.1) 2 u.2.2.1) 3 u.2.2.2.1) 4 u.2.2.2.2.1) 5 u.2.2.2.2.2.1) 6 u.2.2.2.2.2.2.1) At Bt Dt) ++ ((uX9 cs (qt 0) qtp Ftp Atp Btp Dtp) ++ (wX3 cs adh qh (upd Fh 5 u.1) (vA (vA (vA (vA Ah 7 u.2.2.2.2.2.2.2.1) 8 u.2.2.2.2.2.2.2.2.1) 9 u.2.2.2.2.2.2.2.2.2.1) 10 u.2.2.2.2.2.2.2.2.2.2) Bh Dh)))))) (by decide) (by simp [lg_sl, Value.category]) ?_
  intro p e s m args below meth c ls A0 hx hb hml hr hlk hown hmn ht hK hP hD hS hA hQ hl
  have hl : lv_has ls 5 [(0, .ref adt), (1, .ref adh)] := hl
  refine lv_aload_n hx hb dX6_readRoom_0 rfl (lv_at hl 1 rfl) ?_
  refine getF (v := .int (Fh 5)) hx hb ht hown hK hP iTX3 3 5 rfl rfl (by decide) fl_RX6_103 rfl dX6_readRoom_1 ?_
  have zf1 : (0 : Int) ≤ (Fh 5).toInt ∧ (Fh 5).toInt ≤ 7 := hIh.1 5
  refine lv_bipush (v := 7) hx hb dX6_readRoom_4 (by decide) ?_
  refine lv_icmp_lt (tgt := 15) hx hb dX6_readRoom_6 (by decide) (fun c2 => ?_) (fun c2 => ?_)
  · have zc2 := ltK rfl (show (7 : Int32).toInt = 7 by decide) c2
    refine lv_aload_n hx hb dX6_readRoom_15 rfl (lv_at hl 0 rfl) ?_
    refine behDw (wr := (uX3 cs adh qh Fh Ah Bh Dh)) (runVD (As := []) (rest := []) ⟨hx, hb, hml, hown, ht⟩ (sX6_advance l G cs adt qt Ft At Bt Dt hIt qtp Ftp Atp Btp Dtp hItp ) okV_RX6_33 ⟨by decide, by decide⟩ hK hP hD [0, 1, 2] rfl (by decide) rfl 0 rfl rfl hl.1 rfl (Nat.le_of_ble_eq_true rfl) dX6_readRoom_16 ⟨(Nat.le_of_ble_eq_true rfl), (Nat.le_of_ble_eq_true rfl)⟩) hP hD hS hA [0, 1, 2] [3, 4, 5, 6, 7, 8, 9, 10] rfl rfl (by decide) (by decide) (fun u H locs hu hP hD hS => ?_)
    obtain ⟨x3, x4, x5, x6⟩ := u
    obtain ⟨hbx3, hbx4, hbx5, hr7⟩ := hu
    have hbx3 : (0 : Int) ≤ x3.toInt ∧ x3.toInt ≤ 900 := hbx3
    have hbx4 : (0 : Int) ≤ x4.toInt ∧ x4.toInt ≤ 4 := hbx4
    have hbx5 : (0 : Int) ≤ x5.toInt ∧ x5.toInt ≤ 900 := hbx5
    have hP : va_P G vwCl ((uX6 cs adt qt (upv 4 x6 (upv 3 x5 (upv 2 x4 (upv 1 x3 Ft)))) At Bt Dt) ++ ((uX9 cs (qt 0) qtp Ftp Atp Btp Dtp) ++ (uX3 cs adh qh Fh Ah Bh Dh))) H := hP.sub [8, 9, 10, 0, 1, 2, 3, 4, 5, 6, 7] rfl
    have hD : va_D A0 ((uX6 cs adt qt (upv 4 x6 (upv 3 x5 (upv 2 x4 (upv 1 x3 Ft)))) At Bt Dt) ++ ((uX9 cs (qt 0) qtp Ftp Atp Btp Dtp) ++ (uX3 cs adh qh Fh Ah Bh Dh))) := hD.sub [8, 9, 10, 0, 1, 2, 3, 4, 5, 6, 7] (by decide) rfl
    refine lv_aload_n hx hb dX6_readRoom_19 rfl (lv_at hl 0 rfl) ?_
    have hz8 : vk_R "CallForBrown$Reader" 106 "people" (sd 6).1 s := hQ.2.2.2 ("CallForBrown$Reader", 106, "people", 6) (List.mem_of_getElem? (i := 6) rfl)
    refine va_ldcS hx hb hown hz8 dX6_readRoom_20 ?_
    refine lv_iconst (v := 0) hx hb dX6_readRoom_22 (by decide) ?_
    refine lv_iconst (v := 0) hx hb dX6_readRoom_23 (by decide) ?_
    refine behR (runTP (As := [.int 0]) (rest := [.int 0, .ref ((sd 6).1), .ref adt]) ⟨hx, hb, hml, hown, ht⟩ (sX3_limit l G cs 0 ) okT_RX6_108 ⟨by decide, by decide⟩ hK hP [] rfl hl.1 rfl (Nat.le_of_ble_eq_true rfl) dX6_readRoom_24 ⟨by decide, by decide⟩) hP hS hA (fun r9 H locs hr9 hP hS => ?_)
    refine behDi (wr := (uX3 cs adh qh Fh Ah Bh Dh)) (runVDS (As := [.ref ((sd 6).1), .int 0, .int r9]) (rest := []) ⟨hx, hb, hml, hown, ht⟩ (sX6_takeNamed l G cs sd adt qt (upv 4 x6 (upv 3 x5 (upv 2 x4 (upv 1 x3 Ft)))) At Bt Dt (IB_pv (k := 4) (IB_pv (k := 3) (IB_pv (k := 2) (IB_pv (k := 1) hIt (show (0 : Int) ≤ x3.toInt ∧ x3.toInt ≤ 900 by omega)) (show (0 : Int) ≤ x4.toInt ∧ x4.toInt ≤ 4 by omega)) (show (0 : Int) ≤ x5.toInt ∧ x5.toInt ≤ 900 by omega)) (i32b _)) qtp Ftp Atp Btp Dtp hItp 6 (by decide) 0 r9 ) okV_RX6_85 ⟨by decide, by decide⟩ hK hP hD hQ hS hA [0, 1, 2] rfl (by decide) rfl 0 rfl rfl hl.1 rfl (Nat.le_of_ble_eq_true rfl) dX6_readRoom_27 ⟨(Nat.le_of_ble_eq_true rfl), (Nat.le_of_ble_eq_true rfl)⟩) hP hD hS hA [0, 1, 2] [3, 4, 5, 6, 7, 8, 9, 10] rfl rfl (by decide) (by decide) (fun r9 u H locs hu hP hD hS => ?_)
    obtain ⟨x10, x11, x12, x13, x14, x15⟩ := u
    have kk17 : (0 : Int32).toInt = 0 := by decide
    obtain ⟨r16, rfl⟩ : ∃ z, z = r9 := ⟨_, rfl⟩
    obtain ⟨hbx10, hbx11, hbx12, hr16⟩ := hu
    have hbx10 : (0 : Int) ≤ x10.toInt ∧ x10.toInt ≤ 900 := hbx10
    have hbx11 : (0 : Int) ≤ x11.toInt ∧ x11.toInt ≤ 4 := hbx11
    have hbx12 : (0 : Int) ≤ x12.toInt ∧ x12.toInt ≤ 900 := hbx12
    have hr16 : TNk r16 ((0 : Int32).toInt) r9.toInt := hr16
    have hP : va_P G vwCl ((uX6 cs adt qt (upv 6 x15 (upv 5 x14 (upv 4 x13 (upv 3 x12 (upv 2 x11 (upv 1 x10 Ft)))))) At Bt Dt) ++ ((uX9 cs (qt 0) qtp Ftp Atp Btp Dtp) ++ (uX3 cs adh qh Fh Ah Bh Dh))) H := hP.sub [8, 9, 10, 0, 1, 2, 3, 4, 5, 6, 7] rfl
    have hD : va_D A0 ((uX6 cs adt qt (upv 6 x15 (upv 5 x14 (upv 4 x13 (upv 3 x12 (upv 2 x11 (upv 1 x10 Ft)))))) At Bt Dt) ++ ((uX9 cs (qt 0) qtp Ftp Atp Btp Dtp) ++ (uX3 cs adh qh Fh Ah Bh Dh))) := hD.sub [8, 9, 10, 0, 1, 2, 3, 4, 5, 6, 7] (by decide) rfl
    refine lv_istore_n (lv' := [(2, .int r16), (0, .ref adt), (1, .ref adh)]) hx hb dX6_readRoom_30 rfl hl (by decide) rfl (fun ls hl => ?_)
    refine lv_aload_n hx hb dX6_readRoom_31 rfl (lv_at hl 1 rfl) ?_
    refine getF (v := .int x14) hx hb ht hown hK hP iTX6 0 5 rfl rfl (by decide) fl_RX6_27 rfl dX6_readRoom_32 ?_
    have B53 : ∀ (s53_0 : Int32) (ft1_53 : Int32) (ft2_53 : Int32) (ft3_53 : Int32) (ft4_53 : Int32) (ft5_53 : Int32) (ft6_53 : Int32) (H : Heap) (locs : List Loc) (ls : Array Slot), (0 : Int) ≤ ft1_53.toInt ∧ ft1_53.toInt ≤ 900 → (0 : Int) ≤ ft2_53.toInt ∧ ft2_53.toInt ≤ 4 → (0 : Int) ≤ ft3_53.toInt ∧ ft3_53.toInt ≤ 900 → va_P G vwCl ((uX6 cs adt qt (upv 6 ft6_53 (upv 5 ft5_53 (upv 4 ft4_53 (upv 3 ft3_53 (upv 2 ft2_53 (upv 1 ft1_53 Ft)))))) At Bt Dt) ++ ((uX9 cs (qt 0) qtp Ftp Atp Btp Dtp) ++ (uX3 cs adh qh Fh Ah Bh Dh))) H → va_D A0 ((uX6 cs adt qt (upv 6 ft6_53 (upv 5 ft5_53 (upv 4 ft4_53 (upv 3 ft3_53 (upv 2 ft2_53 (upv 1 ft1_53 Ft)))))) At Bt Dt) ++ ((uX9 cs (qt 0) qtp Ftp Atp Btp Dtp) ++ (uX3 cs adh qh Fh Ah Bh Dh))) → va_S A0 s.heap H locs → lv_has ls 5 [(0, .ref adt), (1, .ref adh), (2, .int r16)] → W p l e (rmk 6 0 0) s m args below meth c H locs 0 0 (MQ below ((QDi G (fun (r : Int32) (u : Int32 × Int32 × Int32 × Int32 × Int32 × Int32 × Int32 × (Nat → Int32) × (Nat → Int32) × (Nat → Int32) × (Nat → Int32)) => ((0 : Int) ≤ u.1.toInt ∧ u.1.toInt ≤ 7) ∧ ((0 : Int) ≤ u.2.1.toInt ∧ u.2.1.toInt ≤ 900) ∧ ((0 : Int) ≤ u.2.2.1.toInt ∧ u.2.2.1.toInt ≤ 4) ∧ ((0 : Int) ≤ u.2.2.2.1.toInt ∧ u.2.2.2.1.toInt ≤ 900) ∧ AJ (0) 127 u.2.2.2.2.2.2.2.2.2.2 ∧ ((0 : Int) ≤ r.toInt ∧ r.toInt ≤ 1)) (fun u : Int32 × Int32 × Int32 × Int32 × Int32 × Int32 × Int32 × (Nat → Int32) × (Nat → Int32) × (Nat → Int32) × (Nat → Int32) => ((wX6 cs adt qt (upd (upd (upd (upd (upd (upd Ft 1 u.2.1) 2 u.2.2.1) 3 u.2.2.2.1) 4 u.2.2.2.2.1) 5 u.2.2.2.2.2.1) 6 u.2.2.2.2.2.2.1) At Bt Dt) ++ ((uX9 cs (qt 0) qtp Ftp Atp Btp Dtp) ++ (wX3 cs adh qh (upd Fh 5 u.1) (vA (vA (vA (vA Ah 7 u.2.2.2.2.2.2.2.1) 8 u.2.2.2.2.2.2.2.2.1) 9 u.2.2.2.2.2.2.2.2.2.1) 10 u.2.2.2.2.2.2.2.2.2.2) Bh Dh))))) A0) args s 0 0 A0) (F0 m 53 ls [.int s53_0]) := by
      intro s53_0 ft1_53 ft2_53 ft3_53 ft4_53 ft5_53 ft6_53 H locs ls hft1_53 hft2_53 hft3_53 hP hD hS hl
      refine lv_istore_n (lv' := [(3, .int s53_0), (0, .ref adt), (1, .ref adh), (2, .int r16)]) hx hb dX6_readRoom_53 rfl hl (by decide) rfl (fun ls hl => ?_)
      refine lv_aload_n hx hb dX6_readRoom_54 rfl (lv_at hl 1 rfl) ?_
      refine getF (v := .int ft5_53) hx hb ht hown hK hP iTX6 0 5 rfl rfl (by decide) fl_RX6_27 rfl dX6_readRoom_55 ?_
      have B76 : ∀ (s76_0 : Int32) (ft1_76 : Int32) (ft2_76 : Int32) (ft3_76 : Int32) (ft4_76 : Int32) (ft5_76 : Int32) (ft6_76 : Int32) (H : Heap) (locs : List Loc) (ls : Array Slot), (0 : Int) ≤ ft1_76.toInt ∧ ft1_76.toInt ≤ 900 → (0 : Int) ≤ ft2_76.toInt ∧ ft2_76.toInt ≤ 4 → (0 : Int) ≤ ft3_76.toInt ∧ ft3_76.toInt ≤ 900 → va_P G vwCl ((uX6 cs adt qt (upv 6 ft6_76 (upv 5 ft5_76 (upv 4 ft4_76 (upv 3 ft3_76 (upv 2 ft2_76 (upv 1 ft1_76 Ft)))))) At Bt Dt) ++ ((uX9 cs (qt 0) qtp Ftp Atp Btp Dtp) ++ (uX3 cs adh qh Fh Ah Bh Dh))) H → va_D A0 ((uX6 cs adt qt (upv 6 ft6_76 (upv 5 ft5_76 (upv 4 ft4_76 (upv 3 ft3_76 (upv 2 ft2_76 (upv 1 ft1_76 Ft)))))) At Bt Dt) ++ ((uX9 cs (qt 0) qtp Ftp Atp Btp Dtp) ++ (uX3 cs adh qh Fh Ah Bh Dh))) → va_S A0 s.heap H locs → lv_has ls 5 [(0, .ref adt), (1, .ref adh), (2, .int r16), (3, .int s53_0)] → W p l e (rmk 6 0 0) s m args below meth c H locs 0 0 (MQ below ((QDi G (fun (r : Int32) (u : Int32 × Int32 × Int32 × Int32 × Int32 × Int32 × Int32 × (Nat → Int32) × (Nat → Int32) × (Nat → Int32) × (Nat → Int32)) => ((0 : Int) ≤ u.1.toInt ∧ u.1.toInt ≤ 7) ∧ ((0 : Int) ≤ u.2.1.toInt ∧ u.2.1.toInt ≤ 900) ∧ ((0 : Int) ≤ u.2.2.1.toInt ∧ u.2.2.1.toInt ≤ 4) ∧ ((0 : Int) ≤ u.2.2.2.1.toInt ∧ u.2.2.2.1.toInt ≤ 900) ∧ AJ (0) 127 u.2.2.2.2.2.2.2.2.2.2 ∧ ((0 : Int) ≤ r.toInt ∧ r.toInt ≤ 1)) (fun u : Int32 × Int32 × Int32 × Int32 × Int32 × Int32 × Int32 × (Nat → Int32) × (Nat → Int32) × (Nat → Int32) × (Nat → Int32) => ((wX6 cs adt qt (upd (upd (upd (upd (upd (upd Ft 1 u.2.1) 2 u.2.2.1) 3 u.2.2.2.1) 4 u.2.2.2.2.1) 5 u.2.2.2.2.2.1) 6 u.2.2.2.2.2.2.1) At Bt Dt) ++ ((uX9 cs (qt 0) qtp Ftp Atp Btp Dtp) ++ (wX3 cs adh qh (upd Fh 5 u.1) (vA (vA (vA (vA Ah 7 u.2.2.2.2.2.2.2.1) 8 u.2.2.2.2.2.2.2.2.1) 9 u.2.2.2.2.2.2.2.2.2.1) 10 u.2.2.2.2.2.2.2.2.2.2) Bh Dh))))) A0) args s 0 0 A0) (F0 m 76 ls [.int s76_0]) := by
        intro s76_0 ft1_76 ft2_76 ft3_76 ft4_76 ft5_76 ft6_76 H locs ls hft1_76 hft2_76 hft3_76 hP hD hS hl
        refine lv_istore (lv' := [(4, .int s76_0), (0, .ref adt), (1, .ref adh), (2, .int r16), (3, .int s53_0)]) hx hb dX6_readRoom_76 hl (by decide) rfl (fun ls hl => ?_)
        refine lv_aload_n hx hb dX6_readRoom_78 rfl (lv_at hl 1 rfl) ?_
        refine getF (v := .int ft5_76) hx hb ht hown hK hP iTX6 0 5 rfl rfl (by decide) fl_RX6_27 rfl dX6_readRoom_79 ?_
        refine lv_if_eq (tgt := 87) hx hb dX6_readRoom_82 (by decide) (fun c41001 => ?_) (fun c41001 => ?_)
        · have zc41001 := eqK rfl (show (0 : Int32).toInt = 0 by decide) c41001
          refine lv_aload_n hx hb dX6_readRoom_87 rfl (lv_at hl 2 rfl) ?_
          refine lv_iload_n hx hb dX6_readRoom_88 rfl (lv_at hl 3 rfl) ?_
          refine lv_iload_n hx hb dX6_readRoom_89 rfl (lv_at hl 4 rfl) ?_
          refine lv_iload hx hb dX6_readRoom_90 (lv_at hl 0 rfl) ?_
          refine behDw (wr := ((uX6 cs adt qt (upv 6 ft6_76 (upv 5 ft5_76 (upv 4 ft4_76 (upv 3 ft3_76 (upv 2 ft2_76 (upv 1 ft1_76 Ft)))))) At Bt Dt) ++ (uX9 cs (qt 0) qtp Ftp Atp Btp Dtp))) (runVD (As := [.int r16, .int s53_0, .int s76_0]) (rest := []) ⟨hx, hb, hml, hown, ht⟩ (sX3_addRoom l G cs adh qh Fh Ah Bh Dh hIh r16 s53_0 s76_0 ) okV_RX6_116 ⟨by decide, by decide⟩ hK hP hD [3, 4, 5, 6, 7, 8, 9, 10] rfl (by decide) rfl 3 rfl rfl hl.1 rfl (Nat.le_of_ble_eq_true rfl) dX6_readRoom_92 ⟨(Nat.le_of_ble_eq_true rfl), (Nat.le_of_ble_eq_true rfl)⟩) hP hD hS hA [3, 4, 5, 6, 7, 8, 9, 10] [0, 1, 2] rfl rfl (by decide) (by decide) (fun u H locs hu hP hD hS => ?_)
          obtain ⟨x41002, g41003, g41004, g41005, g41006⟩ := u
          obtain ⟨hbx41002, hg41006, hr41007⟩ := hu
          have hbx41002 : (0 : Int) ≤ x41002.toInt ∧ x41002.toInt ≤ 7 := hbx41002
          have hg41006 : AJ (0) 127 g41006 := hg41006
          have hP : va_P G vwCl ((uX6 cs adt qt (upv 6 ft6_76 (upv 5 ft5_76 (upv 4 ft4_76 (upv 3 ft3_76 (upv 2 ft2_76 (upv 1 ft1_76 Ft)))))) At Bt Dt) ++ ((uX9 cs (qt 0) qtp Ftp Atp Btp Dtp) ++ (uX3 cs adh qh (upv 5 x41002 Fh) (vB 10 g41006 (vB 9 g41005 (vB 8 g41004 (vB 7 g41003 Ah)))) Bh Dh))) H := hP.sub [0, 1, 2, 3, 4, 5, 6, 7, 8, 9, 10] rfl
          have hD : va_D A0 ((uX6 cs adt qt (upv 6 ft6_76 (upv 5 ft5_76 (upv 4 ft4_76 (upv 3 ft3_76 (upv 2 ft2_76 (upv 1 ft1_76 Ft)))))) At Bt Dt) ++ ((uX9 cs (qt 0) qtp Ftp Atp Btp Dtp) ++ (uX3 cs adh qh (upv 5 x41002 Fh) (vB 10 g41006 (vB 9 g41005 (vB 8 g41004 (vB 7 g41003 Ah)))) Bh Dh))) := hD.sub [0, 1, 2, 3, 4, 5, 6, 7, 8, 9, 10] (by decide) rfl
          refine lv_iconst (v := 1) hx hb dX6_readRoom_95 (by decide) ?_
          exact retDz (x41002, ft1_76, ft2_76, ft3_76, ft4_76, ft5_76, ft6_76, g41003, g41004, g41005, g41006) hx hb hr hlk hP hD hS dX6_readRoom_96 (rfl) (⟨show (0 : Int) ≤ x41002.toInt ∧ x41002.toInt ≤ 7 by omega, show (0 : Int) ≤ ft1_76.toInt ∧ ft1_76.toInt ≤ 900 by omega, show (0 : Int) ≤ ft2_76.toInt ∧ ft2_76.toInt ≤ 4 by omega, show (0 : Int) ≤ ft3_76.toInt ∧ ft3_76.toInt ≤ 900 by omega, hg41006, show (0 : Int) ≤ (1 : Int32).toInt ∧ (1 : Int32).toInt ≤ 1 by have kk : (1 : Int32).toInt = 1 := (by decide); omega⟩) (Nat.le_of_ble_eq_true rfl) (Nat.le_of_ble_eq_true rfl)
        · have zc41001 := neK rfl (show (0 : Int32).toInt = 0 by decide) c41001
          refine lv_iconst (v := 0) hx hb dX6_readRoom_85 (by decide) ?_
          exact retDz ((Fh 5), ft1_76, ft2_76, ft3_76, ft4_76, ft5_76, ft6_76, (Ah 7), (Ah 8), (Ah 9), (Ah 10)) hx hb hr hlk hP hD hS dX6_readRoom_86 (rfl) (⟨hIh.1 5, show (0 : Int) ≤ ft1_76.toInt ∧ ft1_76.toInt ≤ 900 by omega, show (0 : Int) ≤ ft2_76.toInt ∧ ft2_76.toInt ≤ 4 by omega, show (0 : Int) ≤ ft3_76.toInt ∧ ft3_76.toInt ≤ 900 by omega, fun j => hIh.2 10 j, show (0 : Int) ≤ (0 : Int32).toInt ∧ (0 : Int32).toInt ≤ 1 by have kk : (0 : Int32).toInt = 0 := (by decide); omega⟩) (Nat.le_of_ble_eq_true rfl) (Nat.le_of_ble_eq_true rfl)
      refine lv_if_ne (tgt := 75) hx hb dX6_readRoom_58 (by decide) (fun c29001 => ?_) (fun c29001 => ?_)
      · have zc29001 := neK rfl (show (0 : Int32).toInt = 0 by decide) c29001
        refine lv_iconst (v := (-1)) hx hb dX6_readRoom_75 (by decide) ?_
        exact B76 (-1) ft1_53 ft2_53 ft3_53 ft4_53 ft5_53 ft6_53 H locs ls (by omega) (by omega) (by omega) hP hD hS (lv_sub hl [1, 2, 3, 0] rfl)
      · have zc29001 := eqK rfl (show (0 : Int32).toInt = 0 by decide) c29001
        refine lv_aload_n hx hb dX6_readRoom_61 rfl (lv_at hl 1 rfl) ?_
        have hz29002 : vk_R "CallForBrown$Reader" 114 "sits" (sd 8).1 s := hQ.2.2.2 ("CallForBrown$Reader", 114, "sits", 8) (List.mem_of_getElem? (i := 8) rfl)
        refine va_ldcS hx hb hown hz29002 dX6_readRoom_62 ?_
        refine lv_iconst (v := 0) hx hb dX6_readRoom_64 (by decide) ?_
        refine lv_iconst (v := 2) hx hb dX6_readRoom_65 (by decide) ?_
        refine behR (runTP (As := [.int 2]) (rest := [.int 0, .ref ((sd 8).1), .ref adt]) ⟨hx, hb, hml, hown, ht⟩ (sX3_limit l G cs 2 ) okT_RX6_108 ⟨by decide, by decide⟩ hK hP [] rfl hl.1 rfl (Nat.le_of_ble_eq_true rfl) dX6_readRoom_66 ⟨by decide, by decide⟩) hP hS hA (fun r29003 H locs hr29003 hP hS => ?_)
        refine behDi (wr := (uX3 cs adh qh Fh Ah Bh Dh)) (runVDS (As := [.ref ((sd 8).1), .int 0, .int r29003]) (rest := []) ⟨hx, hb, hml, hown, ht⟩ (sX6_takeNamed l G cs sd adt qt (upv 6 ft6_53 (upv 5 ft5_53 (upv 4 ft4_53 (upv 3 ft3_53 (upv 2 ft2_53 (upv 1 ft1_53 Ft)))))) At Bt Dt (IB_pv (k := 6) (IB_pv (k := 5) (IB_pv (k := 4) (IB_pv (k := 3) (IB_pv (k := 2) (IB_pv (k := 1) hIt (show (0 : Int) ≤ ft1_53.toInt ∧ ft1_53.toInt ≤ 900 by omega)) (show (0 : Int) ≤ ft2_53.toInt ∧ ft2_53.toInt ≤ 4 by omega)) (show (0 : Int) ≤ ft3_53.toInt ∧ ft3_53.toInt ≤ 900 by omega)) (i32b _)) (i32b _)) (i32b _)) qtp Ftp Atp Btp Dtp hItp 8 (by decide) 0 r29003 ) okV_RX6_85 ⟨by decide, by decide⟩ hK hP hD hQ hS hA [0, 1, 2] rfl (by decide) rfl 0 rfl rfl hl.1 rfl (Nat.le_of_ble_eq_true rfl) dX6_readRoom_69 ⟨(Nat.le_of_ble_eq_true rfl), (Nat.le_of_ble_eq_true rfl)⟩) hP hD hS hA [0, 1, 2] [3, 4, 5, 6, 7, 8, 9, 10] rfl rfl (by decide) (by decide) (fun r9 u H locs hu hP hD hS => ?_)
        obtain ⟨x29004, x29005, x29006, x29007, x29008, x29009⟩ := u
        have kk29011 : (0 : Int32).toInt = 0 := by decide
        obtain ⟨r29010, rfl⟩ : ∃ z, z = r9 := ⟨_, rfl⟩
        obtain ⟨hbx29004, hbx29005, hbx29006, hr29010⟩ := hu
        have hbx29004 : (0 : Int) ≤ x29004.toInt ∧ x29004.toInt ≤ 900 := hbx29004
        have hbx29005 : (0 : Int) ≤ x29005.toInt ∧ x29005.toInt ≤ 4 := hbx29005
        have hbx29006 : (0 : Int) ≤ x29006.toInt ∧ x29006.toInt ≤ 900 := hbx29006
        have hr29010 : TNk r29010 ((0 : Int32).toInt) r29003.toInt := hr29010
        have hP : va_P G vwCl ((uX6 cs adt qt (upv 6 x29009 (upv 5 x29008 (upv 4 x29007 (upv 3 x29006 (upv 2 x29005 (upv 1 x29004 Ft)))))) At Bt Dt) ++ ((uX9 cs (qt 0) qtp Ftp Atp Btp Dtp) ++ (uX3 cs adh qh Fh Ah Bh Dh))) H := hP.sub [8, 9, 10, 0, 1, 2, 3, 4, 5, 6, 7] rfl
        have hD : va_D A0 ((uX6 cs adt qt (upv 6 x29009 (upv 5 x29008 (upv 4 x29007 (upv 3 x29006 (upv 2 x29005 (upv 1 x29004 Ft)))))) At Bt Dt) ++ ((uX9 cs (qt 0) qtp Ftp Atp Btp Dtp) ++ (uX3 cs adh qh Fh Ah Bh Dh))) := hD.sub [8, 9, 10, 0, 1, 2, 3, 4, 5, 6, 7] (by decide) rfl
        refine lv_goto (tgt := 76) hx hb dX6_readRoom_72 (by decide) ?_
        exact B76 r29010 x29004 x29005 x29006 x29007 x29008 x29009 H locs ls (by omega) (by omega) (by omega) hP hD hS (lv_sub hl [1, 2, 3, 0] rfl)
    refine lv_if_ne (tgt := 52) hx hb dX6_readRoom_35 (by decide) (fun c18 => ?_) (fun c18 => ?_)
    · have zc18 := neK rfl (show (0 : Int32).toInt = 0 by decide) c18
      refine lv_iconst (v := (-1)) hx hb dX6_readRoom_52 (by decide) ?_
      exact B53 (-1) x10 x11 x12 x13 x14 x15 H locs ls (by omega) (by omega) (by omega) hP hD hS (lv_sub hl [1, 2, 0] rfl)
    · have zc18 := eqK rfl (show (0 : Int32).toInt = 0 by decide) c18
      refine lv_aload_n hx hb dX6_readRoom_38 rfl (lv_at hl 1 rfl) ?_
      have hz19 : vk_R "CallForBrown$Reader" 112 "hears" (sd 7).1 s := hQ.2.2.2 ("CallForBrown$Reader", 112, "hears", 7) (List.mem_of_getElem? (i := 7) rfl)
      refine va_ldcS hx hb hown hz19 dX6_readRoom_39 ?_
      refine lv_iconst (v := 0) hx hb dX6_readRoom_41 (by decide) ?_
      refine lv_iconst (v := 1) hx hb dX6_readRoom_42 (by decide) ?_
      refine behR (runTP (As := [.int 1]) (rest := [.int 0, .ref ((sd 7).1), .ref adt]) ⟨hx, hb, hml, hown, ht⟩ (sX3_limit l G cs 1 ) okT_RX6_108 ⟨by decide, by decide⟩ hK hP [] rfl hl.1 rfl (Nat.le_of_ble_eq_true rfl) dX6_readRoom_43 ⟨by decide, by decide⟩) hP hS hA (fun r20 H locs hr20 hP hS => ?_)
      refine behDi (wr := (uX3 cs adh qh Fh Ah Bh Dh)) (runVDS (As := [.ref ((sd 7).1), .int 0, .int r20]) (rest := []) ⟨hx, hb, hml, hown, ht⟩ (sX6_takeNamed l G cs sd adt qt (upv 6 x15 (upv 5 x14 (upv 4 x13 (upv 3 x12 (upv 2 x11 (upv 1 x10 Ft)))))) At Bt Dt (IB_pv (k := 6) (IB_pv (k := 5) (IB_pv (k := 4) (IB_pv (k := 3) (IB_pv (k := 2) (IB_pv (k := 1) hIt (show (0 : Int) ≤ x10.toInt ∧ x10.toInt ≤ 900 by omega)) (show (0 : Int) ≤ x11.toInt ∧ x11.toInt ≤ 4 by omega)) (show (0 : Int) ≤ x12.toInt ∧ x12.toInt ≤ 900 by omega)) (i32b _)) (i32b _)) (i32b _)) qtp Ftp Atp Btp Dtp hItp 7 (by decide) 0 r20 ) okV_RX6_85 ⟨by decide, by decide⟩ hK hP hD hQ hS hA [0, 1, 2] rfl (by decide) rfl 0 rfl rfl hl.1 rfl (Nat.le_of_ble_eq_true rfl) dX6_readRoom_46 ⟨(Nat.le_of_ble_eq_true rfl), (Nat.le_of_ble_eq_true rfl)⟩) hP hD hS hA [0, 1, 2] [3, 4, 5, 6, 7, 8, 9, 10] rfl rfl (by decide) (by decide) (fun r9 u H locs hu hP hD hS => ?_)
      obtain ⟨x21, x22, x23, x24, x25, x26⟩ := u
      have kk28 : (0 : Int32).toInt = 0 := by decide
      obtain ⟨r27, rfl⟩ : ∃ z, z = r9 := ⟨_, rfl⟩
      obtain ⟨hbx21, hbx22, hbx23, hr27⟩ := hu
      have hbx21 : (0 : Int) ≤ x21.toInt ∧ x21.toInt ≤ 900 := hbx21
      have hbx22 : (0 : Int) ≤ x22.toInt ∧ x22.toInt ≤ 4 := hbx22
      have hbx23 : (0 : Int) ≤ x23.toInt ∧ x23.toInt ≤ 900 := hbx23
      have hr27 : TNk r27 ((0 : Int32).toInt) r20.toInt := hr27
      have hP : va_P G vwCl ((uX6 cs adt qt (upv 6 x26 (upv 5 x25 (upv 4 x24 (upv 3 x23 (upv 2 x22 (upv 1 x21 Ft)))))) At Bt Dt) ++ ((uX9 cs (qt 0) qtp Ftp Atp Btp Dtp) ++ (uX3 cs adh qh Fh Ah Bh Dh))) H := hP.sub [8, 9, 10, 0, 1, 2, 3, 4, 5, 6, 7] rfl
      have hD : va_D A0 ((uX6 cs adt qt (upv 6 x26 (upv 5 x25 (upv 4 x24 (upv 3 x23 (upv 2 x22 (upv 1 x21 Ft)))))) At Bt Dt) ++ ((uX9 cs (qt 0) qtp Ftp Atp Btp Dtp) ++ (uX3 cs adh qh Fh Ah Bh Dh))) := hD.sub [8, 9, 10, 0, 1, 2, 3, 4, 5, 6, 7] (by decide) rfl
      refine lv_goto (tgt := 53) hx hb dX6_readRoom_49 (by decide) ?_
      exact B53 r27 x21 x22 x23 x24 x25 x26 H locs ls (by omega) (by omega) (by omega) hP hD hS (lv_sub hl [1, 2, 0] rfl)
  · have zc2 := nltK rfl (show (7 : Int32).toInt = 7 by decide) c2
    refine lv_aload_n hx hb dX6_readRoom_9 rfl (lv_at hl 0 rfl) ?_
    refine lv_iconst (v := 3) hx hb dX6_readRoom_10 (by decide) ?_
    refine behDi (wr := (uX3 cs adh qh Fh Ah Bh Dh)) (runVD (As := [.int 3]) (rest := []) ⟨hx, hb, hml, hown, ht⟩ (sX6_fail l G cs adt qt Ft At Bt Dt hIt qtp Ftp Atp Btp Dtp hItp 3 ) okV_RX6_52 ⟨by decide, by decide⟩ hK hP hD [0, 1, 2] rfl (by decide) rfl 0 rfl rfl hl.1 rfl (Nat.le_of_ble_eq_true rfl) dX6_readRoom_11 ⟨(Nat.le_of_ble_eq_true rfl), (Nat.le_of_ble_eq_true rfl)⟩) hP hD hS hA [0, 1, 2] [3, 4, 5, 6, 7, 8, 9, 10] rfl rfl (by decide) (by decide) (fun r9 u H locs hu hP hD hS => ?_)
    obtain ⟨x29, x30⟩ := u
    have kk32 : (3 : Int32).toInt = 3 := by decide
    obtain ⟨r31, rfl⟩ : ∃ z, z = r9 := ⟨_, rfl⟩
    have hr31 := hu
    have hr31 : r31.toInt = 0 := hr31
    have hP : va_P G vwCl ((uX6 cs adt qt (upv 6 x30 (upv 5 x29 Ft)) At Bt Dt) ++ ((uX9 cs (qt 0) qtp Ftp Atp Btp Dtp) ++ (uX3 cs adh qh Fh Ah Bh Dh))) H := hP.sub [8, 9, 10, 0, 1, 2, 3, 4, 5, 6, 7] rfl
    have hD : va_D A0 ((uX6 cs adt qt (upv 6 x30 (upv 5 x29 Ft)) At Bt Dt) ++ ((uX9 cs (qt 0) qtp Ftp Atp Btp Dtp) ++ (uX3 cs adh qh Fh Ah Bh Dh))) := hD.sub [8, 9, 10, 0, 1, 2, 3, 4, 5, 6, 7] (by decide) rfl
    exact retDz ((Fh 5), (Ft 1), (Ft 2), (Ft 3), (Ft 4), x29, x30, (Ah 7), (Ah 8), (Ah 9), (Ah 10)) hx hb hr hlk hP hD hS dX6_readRoom_14 (narZ (by omega)) (⟨hIh.1 5, hIt.1 1, hIt.1 2, hIt.1 3, fun j => hIh.2 10 j, show (0 : Int) ≤ r31.toInt ∧ r31.toInt ≤ 1 by omega⟩) (Nat.le_of_ble_eq_true rfl) (Nat.le_of_ble_eq_true rfl)

