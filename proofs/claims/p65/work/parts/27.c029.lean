set_option maxRecDepth 100000 in
set_option maxHeartbeats 16000000 in
theorem sX10_feed (l : Launch) (G : va_G) (cs : Nat → ClassId) (adm : Nat) (qm : Nat → Nat) (Fm : Nat → Int32) (Am : Nat → Nat → Int32) (Bm : Nat → Nat → Int64) (Dm : Int64) (hIm : IX10 Fm Am) (qmt : Nat → Nat) (Fmt : Nat → Int32) (Amt : Nat → Nat → Int32) (Bmt : Nat → Nat → Int64) (Dmt : Int64) (hImt : IX9 Fmt Amt) (a1 : Int32) (a2 : Int32) (a3 : Int32) (a4 : Int32) (a5 : Int32) : ∀ sz : Nat, Met l yX10_feed (wk yX10_feed cX10_feed 6 (some .int)) (rmk 1 0 0) (PreD G (TY cs) [.ref adm, .int a1, .int a2, .int a3, .int a4, .int a5] ((uX10 cs adm qm Fm Am Bm Dm) ++ (uX9 cs (qm 1) qmt Fmt Amt Bmt Dmt)) sz) ((QDi G (fun (r : Int32) (u : Int32 × (Nat → Int32)) => ((0 : Int) ≤ u.1.toInt ∧ u.1.toInt ≤ 900) ∧ (True)) (fun u : Int32 × (Nat → Int32) => ((uX10 cs adm qm Fm Am Bm Dm) ++ (wX9 cs (qm 1) qmt (upd Fmt 1 u.1) (vA Amt 0 u.2) Bmt Dmt)))) (va_A ((uX10 cs adm qm Fm Am Bm Dm) ++ (uX9 cs (qm 1) qmt Fmt Amt Bmt Dmt)) sz)) 0 0 (va_A ((uX10 cs adm qm Fm Am Bm Dm) ++ (uX9 cs (qm 1) qmt Fmt Amt Bmt Dmt)) sz) := by
  refine mkD (Qc := (QDi G (fun (r : Int32) (u : Int32 × (Nat → Int32)) => ((0 : Int) ≤ u.1.toInt ∧ u.1.toInt ≤ 900) ∧ (True)) (fun u : Int32 × (Nat → Int32) => ((uX10 cs adm qm Fm Am Bm Dm) ++ (wX9 cs (qm 1) qmt (upd Fmt 1 u.1) (vA Amt 0 u.2) Bmt Dmt))))) (by decide) (by simp [lg_sl, Value.category]) ?_
  intro p e s m args below meth c ls A0 hx hb hml hr hlk hown hmn ht hK hP hD hS hA hl
  have hl : lv_has ls 6 [(0, .ref adm), (1, .int a1), (2, .int a2), (3, .int a3), (4, .int a4), (5, .int a5)] := hl
  refine lv_aload_n hx hb dX10_feed_0 rfl (lv_at hl 0 rfl) ?_
  refine getF (v := .ref (qm 1)) hx hb ht hown hK hP iTX10 0 1 rfl rfl (by decide) fl_RX10_20 rfl dX10_feed_1 ?_
  refine getF (v := .int (Fmt 1)) hx hb ht hown hK hP iTX9 3 1 rfl rfl (by decide) fl_RX10_84 rfl dX10_feed_4 ?_
  have zf1 : (0 : Int) ≤ (Fmt 1).toInt ∧ (Fmt 1).toInt ≤ 900 := hImt.1 1
  refine lv_bipush (v := 20) hx hb dX10_feed_7 (by decide) ?_
  refine lv_iadd hx hb dX10_feed_9 ?_
  refine lv_topi (fun v2 ev2 => ?_)
  have tv2 : v2.toInt = (Fmt 1).toInt + 20 := by rw [ev2]; exact addT rfl (show (20 : Int32).toInt = 20 by decide) (by omega)
  refine lv_sipush (v := 900) hx hb dX10_feed_10 (by decide) ?_
  refine lv_icmp_le (tgt := 18) hx hb dX10_feed_13 (by decide) (fun c3 => ?_) (fun c3 => ?_)
  · have zc3 := leK rfl (show (900 : Int32).toInt = 900 by decide) c3
    refine lv_aload_n hx hb dX10_feed_18 rfl (lv_at hl 0 rfl) ?_
    refine getF (v := .ref (qm 1)) hx hb ht hown hK hP iTX10 0 1 rfl rfl (by decide) fl_RX10_20 rfl dX10_feed_19 ?_
    refine lv_iload_n hx hb dX10_feed_22 rfl (lv_at hl 1 rfl) ?_
    refine behDw (wr := (uX10 cs adm qm Fm Am Bm Dm)) (runVD (As := [.int a1]) (rest := []) ⟨hx, hb, hml, hown, ht⟩ (sX9_push l G cs (qm 1) qmt Fmt Amt Bmt Dmt hImt a1 ) okV_RX10_90 ⟨by decide, by decide⟩ hK hP hD [3, 4] rfl (by decide) rfl 3 rfl rfl hl.1 rfl (Nat.le_of_ble_eq_true rfl) dX10_feed_23 ⟨(Nat.le_of_ble_eq_true rfl), (Nat.le_of_ble_eq_true rfl)⟩) hP hD hS hA [3, 4] [0, 1, 2] rfl rfl (by decide) (by decide) (fun u H locs hu hP hD hS => ?_)
    obtain ⟨x4, g5⟩ := u
    obtain ⟨hbx4, hr6⟩ := hu
    have hbx4 : (0 : Int) ≤ x4.toInt ∧ x4.toInt ≤ 900 := hbx4
    have hP : va_P G vwCl ((uX10 cs adm qm Fm Am Bm Dm) ++ (uX9 cs (qm 1) qmt (upv 1 x4 Fmt) (vB 0 g5 Amt) Bmt Dmt)) H := hP.sub [0, 1, 2, 3, 4] rfl
    have hD : va_D A0 ((uX10 cs adm qm Fm Am Bm Dm) ++ (uX9 cs (qm 1) qmt (upv 1 x4 Fmt) (vB 0 g5 Amt) Bmt Dmt)) := hD.sub [0, 1, 2, 3, 4] (by decide) rfl
    refine lv_aload_n hx hb dX10_feed_26 rfl (lv_at hl 0 rfl) ?_
    refine getF (v := .ref (qm 1)) hx hb ht hown hK hP iTX10 0 1 rfl rfl (by decide) fl_RX10_20 rfl dX10_feed_27 ?_
    refine lv_iload_n hx hb dX10_feed_30 rfl (lv_at hl 2 rfl) ?_
    refine behDw (wr := (uX10 cs adm qm Fm Am Bm Dm)) (runVD (As := [.int a2]) (rest := []) ⟨hx, hb, hml, hown, ht⟩ (sX9_push l G cs (qm 1) qmt (upv 1 x4 Fmt) (vB 0 g5 Amt) Bmt Dmt (IB_av (k := 0) (IB_pv (k := 1) hImt (show (0 : Int) ≤ x4.toInt ∧ x4.toInt ≤ 900 by omega)) (AJ_full _)) a2 ) okV_RX10_90 ⟨by decide, by decide⟩ hK hP hD [3, 4] rfl (by decide) rfl 3 rfl rfl hl.1 rfl (Nat.le_of_ble_eq_true rfl) dX10_feed_31 ⟨(Nat.le_of_ble_eq_true rfl), (Nat.le_of_ble_eq_true rfl)⟩) hP hD hS hA [3, 4] [0, 1, 2] rfl rfl (by decide) (by decide) (fun u H locs hu hP hD hS => ?_)
    obtain ⟨x7, g8⟩ := u
    obtain ⟨hbx7, hr9⟩ := hu
    have hbx7 : (0 : Int) ≤ x7.toInt ∧ x7.toInt ≤ 900 := hbx7
    have hP : va_P G vwCl ((uX10 cs adm qm Fm Am Bm Dm) ++ (uX9 cs (qm 1) qmt (upv 1 x7 Fmt) (vB 0 g8 Amt) Bmt Dmt)) H := hP.sub [0, 1, 2, 3, 4] rfl
    have hD : va_D A0 ((uX10 cs adm qm Fm Am Bm Dm) ++ (uX9 cs (qm 1) qmt (upv 1 x7 Fmt) (vB 0 g8 Amt) Bmt Dmt)) := hD.sub [0, 1, 2, 3, 4] (by decide) rfl
    refine lv_aload_n hx hb dX10_feed_34 rfl (lv_at hl 0 rfl) ?_
    refine getF (v := .ref (qm 1)) hx hb ht hown hK hP iTX10 0 1 rfl rfl (by decide) fl_RX10_20 rfl dX10_feed_35 ?_
    refine lv_iload_n hx hb dX10_feed_38 rfl (lv_at hl 3 rfl) ?_
    refine behDw (wr := (uX10 cs adm qm Fm Am Bm Dm)) (runVD (As := [.int a3]) (rest := []) ⟨hx, hb, hml, hown, ht⟩ (sX9_push l G cs (qm 1) qmt (upv 1 x7 Fmt) (vB 0 g8 Amt) Bmt Dmt (IB_av (k := 0) (IB_pv (k := 1) hImt (show (0 : Int) ≤ x7.toInt ∧ x7.toInt ≤ 900 by omega)) (AJ_full _)) a3 ) okV_RX10_90 ⟨by decide, by decide⟩ hK hP hD [3, 4] rfl (by decide) rfl 3 rfl rfl hl.1 rfl (Nat.le_of_ble_eq_true rfl) dX10_feed_39 ⟨(Nat.le_of_ble_eq_true rfl), (Nat.le_of_ble_eq_true rfl)⟩) hP hD hS hA [3, 4] [0, 1, 2] rfl rfl (by decide) (by decide) (fun u H locs hu hP hD hS => ?_)
    obtain ⟨x10, g11⟩ := u
    obtain ⟨hbx10, hr12⟩ := hu
    have hbx10 : (0 : Int) ≤ x10.toInt ∧ x10.toInt ≤ 900 := hbx10
    have hP : va_P G vwCl ((uX10 cs adm qm Fm Am Bm Dm) ++ (uX9 cs (qm 1) qmt (upv 1 x10 Fmt) (vB 0 g11 Amt) Bmt Dmt)) H := hP.sub [0, 1, 2, 3, 4] rfl
    have hD : va_D A0 ((uX10 cs adm qm Fm Am Bm Dm) ++ (uX9 cs (qm 1) qmt (upv 1 x10 Fmt) (vB 0 g11 Amt) Bmt Dmt)) := hD.sub [0, 1, 2, 3, 4] (by decide) rfl
    refine lv_aload_n hx hb dX10_feed_42 rfl (lv_at hl 0 rfl) ?_
    refine getF (v := .ref (qm 1)) hx hb ht hown hK hP iTX10 0 1 rfl rfl (by decide) fl_RX10_20 rfl dX10_feed_43 ?_
    refine lv_iload hx hb dX10_feed_46 (lv_at hl 4 rfl) ?_
    refine behDw (wr := (uX10 cs adm qm Fm Am Bm Dm)) (runVD (As := [.int a4]) (rest := []) ⟨hx, hb, hml, hown, ht⟩ (sX9_push l G cs (qm 1) qmt (upv 1 x10 Fmt) (vB 0 g11 Amt) Bmt Dmt (IB_av (k := 0) (IB_pv (k := 1) hImt (show (0 : Int) ≤ x10.toInt ∧ x10.toInt ≤ 900 by omega)) (AJ_full _)) a4 ) okV_RX10_90 ⟨by decide, by decide⟩ hK hP hD [3, 4] rfl (by decide) rfl 3 rfl rfl hl.1 rfl (Nat.le_of_ble_eq_true rfl) dX10_feed_48 ⟨(Nat.le_of_ble_eq_true rfl), (Nat.le_of_ble_eq_true rfl)⟩) hP hD hS hA [3, 4] [0, 1, 2] rfl rfl (by decide) (by decide) (fun u H locs hu hP hD hS => ?_)
    obtain ⟨x13, g14⟩ := u
    obtain ⟨hbx13, hr15⟩ := hu
    have hbx13 : (0 : Int) ≤ x13.toInt ∧ x13.toInt ≤ 900 := hbx13
    have hP : va_P G vwCl ((uX10 cs adm qm Fm Am Bm Dm) ++ (uX9 cs (qm 1) qmt (upv 1 x13 Fmt) (vB 0 g14 Amt) Bmt Dmt)) H := hP.sub [0, 1, 2, 3, 4] rfl
    have hD : va_D A0 ((uX10 cs adm qm Fm Am Bm Dm) ++ (uX9 cs (qm 1) qmt (upv 1 x13 Fmt) (vB 0 g14 Amt) Bmt Dmt)) := hD.sub [0, 1, 2, 3, 4] (by decide) rfl
    refine lv_aload_n hx hb dX10_feed_51 rfl (lv_at hl 0 rfl) ?_
    refine getF (v := .ref (qm 1)) hx hb ht hown hK hP iTX10 0 1 rfl rfl (by decide) fl_RX10_20 rfl dX10_feed_52 ?_
    refine lv_iload hx hb dX10_feed_55 (lv_at hl 5 rfl) ?_
    refine behDw (wr := (uX10 cs adm qm Fm Am Bm Dm)) (runVD (As := [.int a5]) (rest := []) ⟨hx, hb, hml, hown, ht⟩ (sX9_push l G cs (qm 1) qmt (upv 1 x13 Fmt) (vB 0 g14 Amt) Bmt Dmt (IB_av (k := 0) (IB_pv (k := 1) hImt (show (0 : Int) ≤ x13.toInt ∧ x13.toInt ≤ 900 by omega)) (AJ_full _)) a5 ) okV_RX10_90 ⟨by decide, by decide⟩ hK hP hD [3, 4] rfl (by decide) rfl 3 rfl rfl hl.1 rfl (Nat.le_of_ble_eq_true rfl) dX10_feed_57 ⟨(Nat.le_of_ble_eq_true rfl), (Nat.le_of_ble_eq_true rfl)⟩) hP hD hS hA [3, 4] [0, 1, 2] rfl rfl (by decide) (by decide) (fun u H locs hu hP hD hS => ?_)
    obtain ⟨x16, g17⟩ := u
    obtain ⟨hbx16, hr18⟩ := hu
    have hbx16 : (0 : Int) ≤ x16.toInt ∧ x16.toInt ≤ 900 := hbx16
    have hP : va_P G vwCl ((uX10 cs adm qm Fm Am Bm Dm) ++ (uX9 cs (qm 1) qmt (upv 1 x16 Fmt) (vB 0 g17 Amt) Bmt Dmt)) H := hP.sub [0, 1, 2, 3, 4] rfl
    have hD : va_D A0 ((uX10 cs adm qm Fm Am Bm Dm) ++ (uX9 cs (qm 1) qmt (upv 1 x16 Fmt) (vB 0 g17 Amt) Bmt Dmt)) := hD.sub [0, 1, 2, 3, 4] (by decide) rfl
    refine lv_aload_n hx hb dX10_feed_60 rfl (lv_at hl 0 rfl) ?_
    refine getF (v := .ref (qm 1)) hx hb ht hown hK hP iTX10 0 1 rfl rfl (by decide) fl_RX10_20 rfl dX10_feed_61 ?_
    refine getF (v := .int x16) hx hb ht hown hK hP iTX9 3 1 rfl rfl (by decide) fl_RX10_84 rfl dX10_feed_64 ?_
    exact retDi (x16, g17) hx hb hr hlk hP hD hS dX10_feed_67 (⟨show (0 : Int) ≤ x16.toInt ∧ x16.toInt ≤ 900 by omega, trivial⟩) (Nat.le_of_ble_eq_true rfl) (Nat.le_of_ble_eq_true rfl)
  · have zc3 := nleK rfl (show (900 : Int32).toInt = 900 by decide) c3
    refine lv_iconst (v := (-1)) hx hb dX10_feed_16 (by decide) ?_
    exact retDi ((Fmt 1), (Amt 0)) hx hb hr hlk hP hD hS dX10_feed_17 (⟨hImt.1 1, trivial⟩) (Nat.le_of_ble_eq_true rfl) (Nat.le_of_ble_eq_true rfl)

set_option maxRecDepth 100000 in
set_option maxHeartbeats 16000000 in
theorem sX10_end (l : Launch) (G : va_G) (cs : Nat → ClassId) (adm : Nat) (qm : Nat → Nat) (Fm : Nat → Int32) (Am : Nat → Nat → Int32) (Bm : Nat → Nat → Int64) (Dm : Int64) (hIm : IX10 Fm Am) (qmt : Nat → Nat) (Fmt : Nat → Int32) (Amt : Nat → Nat → Int32) (Bmt : Nat → Nat → Int64) (Dmt : Int64) (hImt : IX9 Fmt Amt) (a1 : Int32) : ∀ sz : Nat, Met l yX10_end (wk yX10_end cX10_end 2 (some .int)) (rmk 0 0 0) (PreD G (TY cs) [.ref adm, .int a1] ((uX10 cs adm qm Fm Am Bm Dm) ++ (uX9 cs (qm 1) qmt Fmt Amt Bmt Dmt)) sz) ((QDi G (fun (r : Int32) (u : Int32) => ((0 : Int) ≤ u.toInt ∧ u.toInt ≤ 900) ∧ (True)) (fun u : Int32 => ((uX10 cs adm qm Fm Am Bm Dm) ++ (wX9 cs (qm 1) qmt (upd Fmt 1 u) Amt Bmt Dmt)))) (va_A ((uX10 cs adm qm Fm Am Bm Dm) ++ (uX9 cs (qm 1) qmt Fmt Amt Bmt Dmt)) sz)) 0 0 (va_A ((uX10 cs adm qm Fm Am Bm Dm) ++ (uX9 cs (qm 1) qmt Fmt Amt Bmt Dmt)) sz) := by
  refine mkD (Qc := (QDi G (fun (r : Int32) (u : Int32) => ((0 : Int) ≤ u.toInt ∧ u.toInt ≤ 900) ∧ (True)) (fun u : Int32 => ((uX10 cs adm qm Fm Am Bm Dm) ++ (wX9 cs (qm 1) qmt (upd Fmt 1 u) Amt Bmt Dmt))))) (by decide) (by simp [lg_sl, Value.category]) ?_
  intro p e s m args below meth c ls A0 hx hb hml hr hlk hown hmn ht hK hP hD hS hA hl
  have hl : lv_has ls 2 [(0, .ref adm), (1, .int a1)] := hl
  refine lv_iload_n hx hb dX10_end_0 rfl (lv_at hl 1 rfl) ?_
  refine lv_if_lt (tgt := 15) hx hb dX10_end_1 (by decide) (fun c1 => ?_) (fun c1 => ?_)
  · have zc1 := ltK rfl (show (0 : Int32).toInt = 0 by decide) c1
    refine lv_iconst (v := (-1)) hx hb dX10_end_15 (by decide) ?_
    exact retDi (Fmt 1) hx hb hr hlk hP hD hS dX10_end_16 (⟨hImt.1 1, trivial⟩) (Nat.le_of_ble_eq_true rfl) (Nat.le_of_ble_eq_true rfl)
  · have zc1 := nltK rfl (show (0 : Int32).toInt = 0 by decide) c1
    refine lv_iload_n hx hb dX10_end_4 rfl (lv_at hl 1 rfl) ?_
    refine lv_aload_n hx hb dX10_end_5 rfl (lv_at hl 0 rfl) ?_
    refine getF (v := .ref (qm 1)) hx hb ht hown hK hP iTX10 0 1 rfl rfl (by decide) fl_RX10_20 rfl dX10_end_6 ?_
    refine getF (v := .int (Fmt 1)) hx hb ht hown hK hP iTX9 3 1 rfl rfl (by decide) fl_RX10_84 rfl dX10_end_9 ?_
    have zf2 : (0 : Int) ≤ (Fmt 1).toInt ∧ (Fmt 1).toInt ≤ 900 := hImt.1 1
    refine lv_icmp_le (tgt := 17) hx hb dX10_end_12 (by decide) (fun c3 => ?_) (fun c3 => ?_)
    · have zc3 := leK rfl rfl c3
      refine lv_aload_n hx hb dX10_end_17 rfl (lv_at hl 0 rfl) ?_
      refine getF (v := .ref (qm 1)) hx hb ht hown hK hP iTX10 0 1 rfl rfl (by decide) fl_RX10_20 rfl dX10_end_18 ?_
      refine lv_iload_n hx hb dX10_end_21 rfl (lv_at hl 1 rfl) ?_
      refine putD hx hb ht hown hK hP hD hS iTX9 tyX9 tyX9_ok nmX9 3 1 rfl rfl (by decide) fl_RX10_84 rfl rfl rfl (Nat.le_of_ble_eq_true rfl) dX10_end_22 (fun H locs hP hD hS => ?_)
      have hP : va_P G vwCl ((uX10 cs adm qm Fm Am Bm Dm) ++ (uX9 cs (qm 1) qmt (upv 1 a1 Fmt) Amt Bmt Dmt)) H := hP
      have hD : va_D A0 ((uX10 cs adm qm Fm Am Bm Dm) ++ (uX9 cs (qm 1) qmt (upv 1 a1 Fmt) Amt Bmt Dmt)) := hD
      refine lv_iload_n hx hb dX10_end_25 rfl (lv_at hl 1 rfl) ?_
      exact retDi a1 hx hb hr hlk hP hD hS dX10_end_26 (⟨show (0 : Int) ≤ a1.toInt ∧ a1.toInt ≤ 900 by omega, trivial⟩) (Nat.le_of_ble_eq_true rfl) (Nat.le_of_ble_eq_true rfl)
    · have zc3 := nleK rfl rfl c3
      refine lv_iconst (v := (-1)) hx hb dX10_end_15 (by decide) ?_
      exact retDi (Fmt 1) hx hb hr hlk hP hD hS dX10_end_16 (⟨hImt.1 1, trivial⟩) (Nat.le_of_ble_eq_true rfl) (Nat.le_of_ble_eq_true rfl)

