set_option maxRecDepth 100000 in
set_option maxHeartbeats 16000000 in
theorem sX1_goOn (l : Launch) (G : va_G) (cs : Nat → ClassId) (adt : Nat) (qt : Nat → Nat) (Ft : Nat → Int32) (At : Nat → Nat → Int32) (Bt : Nat → Nat → Int64) (Dt : Int64) (hIt : IX1 Ft At) (adh : Nat) (qh : Nat → Nat) (Fh : Nat → Int32) (Ah : Nat → Nat → Int32) (Bh : Nat → Nat → Int64) (Dh : Int64) (hIh : IX3 Fh Ah) (a2 : Int32) (a3 : Int32) (ha2 : (0 : Int) ≤ a2.toInt ∧ a2.toInt ≤ 1791) (ha3 : (0 : Int) ≤ a3.toInt ∧ a3.toInt ≤ 1) : ∀ sz : Nat, Met l yX1_goOn (wk yX1_goOn cX1_goOn 10 none) (rmk 3 0 0) (PreD G (TY cs) [.ref adt, .ref adh, .int a2, .int a3] ((uX1 cs adt qt Ft At Bt Dt) ++ (uX3 cs adh qh Fh Ah Bh Dh)) sz) ((QDw G (fun u : Int32 × Int32 × (Nat → Int32) × (Nat → Int32) × (Nat → Int64) => ((0 : Int) ≤ u.1.toInt ∧ u.1.toInt ≤ 1792) ∧ ((-1 : Int) ≤ u.2.1.toInt ∧ u.2.1.toInt ≤ 1791) ∧ AJ (0) 6271 u.2.2.1 ∧ AJ (-1) 1791 u.2.2.2.1 ∧ (True)) (fun u : Int32 × Int32 × (Nat → Int32) × (Nat → Int32) × (Nat → Int64) => ((wX1 cs adt qt (upd (upd Ft 5 u.1) 6 u.2.1) (vA (vA At 1 u.2.2.1) 2 u.2.2.2.1) (vA Bt 0 u.2.2.2.2) Dt) ++ (uX3 cs adh qh Fh Ah Bh Dh)))) (va_A ((uX1 cs adt qt Ft At Bt Dt) ++ (uX3 cs adh qh Fh Ah Bh Dh)) sz)) 0 0 (va_A ((uX1 cs adt qt Ft At Bt Dt) ++ (uX3 cs adh qh Fh Ah Bh Dh)) sz) := by
  refine mkD (Qc := (QDw G (fun u : Int32 × Int32 × (Nat → Int32) × (Nat → Int32) × (Nat → Int64) => ((0 : Int) ≤ u.1.toInt ∧ u.1.toInt ≤ 1792) ∧ ((-1 : Int) ≤ u.2.1.toInt ∧ u.2.1.toInt ≤ 1791) ∧ AJ (0) 6271 u.2.2.1 ∧ AJ (-1) 1791 u.2.2.2.1 ∧ (True)) (fun u : Int32 × Int32 × (Nat → Int32) × (Nat → Int32) × (Nat → Int64) => ((wX1 cs adt qt (upd (upd Ft 5 u.1) 6 u.2.1) (vA (vA At 1 u.2.2.1) 2 u.2.2.2.1) (vA Bt 0 u.2.2.2.2) Dt) ++ (uX3 cs adh qh Fh Ah Bh Dh))))) (by decide) (by simp [lg_sl, Value.category]) ?_
  intro p e s m args below meth c ls A0 hx hb hml hr hlk hown hmn ht hK hP hD hS hA hl
  have hl : lv_has ls 10 [(0, .ref adt), (1, .ref adh), (2, .int a2), (3, .int a3)] := hl
  refine lv_aload_n hx hb dX1_goOn_0 rfl (lv_at hl 0 rfl) ?_
  refine getF (v := .ref (qt 1)) hx hb ht hown hK hP iTX1 0 1 rfl rfl (by decide) fl_RX1_15 rfl dX1_goOn_1 ?_
  refine lv_iload_n hx hb dX1_goOn_4 rfl (lv_at hl 2 rfl) ?_
  refine va_iald hx hb hK.1 hP 2 0 rfl rfl (inK rfl (by omega) (by decide)) dX1_goOn_5 ?_
  refine lv_topi (fun v1 ev1 => ?_)
  have zf2 : (0 : Int) ≤ v1.toInt ∧ v1.toInt ≤ 6271 := by rw [ev1]; exact (hIt.2 1 _)
  refine lv_sipush (v := 128) hx hb dX1_goOn_6 (by decide) ?_
  refine lv_idiv hx hb dX1_goOn_9 (by decide) ?_
  refine lv_topi (fun v3 ev3 => ?_)
  have tv3 : v3.toInt = v1.toInt / 128 := by rw [ev3]; exact divT rfl (by decide) (by omega) (by decide)
  refine lv_istore (lv' := [(4, .int v3), (0, .ref adt), (1, .ref adh), (2, .int a2), (3, .int a3)]) hx hb dX1_goOn_10 hl (by decide) rfl (fun ls hl => ?_)
  refine lv_aload_n hx hb dX1_goOn_12 rfl (lv_at hl 2 rfl) ?_
  refine lv_aload_n hx hb dX1_goOn_13 rfl (lv_at hl 1 rfl) ?_
  refine getF (v := .ref (qt 1)) hx hb ht hown hK hP iTX1 0 1 rfl rfl (by decide) fl_RX1_15 rfl dX1_goOn_14 ?_
  refine lv_iload_n hx hb dX1_goOn_17 rfl (lv_at hl 3 rfl) ?_
  refine va_iald hx hb hK.1 hP 2 0 rfl rfl (inK rfl (by omega) (by decide)) dX1_goOn_18 ?_
  refine lv_topi (fun v4 ev4 => ?_)
  have zf5 : (0 : Int) ≤ v4.toInt ∧ v4.toInt ≤ 6271 := by rw [ev4]; exact (hIt.2 1 _)
  refine lv_sipush (v := 128) hx hb dX1_goOn_19 (by decide) ?_
  refine lv_irem hx hb dX1_goOn_22 (by decide) ?_
  refine lv_topi (fun v6 ev6 => ?_)
  have tv6 : v6.toInt = v4.toInt % 128 := by rw [ev6]; exact remT rfl (by decide) (by omega) (by decide)
  refine behR (runVP (As := [.int v6]) (rest := []) ⟨hx, hb, hml, hown, ht⟩ (sX3_spread l G cs adh qh Fh Ah Bh Dh hIh v6 (by omega)) okV_RX1_72 ⟨by decide, by decide⟩ hK hP [6, 7, 8, 9, 10, 11, 12, 13] rfl 6 rfl rfl hl.1 rfl (Nat.le_of_ble_eq_true rfl) dX1_goOn_23 ⟨by decide, by decide⟩) hP hS hA (fun r7 H locs hr7 hP hS => ?_)
  have hr7 : v6.toInt ≤ r7.toInt ∧ r7.toInt ≤ 127 := hr7
  refine lv_istore (lv' := [(5, .int r7), (4, .int v3), (0, .ref adt), (1, .ref adh), (2, .int a2), (3, .int a3)]) hx hb dX1_goOn_26 hl (by decide) rfl (fun ls hl => ?_)
  refine lv_iload hx hb dX1_goOn_28 (lv_at hl 1 rfl) ?_
  refine lv_bipush (v := 7) hx hb dX1_goOn_30 (by decide) ?_
  refine lv_idiv hx hb dX1_goOn_32 (by decide) ?_
  refine lv_topi (fun v8 ev8 => ?_)
  have tv8 : v8.toInt = v3.toInt / 7 := by rw [ev8]; exact divT rfl (by decide) (by omega) (by decide)
  refine lv_istore (lv' := [(6, .int v8), (5, .int r7), (4, .int v3), (0, .ref adt), (1, .ref adh), (2, .int a2), (3, .int a3)]) hx hb dX1_goOn_33 hl (by decide) rfl (fun ls hl => ?_)
  refine lv_iload hx hb dX1_goOn_35 (lv_at hl 2 rfl) ?_
  refine lv_bipush (v := 7) hx hb dX1_goOn_37 (by decide) ?_
  refine lv_irem hx hb dX1_goOn_39 (by decide) ?_
  refine lv_topi (fun v9 ev9 => ?_)
  have tv9 : v9.toInt = v3.toInt % 7 := by rw [ev9]; exact remT rfl (by decide) (by omega) (by decide)
  refine lv_istore (lv' := [(7, .int v9), (6, .int v8), (5, .int r7), (4, .int v3), (0, .ref adt), (1, .ref adh), (2, .int a2), (3, .int a3)]) hx hb dX1_goOn_40 hl (by decide) rfl (fun ls hl => ?_)
  refine lv_iconst (v := 0) hx hb dX1_goOn_42 (by decide) ?_
  refine lv_istore (lv' := [(8, .int 0), (7, .int v9), (6, .int v8), (5, .int r7), (4, .int v3), (0, .ref adt), (1, .ref adh), (2, .int a2), (3, .int a3)]) hx hb dX1_goOn_43 hl (by decide) rfl (fun ls hl => ?_)
  have B45 : ∀ (n : Nat) (x45_8 : Int32) (ft5_45 : Int32) (ft6_45 : Int32) (at1_45 : (Nat → Int32)) (at2_45 : (Nat → Int32)) (bt0_45 : (Nat → Int64)) (H : Heap) (locs : List Loc) (ls : Array Slot), (7 - x45_8.toInt).toNat < n → (0 : Int) ≤ x45_8.toInt ∧ x45_8.toInt ≤ 7 → (0 : Int) ≤ ft5_45.toInt ∧ ft5_45.toInt ≤ 1792 → (-1 : Int) ≤ ft6_45.toInt ∧ ft6_45.toInt ≤ 1791 → AJ (0) 6271 at1_45 → AJ (-1) 1791 at2_45 → va_P G vwCl ((uX1 cs adt qt (upv 6 ft6_45 (upv 5 ft5_45 Ft)) (vB 2 at2_45 (vB 1 at1_45 At)) (vB 0 bt0_45 Bt) Dt) ++ (uX3 cs adh qh Fh Ah Bh Dh)) H → va_D A0 ((uX1 cs adt qt (upv 6 ft6_45 (upv 5 ft5_45 Ft)) (vB 2 at2_45 (vB 1 at1_45 At)) (vB 0 bt0_45 Bt) Dt) ++ (uX3 cs adh qh Fh Ah Bh Dh)) → va_S A0 s.heap H locs → lv_has ls 10 [(0, .ref adt), (1, .ref adh), (2, .int a2), (3, .int a3), (5, .int r7), (6, .int v8), (7, .int v9), (8, .int x45_8)] → W p l e (rmk 3 0 0) s m args below meth c H locs 0 0 (MQ below ((QDw G (fun u : Int32 × Int32 × (Nat → Int32) × (Nat → Int32) × (Nat → Int64) => ((0 : Int) ≤ u.1.toInt ∧ u.1.toInt ≤ 1792) ∧ ((-1 : Int) ≤ u.2.1.toInt ∧ u.2.1.toInt ≤ 1791) ∧ AJ (0) 6271 u.2.2.1 ∧ AJ (-1) 1791 u.2.2.2.1 ∧ (True)) (fun u : Int32 × Int32 × (Nat → Int32) × (Nat → Int32) × (Nat → Int64) => ((wX1 cs adt qt (upd (upd Ft 5 u.1) 6 u.2.1) (vA (vA At 1 u.2.2.1) 2 u.2.2.2.1) (vA Bt 0 u.2.2.2.2) Dt) ++ (uX3 cs adh qh Fh Ah Bh Dh)))) A0) args s 0 0 A0) (F0 m 45 ls []) := by
    intro n
    induction n with
    | zero => intro x45_8 ft5_45 ft6_45 at1_45 at2_45 bt0_45 H locs ls hmeas hx45_8 hft5_45 hft6_45 hat1_45 hat2_45 hP hD hS hl; exact absurd hmeas (Nat.not_lt_zero _)
    | succ n ih45 =>
      intro x45_8 ft5_45 ft6_45 at1_45 at2_45 bt0_45 H locs ls hmeas hx45_8 hft5_45 hft6_45 hat1_45 hat2_45 hP hD hS hl
      refine lv_iload hx hb dX1_goOn_45 (lv_at hl 7 rfl) ?_
      refine lv_aload_n hx hb dX1_goOn_47 rfl (lv_at hl 1 rfl) ?_
      refine getF (v := .int (Fh 5)) hx hb ht hown hK hP iTX3 6 5 rfl rfl (by decide) fl_RX1_65 rfl dX1_goOn_48 ?_
      have zf27001 : (0 : Int) ≤ (Fh 5).toInt ∧ (Fh 5).toInt ≤ 7 := hIh.1 5
      refine lv_icmp_ge (tgt := 128) hx hb dX1_goOn_51 (by decide) (fun c27002 => ?_) (fun c27002 => ?_)
      · have zc27002 := leK rfl rfl c27002
        exact retDw (ft5_45, ft6_45, at1_45, at2_45, bt0_45) hx hb hr hlk hP hD hS dX1_goOn_128 (⟨show (0 : Int) ≤ ft5_45.toInt ∧ ft5_45.toInt ≤ 1792 by omega, show (-1 : Int) ≤ ft6_45.toInt ∧ ft6_45.toInt ≤ 1791 by omega, hat1_45, hat2_45, trivial⟩) (Nat.le_of_ble_eq_true rfl) (Nat.le_of_ble_eq_true rfl)
      · have zc27002 := nleK rfl rfl c27002
        refine lv_aload_n hx hb dX1_goOn_54 rfl (lv_at hl 1 rfl) ?_
        refine lv_iload hx hb dX1_goOn_55 (lv_at hl 5 rfl) ?_
        refine lv_iload hx hb dX1_goOn_57 (lv_at hl 7 rfl) ?_
        refine behR (runVP (As := [.int v8, .int x45_8]) (rest := []) ⟨hx, hb, hml, hown, ht⟩ (sX3_isStep l G cs adh qh Fh Ah Bh Dh hIh v8 x45_8 ) okV_RX1_81 ⟨by decide, by decide⟩ hK hP [6, 7, 8, 9, 10, 11, 12, 13] rfl 6 rfl rfl hl.1 rfl (Nat.le_of_ble_eq_true rfl) dX1_goOn_59 ⟨by decide, by decide⟩) hP hS hA (fun r27003 H locs hr27003 hP hS => ?_)
        have hr27003 : (0 : Int) ≤ r27003.toInt ∧ r27003.toInt ≤ 1 := hr27003
        have B122 : ∀ (ft5_122 : Int32) (ft6_122 : Int32) (at1_122 : (Nat → Int32)) (at2_122 : (Nat → Int32)) (bt0_122 : (Nat → Int64)) (H : Heap) (locs : List Loc) (ls : Array Slot), (0 : Int) ≤ ft5_122.toInt ∧ ft5_122.toInt ≤ 1792 → (-1 : Int) ≤ ft6_122.toInt ∧ ft6_122.toInt ≤ 1791 → AJ (0) 6271 at1_122 → AJ (-1) 1791 at2_122 → va_P G vwCl ((uX1 cs adt qt (upv 6 ft6_122 (upv 5 ft5_122 Ft)) (vB 2 at2_122 (vB 1 at1_122 At)) (vB 0 bt0_122 Bt) Dt) ++ (uX3 cs adh qh Fh Ah Bh Dh)) H → va_D A0 ((uX1 cs adt qt (upv 6 ft6_122 (upv 5 ft5_122 Ft)) (vB 2 at2_122 (vB 1 at1_122 At)) (vB 0 bt0_122 Bt) Dt) ++ (uX3 cs adh qh Fh Ah Bh Dh)) → va_S A0 s.heap H locs → lv_has ls 10 [(0, .ref adt), (1, .ref adh), (2, .int a2), (3, .int a3), (5, .int r7), (6, .int v8), (7, .int v9), (8, .int x45_8)] → W p l e (rmk 3 0 0) s m args below meth c H locs 0 0 (MQ below ((QDw G (fun u : Int32 × Int32 × (Nat → Int32) × (Nat → Int32) × (Nat → Int64) => ((0 : Int) ≤ u.1.toInt ∧ u.1.toInt ≤ 1792) ∧ ((-1 : Int) ≤ u.2.1.toInt ∧ u.2.1.toInt ≤ 1791) ∧ AJ (0) 6271 u.2.2.1 ∧ AJ (-1) 1791 u.2.2.2.1 ∧ (True)) (fun u : Int32 × Int32 × (Nat → Int32) × (Nat → Int32) × (Nat → Int64) => ((wX1 cs adt qt (upd (upd Ft 5 u.1) 6 u.2.1) (vA (vA At 1 u.2.2.1) 2 u.2.2.2.1) (vA Bt 0 u.2.2.2.2) Dt) ++ (uX3 cs adh qh Fh Ah Bh Dh)))) A0) args s 0 0 A0) (F0 m 122 ls []) := by
          intro ft5_122 ft6_122 at1_122 at2_122 bt0_122 H locs ls hft5_122 hft6_122 hat1_122 hat2_122 hP hD hS hl
          obtain ⟨v62001, ev62001⟩ : ∃ z : Int32, z = x45_8 + 1 := ⟨_, rfl⟩
          have tv62001 : v62001.toInt = x45_8.toInt + 1 := by rw [ev62001]; exact addT rfl (by decide) (by omega)
          refine lv_iinc (v := v62001) (lv' := [(8, .int v62001), (0, .ref adt), (1, .ref adh), (2, .int a2), (3, .int a3), (5, .int r7), (6, .int v8), (7, .int v9)]) hx hb dX1_goOn_122 hl (k := 7) rfl (by rw [ev62001]; rfl) (by decide) rfl (fun ls hl => ?_)
          refine lv_goto (tgt := 45) hx hb dX1_goOn_125 (by decide) ?_
          exact ih45 v62001 ft5_122 ft6_122 at1_122 at2_122 bt0_122 H locs ls (by omega) (by omega) (by omega) (by omega) hat1_122 hat2_122 hP hD hS (lv_sub hl [1, 2, 3, 4, 5, 6, 7, 0] rfl)
        refine lv_if_ne (tgt := 68) hx hb dX1_goOn_62 (by decide) (fun c27004 => ?_) (fun c27004 => ?_)
        · have zc27004 := neK rfl (show (0 : Int32).toInt = 0 by decide) c27004
          refine lv_iconst (v := 0) hx hb dX1_goOn_68 (by decide) ?_
          refine lv_istore (lv' := [(9, .int 0), (0, .ref adt), (1, .ref adh), (2, .int a2), (3, .int a3), (5, .int r7), (6, .int v8), (7, .int v9), (8, .int x45_8)]) hx hb dX1_goOn_69 hl (by decide) rfl (fun ls hl => ?_)
          have B71 : ∀ (n : Nat) (x71_9 : Int32) (ft5_71 : Int32) (ft6_71 : Int32) (at1_71 : (Nat → Int32)) (at2_71 : (Nat → Int32)) (bt0_71 : (Nat → Int64)) (H : Heap) (locs : List Loc) (ls : Array Slot), (7 - x71_9.toInt).toNat < n → (0 : Int) ≤ x71_9.toInt ∧ x71_9.toInt ≤ 7 → (0 : Int) ≤ ft5_71.toInt ∧ ft5_71.toInt ≤ 1792 → (-1 : Int) ≤ ft6_71.toInt ∧ ft6_71.toInt ≤ 1791 → AJ (0) 6271 at1_71 → AJ (-1) 1791 at2_71 → va_P G vwCl ((uX1 cs adt qt (upv 6 ft6_71 (upv 5 ft5_71 Ft)) (vB 2 at2_71 (vB 1 at1_71 At)) (vB 0 bt0_71 Bt) Dt) ++ (uX3 cs adh qh Fh Ah Bh Dh)) H → va_D A0 ((uX1 cs adt qt (upv 6 ft6_71 (upv 5 ft5_71 Ft)) (vB 2 at2_71 (vB 1 at1_71 At)) (vB 0 bt0_71 Bt) Dt) ++ (uX3 cs adh qh Fh Ah Bh Dh)) → va_S A0 s.heap H locs → lv_has ls 10 [(0, .ref adt), (1, .ref adh), (2, .int a2), (3, .int a3), (5, .int r7), (6, .int v8), (7, .int v9), (8, .int x45_8), (9, .int x71_9)] → W p l e (rmk 3 0 0) s m args below meth c H locs 0 0 (MQ below ((QDw G (fun u : Int32 × Int32 × (Nat → Int32) × (Nat → Int32) × (Nat → Int64) => ((0 : Int) ≤ u.1.toInt ∧ u.1.toInt ≤ 1792) ∧ ((-1 : Int) ≤ u.2.1.toInt ∧ u.2.1.toInt ≤ 1791) ∧ AJ (0) 6271 u.2.2.1 ∧ AJ (-1) 1791 u.2.2.2.1 ∧ (True)) (fun u : Int32 × Int32 × (Nat → Int32) × (Nat → Int32) × (Nat → Int64) => ((wX1 cs adt qt (upd (upd Ft 5 u.1) 6 u.2.1) (vA (vA At 1 u.2.2.1) 2 u.2.2.2.1) (vA Bt 0 u.2.2.2.2) Dt) ++ (uX3 cs adh qh Fh Ah Bh Dh)))) A0) args s 0 0 A0) (F0 m 71 ls []) := by
            intro n
            induction n with
            | zero => intro x71_9 ft5_71 ft6_71 at1_71 at2_71 bt0_71 H locs ls hmeas hx71_9 hft5_71 hft6_71 hat1_71 hat2_71 hP hD hS hl; exact absurd hmeas (Nat.not_lt_zero _)
            | succ n ih71 =>
              intro x71_9 ft5_71 ft6_71 at1_71 at2_71 bt0_71 H locs ls hmeas hx71_9 hft5_71 hft6_71 hat1_71 hat2_71 hP hD hS hl
              refine lv_iload hx hb dX1_goOn_71 (lv_at hl 8 rfl) ?_
              refine lv_aload_n hx hb dX1_goOn_73 rfl (lv_at hl 1 rfl) ?_
              refine getF (v := .int (Fh 5)) hx hb ht hown hK hP iTX3 6 5 rfl rfl (by decide) fl_RX1_65 rfl dX1_goOn_74 ?_
              have zf39001 : (0 : Int) ≤ (Fh 5).toInt ∧ (Fh 5).toInt ≤ 7 := hIh.1 5
              refine lv_icmp_ge (tgt := 122) hx hb dX1_goOn_77 (by decide) (fun c39002 => ?_) (fun c39002 => ?_)
              · have zc39002 := leK rfl rfl c39002
                exact B122 ft5_71 ft6_71 at1_71 at2_71 bt0_71 H locs ls (by omega) (by omega) hat1_71 hat2_71 hP hD hS (lv_sub hl [0, 1, 2, 3, 4, 5, 6, 7] rfl)
              · have zc39002 := nleK rfl rfl c39002
                refine lv_iload_n hx hb dX1_goOn_80 rfl (lv_at hl 3 rfl) ?_
                have B116 : ∀ (ft5_116 : Int32) (ft6_116 : Int32) (at1_116 : (Nat → Int32)) (at2_116 : (Nat → Int32)) (bt0_116 : (Nat → Int64)) (H : Heap) (locs : List Loc) (ls : Array Slot), (0 : Int) ≤ ft5_116.toInt ∧ ft5_116.toInt ≤ 1792 → (-1 : Int) ≤ ft6_116.toInt ∧ ft6_116.toInt ≤ 1791 → AJ (0) 6271 at1_116 → AJ (-1) 1791 at2_116 → va_P G vwCl ((uX1 cs adt qt (upv 6 ft6_116 (upv 5 ft5_116 Ft)) (vB 2 at2_116 (vB 1 at1_116 At)) (vB 0 bt0_116 Bt) Dt) ++ (uX3 cs adh qh Fh Ah Bh Dh)) H → va_D A0 ((uX1 cs adt qt (upv 6 ft6_116 (upv 5 ft5_116 Ft)) (vB 2 at2_116 (vB 1 at1_116 At)) (vB 0 bt0_116 Bt) Dt) ++ (uX3 cs adh qh Fh Ah Bh Dh)) → va_S A0 s.heap H locs → lv_has ls 10 [(0, .ref adt), (1, .ref adh), (2, .int a2), (3, .int a3), (5, .int r7), (6, .int v8), (7, .int v9), (8, .int x45_8), (9, .int x71_9)] → W p l e (rmk 3 0 0) s m args below meth c H locs 0 0 (MQ below ((QDw G (fun u : Int32 × Int32 × (Nat → Int32) × (Nat → Int32) × (Nat → Int64) => ((0 : Int) ≤ u.1.toInt ∧ u.1.toInt ≤ 1792) ∧ ((-1 : Int) ≤ u.2.1.toInt ∧ u.2.1.toInt ≤ 1791) ∧ AJ (0) 6271 u.2.2.1 ∧ AJ (-1) 1791 u.2.2.2.1 ∧ (True)) (fun u : Int32 × Int32 × (Nat → Int32) × (Nat → Int32) × (Nat → Int64) => ((wX1 cs adt qt (upd (upd Ft 5 u.1) 6 u.2.1) (vA (vA At 1 u.2.2.1) 2 u.2.2.2.1) (vA Bt 0 u.2.2.2.2) Dt) ++ (uX3 cs adh qh Fh Ah Bh Dh)))) A0) args s 0 0 A0) (F0 m 116 ls []) := by
                  intro ft5_116 ft6_116 at1_116 at2_116 bt0_116 H locs ls hft5_116 hft6_116 hat1_116 hat2_116 hP hD hS hl
                  obtain ⟨v60001, ev60001⟩ : ∃ z : Int32, z = x71_9 + 1 := ⟨_, rfl⟩
                  have tv60001 : v60001.toInt = x71_9.toInt + 1 := by rw [ev60001]; exact addT rfl (by decide) (by omega)
                  refine lv_iinc (v := v60001) (lv' := [(9, .int v60001), (0, .ref adt), (1, .ref adh), (2, .int a2), (3, .int a3), (5, .int r7), (6, .int v8), (7, .int v9), (8, .int x45_8)]) hx hb dX1_goOn_116 hl (k := 8) rfl (by rw [ev60001]; rfl) (by decide) rfl (fun ls hl => ?_)
                  refine lv_goto (tgt := 71) hx hb dX1_goOn_119 (by decide) ?_
                  exact ih71 v60001 ft5_116 ft6_116 at1_116 at2_116 bt0_116 H locs ls (by omega) (by omega) (by omega) (by omega) hat1_116 hat2_116 hP hD hS (lv_sub hl [1, 2, 3, 4, 5, 6, 7, 8, 0] rfl)
                have B105 : ∀ (H : Heap) (locs : List Loc) (ls : Array Slot), va_P G vwCl ((uX1 cs adt qt (upv 6 ft6_71 (upv 5 ft5_71 Ft)) (vB 2 at2_71 (vB 1 at1_71 At)) (vB 0 bt0_71 Bt) Dt) ++ (uX3 cs adh qh Fh Ah Bh Dh)) H → va_D A0 ((uX1 cs adt qt (upv 6 ft6_71 (upv 5 ft5_71 Ft)) (vB 2 at2_71 (vB 1 at1_71 At)) (vB 0 bt0_71 Bt) Dt) ++ (uX3 cs adh qh Fh Ah Bh Dh)) → va_S A0 s.heap H locs → lv_has ls 10 [(0, .ref adt), (1, .ref adh), (2, .int a2), (3, .int a3), (5, .int r7), (6, .int v8), (7, .int v9), (8, .int x45_8), (9, .int x71_9)] → W p l e (rmk 3 0 0) s m args below meth c H locs 0 0 (MQ below ((QDw G (fun u : Int32 × Int32 × (Nat → Int32) × (Nat → Int32) × (Nat → Int64) => ((0 : Int) ≤ u.1.toInt ∧ u.1.toInt ≤ 1792) ∧ ((-1 : Int) ≤ u.2.1.toInt ∧ u.2.1.toInt ≤ 1791) ∧ AJ (0) 6271 u.2.2.1 ∧ AJ (-1) 1791 u.2.2.2.1 ∧ (True)) (fun u : Int32 × Int32 × (Nat → Int32) × (Nat → Int32) × (Nat → Int64) => ((wX1 cs adt qt (upd (upd Ft 5 u.1) 6 u.2.1) (vA (vA At 1 u.2.2.1) 2 u.2.2.2.1) (vA Bt 0 u.2.2.2.2) Dt) ++ (uX3 cs adh qh Fh Ah Bh Dh)))) A0) args s 0 0 A0) (F0 m 105 ls []) := by
                  intro H locs ls hP hD hS hl
                  refine lv_aload_n hx hb dX1_goOn_105 rfl (lv_at hl 0 rfl) ?_
                  refine lv_iload hx hb dX1_goOn_106 (lv_at hl 7 rfl) ?_
                  refine lv_iload hx hb dX1_goOn_108 (lv_at hl 8 rfl) ?_
                  refine lv_iload hx hb dX1_goOn_110 (lv_at hl 4 rfl) ?_
                  refine lv_iload_n hx hb dX1_goOn_112 rfl (lv_at hl 2 rfl) ?_
                  refine behDw (wr := (uX3 cs adh qh Fh Ah Bh Dh)) (runVD (As := [.int x45_8, .int x71_9, .int r7, .int a2]) (rest := []) ⟨hx, hb, hml, hown, ht⟩ (sX1_reach l G cs adt qt (upv 6 ft6_71 (upv 5 ft5_71 Ft)) (vB 2 at2_71 (vB 1 at1_71 At)) (vB 0 bt0_71 Bt) Dt (IB_av (k := 2) (IB_av (k := 1) (IB_pv (k := 6) (IB_pv (k := 5) hIt (show (0 : Int) ≤ ft5_71.toInt ∧ ft5_71.toInt ≤ 1792 by omega)) (show (-1 : Int) ≤ ft6_71.toInt ∧ ft6_71.toInt ≤ 1791 by omega)) hat1_71) hat2_71) x45_8 x71_9 r7 a2 (by omega) (by omega) (by omega) (by omega)) okV_RX1_47 ⟨by decide, by decide⟩ hK hP hD [0, 1, 2, 3, 4, 5] rfl (by decide) rfl 0 rfl rfl hl.1 rfl (Nat.le_of_ble_eq_true rfl) dX1_goOn_113 ⟨(Nat.le_of_ble_eq_true rfl), (Nat.le_of_ble_eq_true rfl)⟩) hP hD hS hA [0, 1, 2, 3, 4, 5] [6, 7, 8, 9, 10, 11, 12, 13] rfl rfl (by decide) (by decide) (fun u H locs hu hP hD hS => ?_)
                  obtain ⟨x54001, x54002, g54003, g54004, y54005⟩ := u
                  obtain ⟨hbx54001, hbx54002, hg54003, hg54004, hr54006⟩ := hu
                  have hbx54001 : (0 : Int) ≤ x54001.toInt ∧ x54001.toInt ≤ 1792 := hbx54001
                  have hbx54002 : (-1 : Int) ≤ x54002.toInt ∧ x54002.toInt ≤ 1791 := hbx54002
                  have hg54003 : AJ (0) 6271 g54003 := hg54003
                  have hg54004 : AJ (-1) 1791 g54004 := hg54004
                  have hP : va_P G vwCl ((uX1 cs adt qt (upv 6 x54002 (upv 5 x54001 Ft)) (vB 2 g54004 (vB 1 g54003 At)) (vB 0 y54005 Bt) Dt) ++ (uX3 cs adh qh Fh Ah Bh Dh)) H := hP.sub [8, 9, 10, 11, 12, 13, 0, 1, 2, 3, 4, 5, 6, 7] rfl
                  have hD : va_D A0 ((uX1 cs adt qt (upv 6 x54002 (upv 5 x54001 Ft)) (vB 2 g54004 (vB 1 g54003 At)) (vB 0 y54005 Bt) Dt) ++ (uX3 cs adh qh Fh Ah Bh Dh)) := hD.sub [8, 9, 10, 11, 12, 13, 0, 1, 2, 3, 4, 5, 6, 7] (by decide) rfl
                  exact B116 x54001 x54002 g54003 g54004 y54005 H locs ls (by omega) (by omega) hg54003 hg54004 hP hD hS (lv_sub hl [0, 1, 2, 3, 4, 5, 6, 7, 8] rfl)
                refine lv_if_eq (tgt := 94) hx hb dX1_goOn_81 (by decide) (fun c39003 => ?_) (fun c39003 => ?_)
                · have zc39003 := eqK rfl (show (0 : Int32).toInt = 0 by decide) c39003
                  refine lv_aload_n hx hb dX1_goOn_94 rfl (lv_at hl 1 rfl) ?_
                  refine lv_iload hx hb dX1_goOn_95 (lv_at hl 6 rfl) ?_
                  refine lv_iload hx hb dX1_goOn_97 (lv_at hl 8 rfl) ?_
                  refine behR (runVP (As := [.int v9, .int x71_9]) (rest := []) ⟨hx, hb, hml, hown, ht⟩ (sX3_isStep l G cs adh qh Fh Ah Bh Dh hIh v9 x71_9 ) okV_RX1_81 ⟨by decide, by decide⟩ hK hP [6, 7, 8, 9, 10, 11, 12, 13] rfl 6 rfl rfl hl.1 rfl (Nat.le_of_ble_eq_true rfl) dX1_goOn_99 ⟨by decide, by decide⟩) hP hS hA (fun r39004 H locs hr39004 hP hS => ?_)
                  have hr39004 : (0 : Int) ≤ r39004.toInt ∧ r39004.toInt ≤ 1 := hr39004
                  refine lv_if_eq (tgt := 116) hx hb dX1_goOn_102 (by decide) (fun c39005 => ?_) (fun c39005 => ?_)
                  · have zc39005 := eqK rfl (show (0 : Int32).toInt = 0 by decide) c39005
                    exact B116 ft5_71 ft6_71 at1_71 at2_71 bt0_71 H locs ls (by omega) (by omega) hat1_71 hat2_71 hP hD hS (lv_sub hl [0, 1, 2, 3, 4, 5, 6, 7, 8] rfl)
                  · have zc39005 := neK rfl (show (0 : Int32).toInt = 0 by decide) c39005
                    exact B105 H locs ls hP hD hS (lv_sub hl [0, 1, 2, 3, 4, 5, 6, 7, 8] rfl)
                · have zc39003 := neK rfl (show (0 : Int32).toInt = 0 by decide) c39003
                  refine lv_iload hx hb dX1_goOn_84 (lv_at hl 8 rfl) ?_
                  refine lv_iload hx hb dX1_goOn_86 (lv_at hl 7 rfl) ?_
                  refine lv_icmp_ne (tgt := 116) hx hb dX1_goOn_88 (by decide) (fun c39006 => ?_) (fun c39006 => ?_)
                  · have zc39006 := neK rfl rfl c39006
                    exact B116 ft5_71 ft6_71 at1_71 at2_71 bt0_71 H locs ls (by omega) (by omega) hat1_71 hat2_71 hP hD hS (lv_sub hl [0, 1, 2, 3, 4, 5, 6, 7, 8] rfl)
                  · have zc39006 := eqK rfl rfl c39006
                    refine lv_goto (tgt := 105) hx hb dX1_goOn_91 (by decide) ?_
                    exact B105 H locs ls hP hD hS (lv_sub hl [0, 1, 2, 3, 4, 5, 6, 7, 8] rfl)
          exact B71 _ 0 ft5_45 ft6_45 at1_45 at2_45 bt0_45 H locs ls (Nat.lt_succ_self _) (by decide) (by omega) (by omega) hat1_45 hat2_45 hP hD hS (lv_sub hl [1, 2, 3, 4, 5, 6, 7, 8, 0] rfl)
        · have zc27004 := eqK rfl (show (0 : Int32).toInt = 0 by decide) c27004
          refine lv_goto (tgt := 122) hx hb dX1_goOn_65 (by decide) ?_
          exact B122 ft5_45 ft6_45 at1_45 at2_45 bt0_45 H locs ls (by omega) (by omega) hat1_45 hat2_45 hP hD hS (lv_sub hl [0, 1, 2, 3, 4, 5, 6, 7] rfl)
  exact B45 _ 0 (Ft 5) (Ft 6) (At 1) (At 2) (Bt 0) H locs ls (Nat.lt_succ_self _) (by decide) (hIt.1 5) (hIt.1 6) (fun j => hIt.2 1 j) (fun j => hIt.2 2 j) hP hD hS (lv_sub hl [5, 6, 7, 8, 3, 2, 1, 0] rfl)

set_option maxRecDepth 100000 in
set_option maxHeartbeats 16000000 in
theorem sX1_hunt (l : Launch) (G : va_G) (cs : Nat → ClassId) (adt : Nat) (qt : Nat → Nat) (Ft : Nat → Int32) (At : Nat → Nat → Int32) (Bt : Nat → Nat → Int64) (Dt : Int64) (hIt : IX1 Ft At) (adh : Nat) (qh : Nat → Nat) (Fh : Nat → Int32) (Ah : Nat → Nat → Int32) (Bh : Nat → Nat → Int64) (Dh : Int64) (hIh : IX3 Fh Ah) (a2 : Int32) (a3 : Int32) (a4 : Int32) (ha2 : (0 : Int) ≤ a2.toInt ∧ a2.toInt ≤ 6) (ha3 : (0 : Int) ≤ a3.toInt ∧ a3.toInt ≤ 6) (ha4 : (0 : Int) ≤ a4.toInt ∧ a4.toInt ≤ 1) : ∀ sz : Nat, Met l yX1_hunt (wk yX1_hunt cX1_hunt 6 (some .boolean)) (rmk 4 0 0) (PreD G (TY cs) [.ref adt, .ref adh, .int a2, .int a3, .int a4] ((uX1 cs adt qt Ft At Bt Dt) ++ (uX3 cs adh qh Fh Ah Bh Dh)) sz) ((QDi G (fun (r : Int32) (u : Int32 × Int32 × (Nat → Int32) × (Nat → Int32) × (Nat → Int64)) => ((0 : Int) ≤ u.1.toInt ∧ u.1.toInt ≤ 1792) ∧ ((-1 : Int) ≤ u.2.1.toInt ∧ u.2.1.toInt ≤ 1791) ∧ AJ (0) 6271 u.2.2.1 ∧ AJ (-1) 1791 u.2.2.2.1 ∧ ((0 : Int) ≤ r.toInt ∧ r.toInt ≤ 1)) (fun u : Int32 × Int32 × (Nat → Int32) × (Nat → Int32) × (Nat → Int64) => ((wX1 cs adt qt (upd (upd Ft 5 u.1) 6 u.2.1) (vA (vA At 1 u.2.2.1) 2 u.2.2.2.1) (vA Bt 0 u.2.2.2.2) Dt) ++ (uX3 cs adh qh Fh Ah Bh Dh)))) (va_A ((uX1 cs adt qt Ft At Bt Dt) ++ (uX3 cs adh qh Fh Ah Bh Dh)) sz)) 0 0 (va_A ((uX1 cs adt qt Ft At Bt Dt) ++ (uX3 cs adh qh Fh Ah Bh Dh)) sz) := by
  refine mkD (Qc := (QDi G (fun (r : Int32) (u : Int32 × Int32 × (Nat → Int32) × (Nat → Int32) × (Nat → Int64)) => ((0 : Int) ≤ u.1.toInt ∧ u.1.toInt ≤ 1792) ∧ ((-1 : Int) ≤ u.2.1.toInt ∧ u.2.1.toInt ≤ 1791) ∧ AJ (0) 6271 u.2.2.1 ∧ AJ (-1) 1791 u.2.2.2.1 ∧ ((0 : Int) ≤ r.toInt ∧ r.toInt ≤ 1)) (fun u : Int32 × Int32 × (Nat → Int32) × (Nat → Int32) × (Nat → Int64) => ((wX1 cs adt qt (upd (upd Ft 5 u.1) 6 u.2.1) (vA (vA At 1 u.2.2.1) 2 u.2.2.2.1) (vA Bt 0 u.2.2.2.2) Dt) ++ (uX3 cs adh qh Fh Ah Bh Dh))))) (by decide) (by simp [lg_sl, Value.category]) ?_
  intro p e s m args below meth c ls A0 hx hb hml hr hlk hown hmn ht hK hP hD hS hA hl
  have hl : lv_has ls 6 [(0, .ref adt), (1, .ref adh), (2, .int a2), (3, .int a3), (4, .int a4)] := hl
  refine lv_aload_n hx hb dX1_hunt_0 rfl (lv_at hl 0 rfl) ?_
  refine getF (v := .ref (qt 0)) hx hb ht hown hK hP iTX1 0 0 rfl rfl (by decide) fl_RX1_11 rfl dX1_hunt_1 ?_
  refine lv_lconst (v := 0) hx hb dX1_hunt_4 (by decide) ?_
  refine behDv (wr := (((uX1 cs adt qt Ft At Bt Dt) ++ (uX3 cs adh qh Fh Ah Bh Dh))).take 1 ++ (((uX1 cs adt qt Ft At Bt Dt) ++ (uX3 cs adh qh Fh Ah Bh Dh))).drop 2) (runTD (As := [.ref (qt 0), .long 0]) (rest := []) ⟨hx, hb, hml, hown, ht⟩ (dJ7_fill_d0a16 l G cs (qt 0) 98 (by decide) 0 (Bt 0)) okT_RX1_32 ⟨by decide, by decide⟩ hK hP hD [1] rfl (by decide) rfl hl.1 rfl (Nat.le_of_ble_eq_true rfl) dX1_hunt_5 ⟨(Nat.le_of_ble_eq_true rfl), (Nat.le_of_ble_eq_true rfl)⟩) hP hD hS hA [1] [0, 2, 3, 4, 5, 6, 7, 8, 9, 10, 11, 12, 13] rfl rfl (by decide) (by decide) (fun y1 H locs hP hD hS => ?_)
  have hP : va_P G vwCl ((uX1 cs adt qt Ft At (vB 0 y1 Bt) Dt) ++ (uX3 cs adh qh Fh Ah Bh Dh)) H := hP.sub [0, 13, 1, 2, 3, 4, 5, 6, 7, 8, 9, 10, 11, 12] rfl
  have hD : va_D A0 ((uX1 cs adt qt Ft At (vB 0 y1 Bt) Dt) ++ (uX3 cs adh qh Fh Ah Bh Dh)) := hD.sub [0, 13, 1, 2, 3, 4, 5, 6, 7, 8, 9, 10, 11, 12] (by decide) rfl
  refine lv_aload_n hx hb dX1_hunt_8 rfl (lv_at hl 0 rfl) ?_
  refine lv_iconst (v := 0) hx hb dX1_hunt_9 (by decide) ?_
  refine putD hx hb ht hown hK hP hD hS iTX1 tyX1 tyX1_ok nmX1 0 5 rfl rfl (by decide) fl_RX1_38 rfl rfl rfl (Nat.le_of_ble_eq_true rfl) dX1_hunt_10 (fun H locs hP hD hS => ?_)
  have hP : va_P G vwCl ((uX1 cs adt qt (upv 5 (0 : Int32) Ft) At (vB 0 y1 Bt) Dt) ++ (uX3 cs adh qh Fh Ah Bh Dh)) H := hP
  have hD : va_D A0 ((uX1 cs adt qt (upv 5 (0 : Int32) Ft) At (vB 0 y1 Bt) Dt) ++ (uX3 cs adh qh Fh Ah Bh Dh)) := hD
  refine lv_aload_n hx hb dX1_hunt_13 rfl (lv_at hl 0 rfl) ?_
  refine lv_iconst (v := (-1)) hx hb dX1_hunt_14 (by decide) ?_
  refine putD hx hb ht hown hK hP hD hS iTX1 tyX1 tyX1_ok nmX1 0 6 rfl rfl (by decide) fl_RX1_28 rfl rfl rfl (Nat.le_of_ble_eq_true rfl) dX1_hunt_15 (fun H locs hP hD hS => ?_)
  have hP : va_P G vwCl ((uX1 cs adt qt (upv 6 (-1 : Int32) (upv 5 (0 : Int32) Ft)) At (vB 0 y1 Bt) Dt) ++ (uX3 cs adh qh Fh Ah Bh Dh)) H := hP
  have hD : va_D A0 ((uX1 cs adt qt (upv 6 (-1 : Int32) (upv 5 (0 : Int32) Ft)) At (vB 0 y1 Bt) Dt) ++ (uX3 cs adh qh Fh Ah Bh Dh)) := hD
  refine lv_aload_n hx hb dX1_hunt_18 rfl (lv_at hl 0 rfl) ?_
  refine lv_iload_n hx hb dX1_hunt_19 rfl (lv_at hl 2 rfl) ?_
  refine lv_iload_n hx hb dX1_hunt_20 rfl (lv_at hl 3 rfl) ?_
  refine lv_aload_n hx hb dX1_hunt_21 rfl (lv_at hl 1 rfl) ?_
  refine behR (runVP (As := []) (rest := [.int a3, .int a2, .ref adt]) ⟨hx, hb, hml, hown, ht⟩ (sX3_allRooms l G cs adh qh Fh Ah Bh Dh hIh ) okV_RX1_41 ⟨by decide, by decide⟩ hK hP [6, 7, 8, 9, 10, 11, 12, 13] rfl 6 rfl rfl hl.1 rfl (Nat.le_of_ble_eq_true rfl) dX1_hunt_22 ⟨by decide, by decide⟩) hP hS hA (fun r2 H locs hr2 hP hS => ?_)
  have hr2 : (0 : Int) ≤ r2.toInt ∧ r2.toInt ≤ 127 := hr2
  refine lv_iconst (v := (-1)) hx hb dX1_hunt_25 (by decide) ?_
  refine behDw (wr := (uX3 cs adh qh Fh Ah Bh Dh)) (runVD (As := [.int a2, .int a3, .int r2, .int (-1)]) (rest := []) ⟨hx, hb, hml, hown, ht⟩ (sX1_reach l G cs adt qt (upv 6 (-1 : Int32) (upv 5 (0 : Int32) Ft)) At (vB 0 y1 Bt) Dt (IB_pv (k := 6) (IB_pv (k := 5) hIt (show (0 : Int) ≤ (0 : Int32).toInt ∧ (0 : Int32).toInt ≤ 1792 by decide)) (show (-1 : Int) ≤ (-1 : Int32).toInt ∧ (-1 : Int32).toInt ≤ 1791 by decide)) a2 a3 r2 (-1) (by omega) (by omega) (by omega) (by decide)) okV_RX1_47 ⟨by decide, by decide⟩ hK hP hD [0, 1, 2, 3, 4, 5] rfl (by decide) rfl 0 rfl rfl hl.1 rfl (Nat.le_of_ble_eq_true rfl) dX1_hunt_26 ⟨(Nat.le_of_ble_eq_true rfl), (Nat.le_of_ble_eq_true rfl)⟩) hP hD hS hA [0, 1, 2, 3, 4, 5] [6, 7, 8, 9, 10, 11, 12, 13] rfl rfl (by decide) (by decide) (fun u H locs hu hP hD hS => ?_)
  obtain ⟨x3, x4, g5, g6, y7⟩ := u
  obtain ⟨hbx3, hbx4, hg5, hg6, hr8⟩ := hu
  have hbx3 : (0 : Int) ≤ x3.toInt ∧ x3.toInt ≤ 1792 := hbx3
  have hbx4 : (-1 : Int) ≤ x4.toInt ∧ x4.toInt ≤ 1791 := hbx4
  have hg5 : AJ (0) 6271 g5 := hg5
  have hg6 : AJ (-1) 1791 g6 := hg6
  have hP : va_P G vwCl ((uX1 cs adt qt (upv 6 x4 (upv 5 x3 Ft)) (vB 2 g6 (vB 1 g5 At)) (vB 0 y7 Bt) Dt) ++ (uX3 cs adh qh Fh Ah Bh Dh)) H := hP.sub [8, 9, 10, 11, 12, 13, 0, 1, 2, 3, 4, 5, 6, 7] rfl
  have hD : va_D A0 ((uX1 cs adt qt (upv 6 x4 (upv 5 x3 Ft)) (vB 2 g6 (vB 1 g5 At)) (vB 0 y7 Bt) Dt) ++ (uX3 cs adh qh Fh Ah Bh Dh)) := hD.sub [8, 9, 10, 11, 12, 13, 0, 1, 2, 3, 4, 5, 6, 7] (by decide) rfl
  refine lv_iconst (v := 0) hx hb dX1_hunt_29 (by decide) ?_
  refine lv_istore (lv' := [(5, .int 0), (0, .ref adt), (1, .ref adh), (2, .int a2), (3, .int a3), (4, .int a4)]) hx hb dX1_hunt_30 hl (by decide) rfl (fun ls hl => ?_)
  have B32 : ∀ (n : Nat) (x32_5 : Int32) (ft5_32 : Int32) (ft6_32 : Int32) (at1_32 : (Nat → Int32)) (at2_32 : (Nat → Int32)) (bt0_32 : (Nat → Int64)) (H : Heap) (locs : List Loc) (ls : Array Slot), (1792 - x32_5.toInt).toNat < n → (0 : Int) ≤ x32_5.toInt ∧ x32_5.toInt ≤ 1792 → (0 : Int) ≤ ft5_32.toInt ∧ ft5_32.toInt ≤ 1792 → (-1 : Int) ≤ ft6_32.toInt ∧ ft6_32.toInt ≤ 1791 → AJ (0) 6271 at1_32 → AJ (-1) 1791 at2_32 → va_P G vwCl ((uX1 cs adt qt (upv 6 ft6_32 (upv 5 ft5_32 Ft)) (vB 2 at2_32 (vB 1 at1_32 At)) (vB 0 bt0_32 Bt) Dt) ++ (uX3 cs adh qh Fh Ah Bh Dh)) H → va_D A0 ((uX1 cs adt qt (upv 6 ft6_32 (upv 5 ft5_32 Ft)) (vB 2 at2_32 (vB 1 at1_32 At)) (vB 0 bt0_32 Bt) Dt) ++ (uX3 cs adh qh Fh Ah Bh Dh)) → va_S A0 s.heap H locs → lv_has ls 6 [(0, .ref adt), (1, .ref adh), (4, .int a4), (5, .int x32_5)] → W p l e (rmk 4 0 0) s m args below meth c H locs 0 0 (MQ below ((QDi G (fun (r : Int32) (u : Int32 × Int32 × (Nat → Int32) × (Nat → Int32) × (Nat → Int64)) => ((0 : Int) ≤ u.1.toInt ∧ u.1.toInt ≤ 1792) ∧ ((-1 : Int) ≤ u.2.1.toInt ∧ u.2.1.toInt ≤ 1791) ∧ AJ (0) 6271 u.2.2.1 ∧ AJ (-1) 1791 u.2.2.2.1 ∧ ((0 : Int) ≤ r.toInt ∧ r.toInt ≤ 1)) (fun u : Int32 × Int32 × (Nat → Int32) × (Nat → Int32) × (Nat → Int64) => ((wX1 cs adt qt (upd (upd Ft 5 u.1) 6 u.2.1) (vA (vA At 1 u.2.2.1) 2 u.2.2.2.1) (vA Bt 0 u.2.2.2.2) Dt) ++ (uX3 cs adh qh Fh Ah Bh Dh)))) A0) args s 0 0 A0) (F0 m 32 ls []) := by
    intro n
    induction n with
    | zero => intro x32_5 ft5_32 ft6_32 at1_32 at2_32 bt0_32 H locs ls hmeas hx32_5 hft5_32 hft6_32 hat1_32 hat2_32 hP hD hS hl; exact absurd hmeas (Nat.not_lt_zero _)
    | succ n ih32 =>
      intro x32_5 ft5_32 ft6_32 at1_32 at2_32 bt0_32 H locs ls hmeas hx32_5 hft5_32 hft6_32 hat1_32 hat2_32 hP hD hS hl
      refine lv_iload hx hb dX1_hunt_32 (lv_at hl 3 rfl) ?_
      refine lv_aload_n hx hb dX1_hunt_34 rfl (lv_at hl 0 rfl) ?_
      refine getF (v := .int ft5_32) hx hb ht hown hK hP iTX1 0 5 rfl rfl (by decide) fl_RX1_38 rfl dX1_hunt_35 ?_
      have B72 : ∀ (H : Heap) (locs : List Loc) (ls : Array Slot), va_P G vwCl ((uX1 cs adt qt (upv 6 ft6_32 (upv 5 ft5_32 Ft)) (vB 2 at2_32 (vB 1 at1_32 At)) (vB 0 bt0_32 Bt) Dt) ++ (uX3 cs adh qh Fh Ah Bh Dh)) H → va_D A0 ((uX1 cs adt qt (upv 6 ft6_32 (upv 5 ft5_32 Ft)) (vB 2 at2_32 (vB 1 at1_32 At)) (vB 0 bt0_32 Bt) Dt) ++ (uX3 cs adh qh Fh Ah Bh Dh)) → va_S A0 s.heap H locs → lv_has ls 6 [(0, .ref adt)] → W p l e (rmk 4 0 0) s m args below meth c H locs 0 0 (MQ below ((QDi G (fun (r : Int32) (u : Int32 × Int32 × (Nat → Int32) × (Nat → Int32) × (Nat → Int64)) => ((0 : Int) ≤ u.1.toInt ∧ u.1.toInt ≤ 1792) ∧ ((-1 : Int) ≤ u.2.1.toInt ∧ u.2.1.toInt ≤ 1791) ∧ AJ (0) 6271 u.2.2.1 ∧ AJ (-1) 1791 u.2.2.2.1 ∧ ((0 : Int) ≤ r.toInt ∧ r.toInt ≤ 1)) (fun u : Int32 × Int32 × (Nat → Int32) × (Nat → Int32) × (Nat → Int64) => ((wX1 cs adt qt (upd (upd Ft 5 u.1) 6 u.2.1) (vA (vA At 1 u.2.2.1) 2 u.2.2.2.1) (vA Bt 0 u.2.2.2.2) Dt) ++ (uX3 cs adh qh Fh Ah Bh Dh)))) A0) args s 0 0 A0) (F0 m 72 ls []) := by
        intro H locs ls hP hD hS hl
        refine lv_aload_n hx hb dX1_hunt_72 rfl (lv_at hl 0 rfl) ?_
        refine getF (v := .int ft6_32) hx hb ht hown hK hP iTX1 0 6 rfl rfl (by decide) fl_RX1_28 rfl dX1_hunt_73 ?_
        refine lv_iconst (v := (-1)) hx hb dX1_hunt_76 (by decide) ?_
        refine lv_icmp_eq (tgt := 84) hx hb dX1_hunt_77 (by decide) (fun c38001 => ?_) (fun c38001 => ?_)
        · have zc38001 := eqK rfl (show (-1 : Int32).toInt = (-1) by decide) c38001
          refine lv_iconst (v := 0) hx hb dX1_hunt_84 (by decide) ?_
          exact retDz (ft5_32, ft6_32, at1_32, at2_32, bt0_32) hx hb hr hlk hP hD hS dX1_hunt_85 (rfl) (⟨show (0 : Int) ≤ ft5_32.toInt ∧ ft5_32.toInt ≤ 1792 by omega, show (-1 : Int) ≤ ft6_32.toInt ∧ ft6_32.toInt ≤ 1791 by omega, hat1_32, hat2_32, show (0 : Int) ≤ (0 : Int32).toInt ∧ (0 : Int32).toInt ≤ 1 by have kk : (0 : Int32).toInt = 0 := (by decide); omega⟩) (Nat.le_of_ble_eq_true rfl) (Nat.le_of_ble_eq_true rfl)
        · have zc38001 := neK rfl (show (-1 : Int32).toInt = (-1) by decide) c38001
          refine lv_iconst (v := 1) hx hb dX1_hunt_80 (by decide) ?_
          refine lv_goto (tgt := 85) hx hb dX1_hunt_81 (by decide) ?_
          exact retDz (ft5_32, ft6_32, at1_32, at2_32, bt0_32) hx hb hr hlk hP hD hS dX1_hunt_85 (rfl) (⟨show (0 : Int) ≤ ft5_32.toInt ∧ ft5_32.toInt ≤ 1792 by omega, show (-1 : Int) ≤ ft6_32.toInt ∧ ft6_32.toInt ≤ 1791 by omega, hat1_32, hat2_32, show (0 : Int) ≤ (1 : Int32).toInt ∧ (1 : Int32).toInt ≤ 1 by have kk : (1 : Int32).toInt = 1 := (by decide); omega⟩) (Nat.le_of_ble_eq_true rfl) (Nat.le_of_ble_eq_true rfl)
      refine lv_icmp_ge (tgt := 72) hx hb dX1_hunt_38 (by decide) (fun c20001 => ?_) (fun c20001 => ?_)
      · have zc20001 := leK rfl rfl c20001
        exact B72 H locs ls hP hD hS (lv_sub hl [0] rfl)
      · have zc20001 := nleK rfl rfl c20001
        refine lv_iload hx hb dX1_hunt_41 (lv_at hl 3 rfl) ?_
        refine lv_sipush (v := 1792) hx hb dX1_hunt_43 (by decide) ?_
        refine lv_icmp_ge (tgt := 72) hx hb dX1_hunt_46 (by decide) (fun c20002 => False.elim (by have zz := leK (show (1792 : Int32).toInt = 1792 by decide) rfl c20002; omega)) (fun c20002 => ?_)
        refine lv_aload_n hx hb dX1_hunt_49 rfl (lv_at hl 0 rfl) ?_
        refine getF (v := .int ft6_32) hx hb ht hown hK hP iTX1 0 6 rfl rfl (by decide) fl_RX1_28 rfl dX1_hunt_50 ?_
        refine lv_iconst (v := (-1)) hx hb dX1_hunt_53 (by decide) ?_
        refine lv_icmp_ne (tgt := 72) hx hb dX1_hunt_54 (by decide) (fun c20003 => ?_) (fun c20003 => ?_)
        · have zc20003 := neK rfl (show (-1 : Int32).toInt = (-1) by decide) c20003
          exact B72 H locs ls hP hD hS (lv_sub hl [0] rfl)
        · have zc20003 := eqK rfl (show (-1 : Int32).toInt = (-1) by decide) c20003
          refine lv_aload_n hx hb dX1_hunt_57 rfl (lv_at hl 0 rfl) ?_
          refine lv_aload_n hx hb dX1_hunt_58 rfl (lv_at hl 1 rfl) ?_
          refine lv_iload hx hb dX1_hunt_59 (lv_at hl 3 rfl) ?_
          refine lv_iload hx hb dX1_hunt_61 (lv_at hl 2 rfl) ?_
          refine behDw (wr := ([] : va_W)) (runVD (As := [.ref adh, .int x32_5, .int a4]) (rest := []) ⟨hx, hb, hml, hown, ht⟩ (sX1_goOn l G cs adt qt (upv 6 ft6_32 (upv 5 ft5_32 Ft)) (vB 2 at2_32 (vB 1 at1_32 At)) (vB 0 bt0_32 Bt) Dt (IB_av (k := 2) (IB_av (k := 1) (IB_pv (k := 6) (IB_pv (k := 5) hIt (show (0 : Int) ≤ ft5_32.toInt ∧ ft5_32.toInt ≤ 1792 by omega)) (show (-1 : Int) ≤ ft6_32.toInt ∧ ft6_32.toInt ≤ 1791 by omega)) hat1_32) hat2_32) adh qh Fh Ah Bh Dh hIh x32_5 a4 (by omega) (by omega)) okV_RX1_51 ⟨by decide, by decide⟩ hK hP hD [0, 1, 2, 3, 4, 5, 6, 7, 8, 9, 10, 11, 12, 13] rfl (by decide) rfl 0 rfl rfl hl.1 rfl (Nat.le_of_ble_eq_true rfl) dX1_hunt_63 ⟨(Nat.le_of_ble_eq_true rfl), (Nat.le_of_ble_eq_true rfl)⟩) hP hD hS hA [0, 1, 2, 3, 4, 5, 6, 7, 8, 9, 10, 11, 12, 13] [] rfl rfl (by decide) (by decide) (fun u H locs hu hP hD hS => ?_)
          obtain ⟨x20004, x20005, g20006, g20007, y20008⟩ := u
          obtain ⟨hbx20004, hbx20005, hg20006, hg20007, hr20009⟩ := hu
          have hbx20004 : (0 : Int) ≤ x20004.toInt ∧ x20004.toInt ≤ 1792 := hbx20004
          have hbx20005 : (-1 : Int) ≤ x20005.toInt ∧ x20005.toInt ≤ 1791 := hbx20005
          have hg20006 : AJ (0) 6271 g20006 := hg20006
          have hg20007 : AJ (-1) 1791 g20007 := hg20007
          have hP : va_P G vwCl ((uX1 cs adt qt (upv 6 x20005 (upv 5 x20004 Ft)) (vB 2 g20007 (vB 1 g20006 At)) (vB 0 y20008 Bt) Dt) ++ (uX3 cs adh qh Fh Ah Bh Dh)) H := hP.sub [0, 1, 2, 3, 4, 5, 6, 7, 8, 9, 10, 11, 12, 13] rfl
          have hD : va_D A0 ((uX1 cs adt qt (upv 6 x20005 (upv 5 x20004 Ft)) (vB 2 g20007 (vB 1 g20006 At)) (vB 0 y20008 Bt) Dt) ++ (uX3 cs adh qh Fh Ah Bh Dh)) := hD.sub [0, 1, 2, 3, 4, 5, 6, 7, 8, 9, 10, 11, 12, 13] (by decide) rfl
          obtain ⟨v20010, ev20010⟩ : ∃ z : Int32, z = x32_5 + 1 := ⟨_, rfl⟩
          have tv20010 : v20010.toInt = x32_5.toInt + 1 := by rw [ev20010]; exact addT rfl (by decide) (by omega)
          refine lv_iinc (v := v20010) (lv' := [(5, .int v20010), (0, .ref adt), (1, .ref adh), (4, .int a4)]) hx hb dX1_hunt_66 hl (k := 3) rfl (by rw [ev20010]; rfl) (by decide) rfl (fun ls hl => ?_)
          refine lv_goto (tgt := 32) hx hb dX1_hunt_69 (by decide) ?_
          exact ih32 v20010 x20004 x20005 g20006 g20007 y20008 H locs ls (by omega) (by omega) (by omega) (by omega) hg20006 hg20007 hP hD hS (lv_sub hl [1, 2, 3, 0] rfl)
  exact B32 _ 0 x3 x4 g5 g6 y7 H locs ls (Nat.lt_succ_self _) (by decide) (by omega) (by omega) hg5 hg6 hP hD hS (lv_sub hl [1, 2, 5, 0] rfl)

set_option maxRecDepth 100000 in
set_option maxHeartbeats 16000000 in
theorem sX1_minutesToClear (l : Launch) (G : va_G) (cs : Nat → ClassId) (adt : Nat) (qt : Nat → Nat) (Ft : Nat → Int32) (At : Nat → Nat → Int32) (Bt : Nat → Nat → Int64) (Dt : Int64) (hIt : IX1 Ft At) : ∀ sz : Nat, Met l yX1_minutesToClear (wk yX1_minutesToClear cX1_minutesToClear 4 (some .int)) (rmk 0 0 0) (PreP G (TY cs) [.ref adt] (uX1 cs adt qt Ft At Bt Dt) sz) (QRi (fun r : Int32 => r.toInt = -1 ∨ 0 ≤ (Ft 6).toInt) sz) 0 0 (fun q => sz ≤ q) := by
  refine mkP (Qc := QRi (fun r : Int32 => r.toInt = -1 ∨ 0 ≤ (Ft 6).toInt)) (by decide) (by simp [lg_sl, Value.category]) ?_
  intro p e s m args below meth c ls hx hb hml hr hlk hown ht hK hP hS hl
  have hl : lv_has ls 4 [(0, .ref adt)] := hl
  refine lv_aload_n hx hb dX1_minutesToClear_0 rfl (lv_at hl 0 rfl) ?_
  refine getF (v := .int (Ft 6)) hx hb ht hown hK hP iTX1 0 6 rfl rfl (by decide) fl_RX1_28 rfl dX1_minutesToClear_1 ?_
  have zf1 : (-1 : Int) ≤ (Ft 6).toInt ∧ (Ft 6).toInt ≤ 1791 := hIt.1 6
  refine lv_iconst (v := (-1)) hx hb dX1_minutesToClear_4 (by decide) ?_
  refine lv_icmp_ne (tgt := 10) hx hb dX1_minutesToClear_5 (by decide) (fun c2 => ?_) (fun c2 => ?_)
  · have zc2 := neK rfl (show (-1 : Int32).toInt = (-1) by decide) c2
    refine lv_iconst (v := 0) hx hb dX1_minutesToClear_10 (by decide) ?_
    refine lv_istore_n (lv' := [(1, .int 0), (0, .ref adt)]) hx hb dX1_minutesToClear_11 rfl hl (by decide) rfl (fun ls hl => ?_)
    refine lv_aload_n hx hb dX1_minutesToClear_12 rfl (lv_at hl 1 rfl) ?_
    refine getF (v := .ref (qt 2)) hx hb ht hown hK hP iTX1 0 2 rfl rfl (by decide) fl_RX1_19 rfl dX1_minutesToClear_13 ?_
    refine lv_aload_n hx hb dX1_minutesToClear_16 rfl (lv_at hl 1 rfl) ?_
    refine getF (v := .int (Ft 6)) hx hb ht hown hK hP iTX1 0 6 rfl rfl (by decide) fl_RX1_28 rfl dX1_minutesToClear_17 ?_
    have zf3 : (-1 : Int) ≤ (Ft 6).toInt ∧ (Ft 6).toInt ≤ 1791 := hIt.1 6
    refine va_iald hx hb hK.1 hP 3 0 rfl rfl (inK rfl (by omega) (by decide)) dX1_minutesToClear_20 ?_
    refine lv_topi (fun v4 ev4 => ?_)
    have zf5 : (-1 : Int) ≤ v4.toInt ∧ v4.toInt ≤ 1791 := by rw [ev4]; exact (hIt.2 2 _)
    refine lv_istore_n (lv' := [(2, .int v4), (1, .int 0), (0, .ref adt)]) hx hb dX1_minutesToClear_21 rfl hl (by decide) rfl (fun ls hl => ?_)
    refine lv_iconst (v := 0) hx hb dX1_minutesToClear_22 (by decide) ?_
    refine lv_istore_n (lv' := [(3, .int 0), (2, .int v4), (1, .int 0), (0, .ref adt)]) hx hb dX1_minutesToClear_23 rfl hl (by decide) rfl (fun ls hl => ?_)
    have B24 : ∀ (n : Nat) (x24_1 : Int32) (x24_2 : Int32) (x24_3 : Int32) (H : Heap) (locs : List Loc) (ls : Array Slot), (1792 - x24_3.toInt).toNat < n → (-1 : Int) ≤ x24_2.toInt ∧ x24_2.toInt ≤ 1791 → (0 : Int) ≤ x24_3.toInt ∧ x24_3.toInt ≤ 1792 → va_P G vwCl (uX1 cs adt qt Ft At Bt Dt) H → va_S (fun q => s.heap.size ≤ q) s.heap H locs → lv_has ls 4 [(0, .ref adt), (1, .int x24_1), (2, .int x24_2), (3, .int x24_3)] → W p l e (rmk 0 0 0) s m args below meth c H locs 0 0 (MQ below (QRi (fun r : Int32 => r.toInt = -1 ∨ 0 ≤ (Ft 6).toInt) s.heap.size) args s 0 0 (fun q => s.heap.size ≤ q)) (F0 m 24 ls []) := by
      intro n
      induction n with
      | zero => intro x24_1 x24_2 x24_3 H locs ls hmeas hx24_2 hx24_3 hP hS hl; exact absurd hmeas (Nat.not_lt_zero _)
      | succ n ih24 =>
        intro x24_1 x24_2 x24_3 H locs ls hmeas hx24_2 hx24_3 hP hS hl
        refine lv_iload_n hx hb dX1_minutesToClear_24 rfl (lv_at hl 3 rfl) ?_
        refine lv_sipush (v := 1792) hx hb dX1_minutesToClear_25 (by decide) ?_
        refine lv_icmp_ge (tgt := 52) hx hb dX1_minutesToClear_28 (by decide) (fun c17001 => ?_) (fun c17001 => ?_)
        · have zc17001 := leK (show (1792 : Int32).toInt = 1792 by decide) rfl c17001
          refine lv_iload_n hx hb dX1_minutesToClear_52 rfl (lv_at hl 1 rfl) ?_
          exact retRi hx hb hr hlk hS dX1_minutesToClear_53 (show x24_1.toInt = -1 ∨ 0 ≤ (Ft 6).toInt by omega)
        · have zc17001 := nleK (show (1792 : Int32).toInt = 1792 by decide) rfl c17001
          refine lv_iload_n hx hb dX1_minutesToClear_31 rfl (lv_at hl 2 rfl) ?_
          refine lv_iconst (v := (-1)) hx hb dX1_minutesToClear_32 (by decide) ?_
          refine lv_icmp_eq (tgt := 52) hx hb dX1_minutesToClear_33 (by decide) (fun c17002 => ?_) (fun c17002 => ?_)
          · have zc17002 := eqK rfl (show (-1 : Int32).toInt = (-1) by decide) c17002
            refine lv_iload_n hx hb dX1_minutesToClear_52 rfl (lv_at hl 1 rfl) ?_
            exact retRi hx hb hr hlk hS dX1_minutesToClear_53 (show x24_1.toInt = -1 ∨ 0 ≤ (Ft 6).toInt by omega)
          · have zc17002 := neK rfl (show (-1 : Int32).toInt = (-1) by decide) c17002
            obtain ⟨v17003, ev17003⟩ : ∃ z : Int32, z = x24_1 + 1 := ⟨_, rfl⟩
            refine lv_iinc (v := v17003) (lv' := [(1, .int v17003), (0, .ref adt), (2, .int x24_2), (3, .int x24_3)]) hx hb dX1_minutesToClear_36 hl (k := 1) rfl (by rw [ev17003]; rfl) (by decide) rfl (fun ls hl => ?_)
            refine lv_aload_n hx hb dX1_minutesToClear_39 rfl (lv_at hl 1 rfl) ?_
            refine getF (v := .ref (qt 2)) hx hb ht hown hK hP iTX1 0 2 rfl rfl (by decide) fl_RX1_19 rfl dX1_minutesToClear_40 ?_
            refine lv_iload_n hx hb dX1_minutesToClear_43 rfl (lv_at hl 2 rfl) ?_
            refine va_iald hx hb hK.1 hP 3 0 rfl rfl (inK rfl (by omega) (by decide)) dX1_minutesToClear_44 ?_
            refine lv_topi (fun v17004 ev17004 => ?_)
            have zf17005 : (-1 : Int) ≤ v17004.toInt ∧ v17004.toInt ≤ 1791 := by rw [ev17004]; exact (hIt.2 2 _)
            refine lv_istore_n (lv' := [(2, .int v17004), (1, .int v17003), (0, .ref adt), (3, .int x24_3)]) hx hb dX1_minutesToClear_45 rfl hl (by decide) rfl (fun ls hl => ?_)
            obtain ⟨v17006, ev17006⟩ : ∃ z : Int32, z = x24_3 + 1 := ⟨_, rfl⟩
            have tv17006 : v17006.toInt = x24_3.toInt + 1 := by rw [ev17006]; exact addT rfl (by decide) (by omega)
            refine lv_iinc (v := v17006) (lv' := [(3, .int v17006), (2, .int v17004), (1, .int v17003), (0, .ref adt)]) hx hb dX1_minutesToClear_46 hl (k := 3) rfl (by rw [ev17006]; rfl) (by decide) rfl (fun ls hl => ?_)
            refine lv_goto (tgt := 24) hx hb dX1_minutesToClear_49 (by decide) ?_
            exact ih24 v17003 v17004 v17006 H locs ls (by omega) (by omega) (by omega) hP hS (lv_sub hl [3, 2, 1, 0] rfl)
    exact B24 _ 0 v4 0 s.heap [] ls (Nat.lt_succ_self _) (by omega) (by decide) hP hS (lv_sub hl [3, 2, 1, 0] rfl)
  · have zc2 := eqK rfl (show (-1 : Int32).toInt = (-1) by decide) c2
    refine lv_iconst (v := (-1)) hx hb dX1_minutesToClear_8 (by decide) ?_
    exact retRi hx hb hr hlk hS dX1_minutesToClear_9 (show (-1 : Int32).toInt = -1 ∨ 0 ≤ (Ft 6).toInt by have kk : (-1 : Int32).toInt = -1 := (by decide); omega)

set_option maxRecDepth 100000 in
set_option maxHeartbeats 16000000 in
theorem sX1_placeOf (l : Launch) (G : va_G) (cs : Nat → ClassId) (adt : Nat) (qt : Nat → Nat) (Ft : Nat → Int32) (At : Nat → Nat → Int32) (Bt : Nat → Nat → Int64) (Dt : Int64) (hIt : IX1 Ft At) (a1 : Int32) (a2 : Int32) : ∀ sz : Nat, Met l yX1_placeOf (wk yX1_placeOf cX1_placeOf 6 (some .int)) (rmk 1 0 0) (PreP G (TY cs) [.ref adt, .int a1, .int a2] (uX1 cs adt qt Ft At Bt Dt) sz) (QRi (fun r : Int32 => True) sz) 0 0 (fun q => sz ≤ q) := by
  refine mkP (Qc := QRi (fun r : Int32 => True)) (by decide) (by simp [lg_sl, Value.category]) ?_
  intro p e s m args below meth c ls hx hb hml hr hlk hown ht hK hP hS hl
  have hl : lv_has ls 6 [(0, .ref adt), (1, .int a1), (2, .int a2)] := hl
  refine lv_aload_n hx hb dX1_placeOf_0 rfl (lv_at hl 0 rfl) ?_
  refine behR (runVP (As := []) (rest := []) ⟨hx, hb, hml, hown, ht⟩ (sX1_minutesToClear l G cs adt qt Ft At Bt Dt hIt ) okV_RX1_55 ⟨by decide, by decide⟩ hK hP [0, 1, 2, 3, 4, 5] rfl 0 rfl rfl hl.1 rfl (Nat.le_of_ble_eq_true rfl) dX1_placeOf_1 ⟨by decide, by decide⟩) hP hS (fun _ h => h) (fun r1 H locs hr1 hP hS => ?_)
  have hr1 : r1.toInt = -1 ∨ 0 ≤ (Ft 6).toInt := hr1
  have bbr1 := i32b r1
  refine lv_istore_n (lv' := [(3, .int r1), (0, .ref adt), (1, .int a1), (2, .int a2)]) hx hb dX1_placeOf_4 rfl hl (by decide) rfl (fun ls hl => ?_)
  refine lv_iload_n hx hb dX1_placeOf_5 rfl (lv_at hl 3 rfl) ?_
  refine lv_if_lt (tgt := 14) hx hb dX1_placeOf_6 (by decide) (fun c2 => ?_) (fun c2 => ?_)
  · have zc2 := ltK rfl (show (0 : Int32).toInt = 0 by decide) c2
    refine lv_iconst (v := (-1)) hx hb dX1_placeOf_14 (by decide) ?_
    exact retRi hx hb hr hlk hS dX1_placeOf_15 (trivial)
  · have zc2 := nltK rfl (show (0 : Int32).toInt = 0 by decide) c2
    refine lv_iload_n hx hb dX1_placeOf_9 rfl (lv_at hl 3 rfl) ?_
    refine lv_iload_n hx hb dX1_placeOf_10 rfl (lv_at hl 0 rfl) ?_
    refine lv_icmp_lt (tgt := 16) hx hb dX1_placeOf_11 (by decide) (fun c3 => ?_) (fun c3 => ?_)
    · have zc3 := ltK rfl rfl c3
      refine lv_aload_n hx hb dX1_placeOf_16 rfl (lv_at hl 1 rfl) ?_
      refine getF (v := .int (Ft 6)) hx hb ht hown hK hP iTX1 0 6 rfl rfl (by decide) fl_RX1_28 rfl dX1_placeOf_17 ?_
      have zf4 : (-1 : Int) ≤ (Ft 6).toInt ∧ (Ft 6).toInt ≤ 1791 := hIt.1 6
      refine lv_istore (lv' := [(4, .int (Ft 6)), (3, .int r1), (0, .ref adt), (1, .int a1), (2, .int a2)]) hx hb dX1_placeOf_20 hl (by decide) rfl (fun ls hl => ?_)
      refine lv_iload_n hx hb dX1_placeOf_22 rfl (lv_at hl 1 rfl) ?_
      refine lv_iconst (v := 1) hx hb dX1_placeOf_23 (by decide) ?_
      refine lv_isub hx hb dX1_placeOf_24 ?_
      refine lv_topi (fun v5 ev5 => ?_)
      have tv5 : v5.toInt = r1.toInt - 1 := by rw [ev5]; exact subT rfl (show (1 : Int32).toInt = 1 by decide) (by omega)
      refine lv_istore (lv' := [(5, .int v5), (4, .int (Ft 6)), (3, .int r1), (0, .ref adt), (1, .int a1), (2, .int a2)]) hx hb dX1_placeOf_25 hl (by decide) rfl (fun ls hl => ?_)
      have B27 : ∀ (n : Nat) (x27_4 : Int32) (x27_5 : Int32) (H : Heap) (locs : List Loc) (ls : Array Slot), (x27_5.toInt - (0)).toNat < n → (0 : Int) ≤ x27_4.toInt ∧ x27_4.toInt ≤ 1791 → (0 : Int) ≤ x27_5.toInt ∧ x27_5.toInt ≤ 2147483646 → va_P G vwCl (uX1 cs adt qt Ft At Bt Dt) H → va_S (fun q => s.heap.size ≤ q) s.heap H locs → lv_has ls 6 [(0, .ref adt), (1, .int a1), (2, .int a2), (4, .int x27_4), (5, .int x27_5)] → W p l e (rmk 1 0 0) s m args below meth c H locs 0 0 (MQ below (QRi (fun r : Int32 => True) s.heap.size) args s 0 0 (fun q => s.heap.size ≤ q)) (F0 m 27 ls []) := by
        intro n
        induction n with
        | zero => intro x27_4 x27_5 H locs ls hmeas hx27_4 hx27_5 hP hS hl; exact absurd hmeas (Nat.not_lt_zero _)
        | succ n ih27 =>
          intro x27_4 x27_5 H locs ls hmeas hx27_4 hx27_5 hP hS hl
          refine lv_iload hx hb dX1_placeOf_27 (lv_at hl 4 rfl) ?_
          refine lv_iload_n hx hb dX1_placeOf_29 rfl (lv_at hl 2 rfl) ?_
          have B59 : ∀ (H : Heap) (locs : List Loc) (ls : Array Slot), va_P G vwCl (uX1 cs adt qt Ft At Bt Dt) H → va_S (fun q => s.heap.size ≤ q) s.heap H locs → lv_has ls 6 [(0, .ref adt), (1, .int a1), (4, .int x27_4)] → W p l e (rmk 1 0 0) s m args below meth c H locs 0 0 (MQ below (QRi (fun r : Int32 => True) s.heap.size) args s 0 0 (fun q => s.heap.size ≤ q)) (F0 m 59 ls []) := by
            intro H locs ls hP hS hl
            refine lv_aload_n hx hb dX1_placeOf_59 rfl (lv_at hl 0 rfl) ?_
            refine getF (v := .ref (qt 1)) hx hb ht hown hK hP iTX1 0 1 rfl rfl (by decide) fl_RX1_15 rfl dX1_placeOf_60 ?_
            refine lv_iload hx hb dX1_placeOf_63 (lv_at hl 2 rfl) ?_
            refine va_iald hx hb hK.1 hP 2 0 rfl rfl (inK rfl (by omega) (by decide)) dX1_placeOf_65 ?_
            refine lv_topi (fun v32001 ev32001 => ?_)
            have zf32002 : (0 : Int) ≤ v32001.toInt ∧ v32001.toInt ≤ 6271 := by rw [ev32001]; exact (hIt.2 1 _)
            have znv32001 : v32001.toInt = ((At 1) x27_4.toNatClampNeg).toInt := congrArg Int32.toInt ev32001
            refine lv_sipush (v := 128) hx hb dX1_placeOf_66 (by decide) ?_
            refine lv_idiv hx hb dX1_placeOf_69 (by decide) ?_
            refine lv_topi (fun v32003 ev32003 => ?_)
            have tv32003 : v32003.toInt = v32001.toInt / 128 := by rw [ev32003]; exact divT rfl (by decide) (by omega) (by decide)
            refine lv_istore (lv' := [(5, .int v32003), (0, .ref adt), (1, .int a1), (4, .int x27_4)]) hx hb dX1_placeOf_70 hl (by decide) rfl (fun ls hl => ?_)
            refine lv_iload_n hx hb dX1_placeOf_72 rfl (lv_at hl 2 rfl) ?_
            refine lv_if_ne (tgt := 84) hx hb dX1_placeOf_73 (by decide) (fun c32004 => ?_) (fun c32004 => ?_)
            · have zc32004 := neK rfl (show (0 : Int32).toInt = 0 by decide) c32004
              refine lv_iload hx hb dX1_placeOf_84 (lv_at hl 0 rfl) ?_
              refine lv_bipush (v := 7) hx hb dX1_placeOf_86 (by decide) ?_
              refine lv_irem hx hb dX1_placeOf_88 (by decide) ?_
              refine lv_topi (fun v32005 ev32005 => ?_)
              have tv32005 : v32005.toInt = v32003.toInt % 7 := by rw [ev32005]; exact remT rfl (by decide) (by omega) (by decide)
              exact retRi hx hb hr hlk hS dX1_placeOf_89 (trivial)
            · have zc32004 := eqK rfl (show (0 : Int32).toInt = 0 by decide) c32004
              refine lv_iload hx hb dX1_placeOf_76 (lv_at hl 0 rfl) ?_
              refine lv_bipush (v := 7) hx hb dX1_placeOf_78 (by decide) ?_
              refine lv_idiv hx hb dX1_placeOf_80 (by decide) ?_
              refine lv_topi (fun v32006 ev32006 => ?_)
              have tv32006 : v32006.toInt = v32003.toInt / 7 := by rw [ev32006]; exact divT rfl (by decide) (by omega) (by decide)
              refine lv_goto (tgt := 89) hx hb dX1_placeOf_81 (by decide) ?_
              exact retRi hx hb hr hlk hS dX1_placeOf_89 (trivial)
          refine lv_icmp_le (tgt := 59) hx hb dX1_placeOf_30 (by decide) (fun c16001 => ?_) (fun c16001 => ?_)
          · have zc16001 := leK rfl rfl c16001
            exact B59 H locs ls hP hS (lv_sub hl [0, 1, 3] rfl)
          · have zc16001 := nleK rfl rfl c16001
            refine lv_aload_n hx hb dX1_placeOf_33 rfl (lv_at hl 0 rfl) ?_
            refine getF (v := .ref (qt 2)) hx hb ht hown hK hP iTX1 0 2 rfl rfl (by decide) fl_RX1_19 rfl dX1_placeOf_34 ?_
            refine lv_iload hx hb dX1_placeOf_37 (lv_at hl 3 rfl) ?_
            refine va_iald hx hb hK.1 hP 3 0 rfl rfl (inK rfl (by omega) (by decide)) dX1_placeOf_39 ?_
            refine lv_topi (fun v16002 ev16002 => ?_)
            have zf16003 : (-1 : Int) ≤ v16002.toInt ∧ v16002.toInt ≤ 1791 := by rw [ev16002]; exact (hIt.2 2 _)
            have znv16002 : v16002.toInt = ((At 2) x27_4.toNatClampNeg).toInt := congrArg Int32.toInt ev16002
            refine lv_iconst (v := (-1)) hx hb dX1_placeOf_40 (by decide) ?_
            refine lv_icmp_eq (tgt := 59) hx hb dX1_placeOf_41 (by decide) (fun c16004 => ?_) (fun c16004 => ?_)
            · have zc16004 := eqK rfl (show (-1 : Int32).toInt = (-1) by decide) c16004
              exact B59 H locs ls hP hS (lv_sub hl [0, 1, 3] rfl)
            · have zc16004 := neK rfl (show (-1 : Int32).toInt = (-1) by decide) c16004
              refine lv_aload_n hx hb dX1_placeOf_44 rfl (lv_at hl 0 rfl) ?_
              refine getF (v := .ref (qt 2)) hx hb ht hown hK hP iTX1 0 2 rfl rfl (by decide) fl_RX1_19 rfl dX1_placeOf_45 ?_
              refine lv_iload hx hb dX1_placeOf_48 (lv_at hl 3 rfl) ?_
              refine va_iald hx hb hK.1 hP 3 0 rfl rfl (inK rfl (by omega) (by decide)) dX1_placeOf_50 ?_
              refine lv_topi (fun v16005 ev16005 => ?_)
              have zf16006 : (-1 : Int) ≤ v16005.toInt ∧ v16005.toInt ≤ 1791 := by rw [ev16005]; exact (hIt.2 2 _)
              have znv16005 : v16005.toInt = ((At 2) x27_4.toNatClampNeg).toInt := congrArg Int32.toInt ev16005
              refine lv_istore (lv' := [(4, .int v16005), (0, .ref adt), (1, .int a1), (2, .int a2), (5, .int x27_5)]) hx hb dX1_placeOf_51 hl (by decide) rfl (fun ls hl => ?_)
              obtain ⟨v16007, ev16007⟩ : ∃ z : Int32, z = x27_5 + (-1) := ⟨_, rfl⟩
              have tv16007 : v16007.toInt = x27_5.toInt + (-1) := by rw [ev16007]; exact addT rfl (by decide) (by omega)
              refine lv_iinc (v := v16007) (lv' := [(5, .int v16007), (4, .int v16005), (0, .ref adt), (1, .int a1), (2, .int a2)]) hx hb dX1_placeOf_53 hl (k := 4) rfl (by rw [ev16007]; rfl) (by decide) rfl (fun ls hl => ?_)
              refine lv_goto (tgt := 27) hx hb dX1_placeOf_56 (by decide) ?_
              exact ih27 v16005 v16007 H locs ls (by omega) (by omega) (by omega) hP hS (lv_sub hl [2, 3, 4, 1, 0] rfl)
      exact B27 _ (Ft 6) v5 H locs ls (Nat.lt_succ_self _) (by omega) (by omega) hP hS (lv_sub hl [3, 4, 5, 1, 0] rfl)
    · have zc3 := nltK rfl rfl c3
      refine lv_iconst (v := (-1)) hx hb dX1_placeOf_14 (by decide) ?_
      exact retRi hx hb hr hlk hS dX1_placeOf_15 (trivial)

set_option maxRecDepth 100000 in
set_option maxHeartbeats 16000000 in
theorem sX1_findLeaders (l : Launch) (G : va_G) (cs : Nat → ClassId) (adt : Nat) (qt : Nat → Nat) (Ft : Nat → Int32) (At : Nat → Nat → Int32) (Bt : Nat → Nat → Int64) (Dt : Int64) (hIt : IX1 Ft At) (adh : Nat) (qh : Nat → Nat) (Fh : Nat → Int32) (Ah : Nat → Nat → Int32) (Bh : Nat → Nat → Int64) (Dh : Int64) (hIh : IX3 Fh Ah) : ∀ sz : Nat, Met l yX1_findLeaders (wk yX1_findLeaders cX1_findLeaders 5 none) (rmk 1 0 0) (PreD G (TY cs) [.ref adt, .ref adh] ((uX1 cs adt qt Ft At Bt Dt) ++ (uX3 cs adh qh Fh Ah Bh Dh)) sz) ((QDw G (fun u : (Nat → Int32) => AJ (0) 6 u ∧ (True)) (fun u : (Nat → Int32) => ((wX1 cs adt qt Ft (vA At 3 u) Bt Dt) ++ (uX3 cs adh qh Fh Ah Bh Dh)))) (va_A ((uX1 cs adt qt Ft At Bt Dt) ++ (uX3 cs adh qh Fh Ah Bh Dh)) sz)) 0 0 (va_A ((uX1 cs adt qt Ft At Bt Dt) ++ (uX3 cs adh qh Fh Ah Bh Dh)) sz) := by
  refine mkD (Qc := (QDw G (fun u : (Nat → Int32) => AJ (0) 6 u ∧ (True)) (fun u : (Nat → Int32) => ((wX1 cs adt qt Ft (vA At 3 u) Bt Dt) ++ (uX3 cs adh qh Fh Ah Bh Dh))))) (by decide) (by simp [lg_sl, Value.category]) ?_
  intro p e s m args below meth c ls A0 hx hb hml hr hlk hown hmn ht hK hP hD hS hA hl
  have hl : lv_has ls 5 [(0, .ref adt), (1, .ref adh)] := hl
  refine lv_iconst (v := 0) hx hb dX1_findLeaders_0 (by decide) ?_
  refine lv_istore_n (lv' := [(2, .int 0), (0, .ref adt), (1, .ref adh)]) hx hb dX1_findLeaders_1 rfl hl (by decide) rfl (fun ls hl => ?_)
  have B2 : ∀ (n : Nat) (x2_2 : Int32) (at3_2 : (Nat → Int32)) (H : Heap) (locs : List Loc) (ls : Array Slot), (7 - x2_2.toInt).toNat < n → (0 : Int) ≤ x2_2.toInt ∧ x2_2.toInt ≤ 7 → AJ (0) 6 at3_2 → va_P G vwCl ((uX1 cs adt qt Ft (vB 3 at3_2 At) Bt Dt) ++ (uX3 cs adh qh Fh Ah Bh Dh)) H → va_D A0 ((uX1 cs adt qt Ft (vB 3 at3_2 At) Bt Dt) ++ (uX3 cs adh qh Fh Ah Bh Dh)) → va_S A0 s.heap H locs → lv_has ls 5 [(0, .ref adt), (1, .ref adh), (2, .int x2_2)] → W p l e (rmk 1 0 0) s m args below meth c H locs 0 0 (MQ below ((QDw G (fun u : (Nat → Int32) => AJ (0) 6 u ∧ (True)) (fun u : (Nat → Int32) => ((wX1 cs adt qt Ft (vA At 3 u) Bt Dt) ++ (uX3 cs adh qh Fh Ah Bh Dh)))) A0) args s 0 0 A0) (F0 m 2 ls []) := by
    intro n
    induction n with
    | zero => intro x2_2 at3_2 H locs ls hmeas hx2_2 hat3_2 hP hD hS hl; exact absurd hmeas (Nat.not_lt_zero _)
    | succ n ih2 =>
      intro x2_2 at3_2 H locs ls hmeas hx2_2 hat3_2 hP hD hS hl
      refine lv_iload_n hx hb dX1_findLeaders_2 rfl (lv_at hl 2 rfl) ?_
      refine lv_aload_n hx hb dX1_findLeaders_3 rfl (lv_at hl 1 rfl) ?_
      refine getF (v := .int (Fh 5)) hx hb ht hown hK hP iTX3 6 5 rfl rfl (by decide) fl_RX1_65 rfl dX1_findLeaders_4 ?_
      have zf3001 : (0 : Int) ≤ (Fh 5).toInt ∧ (Fh 5).toInt ≤ 7 := hIh.1 5
      refine lv_icmp_ge (tgt := 52) hx hb dX1_findLeaders_7 (by decide) (fun c3002 => ?_) (fun c3002 => ?_)
      · have zc3002 := leK rfl rfl c3002
        exact retDw at3_2 hx hb hr hlk hP hD hS dX1_findLeaders_52 (⟨hat3_2, trivial⟩) (Nat.le_of_ble_eq_true rfl) (Nat.le_of_ble_eq_true rfl)
      · have zc3002 := nleK rfl rfl c3002
        refine lv_iconst (v := 1) hx hb dX1_findLeaders_10 (by decide) ?_
        refine lv_iload_n hx hb dX1_findLeaders_11 rfl (lv_at hl 2 rfl) ?_
        refine lv_ishl hx hb dX1_findLeaders_12 ?_
        refine lv_topi (fun v3003 ev3003 => ?_)
        have tv3003 : (1 : Int) ≤ v3003.toInt ∧ v3003.toInt ≤ 64 := by rw [ev3003]; exact shlT 6 (by decide) rfl (by omega) (by decide)
        have pv3003 : v3003.toInt = P2 x2_2.toInt := by rw [ev3003]; exact shlP rfl (by omega)
        refine lv_istore_n (lv' := [(3, .int v3003), (0, .ref adt), (1, .ref adh), (2, .int x2_2)]) hx hb dX1_findLeaders_13 rfl hl (by decide) rfl (fun ls hl => ?_)
        refine lv_iconst (v := 0) hx hb dX1_findLeaders_14 (by decide) ?_
        refine lv_istore (lv' := [(4, .int 0), (3, .int v3003), (0, .ref adt), (1, .ref adh), (2, .int x2_2)]) hx hb dX1_findLeaders_15 hl (by decide) rfl (fun ls hl => ?_)
        have B17 : ∀ (n : Nat) (x17_3 : Int32) (x17_4 : Int32) (H : Heap) (locs : List Loc) (ls : Array Slot), (7 - x17_4.toInt).toNat < n → (1 : Int) ≤ x17_3.toInt ∧ x17_3.toInt ≤ 127 → (0 : Int) ≤ x17_4.toInt ∧ x17_4.toInt ≤ 7 → va_P G vwCl ((uX1 cs adt qt Ft (vB 3 at3_2 At) Bt Dt) ++ (uX3 cs adh qh Fh Ah Bh Dh)) H → va_D A0 ((uX1 cs adt qt Ft (vB 3 at3_2 At) Bt Dt) ++ (uX3 cs adh qh Fh Ah Bh Dh)) → va_S A0 s.heap H locs → lv_has ls 5 [(0, .ref adt), (1, .ref adh), (2, .int x2_2), (3, .int x17_3), (4, .int x17_4)] → W p l e (rmk 1 0 0) s m args below meth c H locs 0 0 (MQ below ((QDw G (fun u : (Nat → Int32) => AJ (0) 6 u ∧ (True)) (fun u : (Nat → Int32) => ((wX1 cs adt qt Ft (vA At 3 u) Bt Dt) ++ (uX3 cs adh qh Fh Ah Bh Dh)))) A0) args s 0 0 A0) (F0 m 17 ls []) := by
          intro n
          induction n with
          | zero => intro x17_3 x17_4 H locs ls hmeas hx17_3 hx17_4 hP hD hS hl; exact absurd hmeas (Nat.not_lt_zero _)
          | succ n ih17 =>
            intro x17_3 x17_4 H locs ls hmeas hx17_3 hx17_4 hP hD hS hl
            refine lv_iload hx hb dX1_findLeaders_17 (lv_at hl 4 rfl) ?_
            refine lv_bipush (v := 7) hx hb dX1_findLeaders_19 (by decide) ?_
            refine lv_icmp_ge (tgt := 36) hx hb dX1_findLeaders_21 (by decide) (fun c13001 => ?_) (fun c13001 => ?_)
            · have zc13001 := leK (show (7 : Int32).toInt = 7 by decide) rfl c13001
              refine lv_aload_n hx hb dX1_findLeaders_36 rfl (lv_at hl 0 rfl) ?_
              refine getF (v := .ref (qt 3)) hx hb ht hown hK hP iTX1 0 3 rfl rfl (by decide) fl_RX1_22 rfl dX1_findLeaders_37 ?_
              refine lv_iload_n hx hb dX1_findLeaders_40 rfl (lv_at hl 2 rfl) ?_
              refine lv_iload_n hx hb dX1_findLeaders_41 rfl (lv_at hl 3 rfl) ?_
              refine behR (runTP (As := [.int x17_3]) (rest := [.int x2_2, .ref (qt 3)]) ⟨hx, hb, hml, hown, ht⟩ (sJ6_numberOfTrailingZeros_0f7a4 l G cs x17_3 (by omega)) okT_RX1_76 ⟨by decide, by decide⟩ hK hP [] rfl hl.1 rfl (Nat.le_of_ble_eq_true rfl) dX1_findLeaders_42 ⟨by decide, by decide⟩) hP hS hA (fun r13002 H locs hr13002 hP hS => ?_)
              have hr13002 : (0 : Int) ≤ r13002.toInt ∧ r13002.toInt ≤ 6 := hr13002
              refine va_iast hx hb hK.1 hP hD hS 4 0 rfl rfl (inK rfl (by omega) (by decide)) dX1_findLeaders_45 (fun H locs hP hD hS => ?_)
              have hP : va_P G vwCl ((uX1 cs adt qt Ft (vB 3 (upd at3_2 x2_2.toNatClampNeg r13002) At) Bt Dt) ++ (uX3 cs adh qh Fh Ah Bh Dh)) H := hP
              have hD : va_D A0 ((uX1 cs adt qt Ft (vB 3 (upd at3_2 x2_2.toNatClampNeg r13002) At) Bt Dt) ++ (uX3 cs adh qh Fh Ah Bh Dh)) := hD
              obtain ⟨g13003, eg13003⟩ : ∃ z : Nat → Int32, z = upd at3_2 x2_2.toNatClampNeg r13002 := ⟨_, rfl⟩
              rw [← eg13003] at hP hD
              have hg13003 : AJ (0) 6 g13003 := by rw [eg13003]; exact AJ_upd hat3_2 (show (0 : Int) ≤ r13002.toInt ∧ r13002.toInt ≤ 6 by omega)
              obtain ⟨v13004, ev13004⟩ : ∃ z : Int32, z = x2_2 + 1 := ⟨_, rfl⟩
              have tv13004 : v13004.toInt = x2_2.toInt + 1 := by rw [ev13004]; exact addT rfl (by decide) (by omega)
              refine lv_iinc (v := v13004) (lv' := [(2, .int v13004), (0, .ref adt), (1, .ref adh), (3, .int x17_3), (4, .int x17_4)]) hx hb dX1_findLeaders_46 hl (k := 2) rfl (by rw [ev13004]; rfl) (by decide) rfl (fun ls hl => ?_)
              refine lv_goto (tgt := 2) hx hb dX1_findLeaders_49 (by decide) ?_
              exact ih2 v13004 g13003 H locs ls (by omega) (by omega) hg13003 hP hD hS (lv_sub hl [1, 2, 0] rfl)
            · have zc13001 := nleK (show (7 : Int32).toInt = 7 by decide) rfl c13001
              refine lv_aload_n hx hb dX1_findLeaders_24 rfl (lv_at hl 1 rfl) ?_
              refine lv_iload_n hx hb dX1_findLeaders_25 rfl (lv_at hl 3 rfl) ?_
              refine behR (runVP (As := [.int x17_3]) (rest := []) ⟨hx, hb, hml, hown, ht⟩ (sX3_spread l G cs adh qh Fh Ah Bh Dh hIh x17_3 (by omega)) okV_RX1_72 ⟨by decide, by decide⟩ hK hP [6, 7, 8, 9, 10, 11, 12, 13] rfl 6 rfl rfl hl.1 rfl (Nat.le_of_ble_eq_true rfl) dX1_findLeaders_26 ⟨by decide, by decide⟩) hP hS hA (fun r13005 H locs hr13005 hP hS => ?_)
              have hr13005 : x17_3.toInt ≤ r13005.toInt ∧ r13005.toInt ≤ 127 := hr13005
              refine lv_istore_n (lv' := [(3, .int r13005), (0, .ref adt), (1, .ref adh), (2, .int x2_2), (4, .int x17_4)]) hx hb dX1_findLeaders_29 rfl hl (by decide) rfl (fun ls hl => ?_)
              obtain ⟨v13006, ev13006⟩ : ∃ z : Int32, z = x17_4 + 1 := ⟨_, rfl⟩
              have tv13006 : v13006.toInt = x17_4.toInt + 1 := by rw [ev13006]; exact addT rfl (by decide) (by omega)
              refine lv_iinc (v := v13006) (lv' := [(4, .int v13006), (3, .int r13005), (0, .ref adt), (1, .ref adh), (2, .int x2_2)]) hx hb dX1_findLeaders_30 hl (k := 4) rfl (by rw [ev13006]; rfl) (by decide) rfl (fun ls hl => ?_)
              refine lv_goto (tgt := 17) hx hb dX1_findLeaders_33 (by decide) ?_
              exact ih17 r13005 v13006 H locs ls (by omega) (by omega) (by omega) hP hD hS (lv_sub hl [2, 3, 4, 1, 0] rfl)
        exact B17 _ v3003 0 H locs ls (Nat.lt_succ_self _) (by omega) (by decide) hP hD hS (lv_sub hl [2, 3, 4, 1, 0] rfl)
  exact B2 _ 0 (At 3) s.heap [] ls (Nat.lt_succ_self _) (by decide) (fun j => hIt.2 3 j) hP hD hS (lv_sub hl [1, 2, 0] rfl)

set_option maxRecDepth 100000 in
set_option maxHeartbeats 16000000 in
theorem sX1_pairsThatCan (l : Launch) (G : va_G) (cs : Nat → ClassId) (adt : Nat) (qt : Nat → Nat) (Ft : Nat → Int32) (At : Nat → Nat → Int32) (Bt : Nat → Nat → Int64) (Dt : Int64) (hIt : IX1 Ft At) (adh : Nat) (qh : Nat → Nat) (Fh : Nat → Int32) (Ah : Nat → Nat → Int32) (Bh : Nat → Nat → Int64) (Dh : Int64) (hIh : IX3 Fh Ah) : ∀ sz : Nat, Met l yX1_pairsThatCan (wk yX1_pairsThatCan cX1_pairsThatCan 6 (some .int)) (rmk 5 0 0) (PreD G (TY cs) [.ref adt, .ref adh] ((uX1 cs adt qt Ft At Bt Dt) ++ (uX3 cs adh qh Fh Ah Bh Dh)) sz) ((QDi G (fun (r : Int32) (u : Int32 × Int32 × (Nat → Int32) × (Nat → Int32) × (Nat → Int32) × (Nat → Int32) × (Nat → Int64)) => ((0 : Int) ≤ u.1.toInt ∧ u.1.toInt ≤ 1792) ∧ ((-1 : Int) ≤ u.2.1.toInt ∧ u.2.1.toInt ≤ 1791) ∧ AJ (0) 6271 u.2.2.1 ∧ AJ (-1) 1791 u.2.2.2.1 ∧ AJ (0) 6 u.2.2.2.2.1 ∧ (True)) (fun u : Int32 × Int32 × (Nat → Int32) × (Nat → Int32) × (Nat → Int32) × (Nat → Int32) × (Nat → Int64) => ((wX1 cs adt qt (upd (upd Ft 5 u.1) 6 u.2.1) (vA (vA (vA (vA At 1 u.2.2.1) 2 u.2.2.2.1) 3 u.2.2.2.2.1) 4 u.2.2.2.2.2.1) (vA Bt 0 u.2.2.2.2.2.2) Dt) ++ (uX3 cs adh qh Fh Ah Bh Dh)))) (va_A ((uX1 cs adt qt Ft At Bt Dt) ++ (uX3 cs adh qh Fh Ah Bh Dh)) sz)) 0 0 (va_A ((uX1 cs adt qt Ft At Bt Dt) ++ (uX3 cs adh qh Fh Ah Bh Dh)) sz) := by
  refine mkD (Qc := (QDi G (fun (r : Int32) (u : Int32 × Int32 × (Nat → Int32) × (Nat → Int32) × (Nat → Int32) × (Nat → Int32) × (Nat → Int64)) => ((0 : Int) ≤ u.1.toInt ∧ u.1.toInt ≤ 1792) ∧ ((-1 : Int) ≤ u.2.1.toInt ∧ u.2.1.toInt ≤ 1791) ∧ AJ (0) 6271 u.2.2.1 ∧ AJ (-1) 1791 u.2.2.2.1 ∧ AJ (0) 6 u.2.2.2.2.1 ∧ (True)) (fun u : Int32 × Int32 × (Nat → Int32) × (Nat → Int32) × (Nat → Int32) × (Nat → Int32) × (Nat → Int64) => ((wX1 cs adt qt (upd (upd Ft 5 u.1) 6 u.2.1) (vA (vA (vA (vA At 1 u.2.2.1) 2 u.2.2.2.1) 3 u.2.2.2.2.1) 4 u.2.2.2.2.2.1) (vA Bt 0 u.2.2.2.2.2.2) Dt) ++ (uX3 cs adh qh Fh Ah Bh Dh))))) (by decide) (by simp [lg_sl, Value.category]) ?_
  intro p e s m args below meth c ls A0 hx hb hml hr hlk hown hmn ht hK hP hD hS hA hl
  have hl : lv_has ls 6 [(0, .ref adt), (1, .ref adh)] := hl
  refine lv_aload_n hx hb dX1_pairsThatCan_0 rfl (lv_at hl 0 rfl) ?_
  refine getF (v := .ref (qt 4)) hx hb ht hown hK hP iTX1 0 4 rfl rfl (by decide) fl_RX1_25 rfl dX1_pairsThatCan_1 ?_
  refine lv_iconst (v := (-1)) hx hb dX1_pairsThatCan_4 (by decide) ?_
  refine behDv (wr := (((uX1 cs adt qt Ft At Bt Dt) ++ (uX3 cs adh qh Fh Ah Bh Dh))).take 5 ++ (((uX1 cs adt qt Ft At Bt Dt) ++ (uX3 cs adh qh Fh Ah Bh Dh))).drop 6) (runTD (As := [.ref (qt 4), .int (-1)]) (rest := []) ⟨hx, hb, hml, hown, ht⟩ (dJ7_fill_53178 l G cs (qt 4) 49 (by decide) (-1) (At 4)) okT_RX1_58 ⟨by decide, by decide⟩ hK hP hD [5] rfl (by decide) rfl hl.1 rfl (Nat.le_of_ble_eq_true rfl) dX1_pairsThatCan_5 ⟨(Nat.le_of_ble_eq_true rfl), (Nat.le_of_ble_eq_true rfl)⟩) hP hD hS hA [5] [0, 1, 2, 3, 4, 6, 7, 8, 9, 10, 11, 12, 13] rfl rfl (by decide) (by decide) (fun g1 H locs hP hD hS => ?_)
  have hP : va_P G vwCl ((uX1 cs adt qt Ft (vB 4 g1 At) Bt Dt) ++ (uX3 cs adh qh Fh Ah Bh Dh)) H := hP.sub [0, 1, 2, 3, 4, 13, 5, 6, 7, 8, 9, 10, 11, 12] rfl
  have hD : va_D A0 ((uX1 cs adt qt Ft (vB 4 g1 At) Bt Dt) ++ (uX3 cs adh qh Fh Ah Bh Dh)) := hD.sub [0, 1, 2, 3, 4, 13, 5, 6, 7, 8, 9, 10, 11, 12] (by decide) rfl
  refine lv_aload_n hx hb dX1_pairsThatCan_8 rfl (lv_at hl 0 rfl) ?_
  refine lv_aload_n hx hb dX1_pairsThatCan_9 rfl (lv_at hl 1 rfl) ?_
  refine behDw (wr := ([] : va_W)) (runVD (As := [.ref adh]) (rest := []) ⟨hx, hb, hml, hown, ht⟩ (sX1_findLeaders l G cs adt qt Ft (vB 4 g1 At) Bt Dt (IB_av (k := 4) hIt (AJ_full _)) adh qh Fh Ah Bh Dh hIh ) okV_RX1_61 ⟨by decide, by decide⟩ hK hP hD [0, 1, 2, 3, 4, 5, 6, 7, 8, 9, 10, 11, 12, 13] rfl (by decide) rfl 0 rfl rfl hl.1 rfl (Nat.le_of_ble_eq_true rfl) dX1_pairsThatCan_10 ⟨(Nat.le_of_ble_eq_true rfl), (Nat.le_of_ble_eq_true rfl)⟩) hP hD hS hA [0, 1, 2, 3, 4, 5, 6, 7, 8, 9, 10, 11, 12, 13] [] rfl rfl (by decide) (by decide) (fun u H locs hu hP hD hS => ?_)
  obtain ⟨g2, rfl⟩ : ∃ z, z = u := ⟨_, rfl⟩
  obtain ⟨hg2, hr3⟩ := hu
  have hg2 : AJ (0) 6 g2 := hg2
  have hP : va_P G vwCl ((uX1 cs adt qt Ft (vB 4 g1 (vB 3 g2 At)) Bt Dt) ++ (uX3 cs adh qh Fh Ah Bh Dh)) H := hP.sub [0, 1, 2, 3, 4, 5, 6, 7, 8, 9, 10, 11, 12, 13] rfl
  have hD : va_D A0 ((uX1 cs adt qt Ft (vB 4 g1 (vB 3 g2 At)) Bt Dt) ++ (uX3 cs adh qh Fh Ah Bh Dh)) := hD.sub [0, 1, 2, 3, 4, 5, 6, 7, 8, 9, 10, 11, 12, 13] (by decide) rfl
  refine lv_iconst (v := 0) hx hb dX1_pairsThatCan_13 (by decide) ?_
  refine lv_istore_n (lv' := [(2, .int 0), (0, .ref adt), (1, .ref adh)]) hx hb dX1_pairsThatCan_14 rfl hl (by decide) rfl (fun ls hl => ?_)
  refine lv_iconst (v := 0) hx hb dX1_pairsThatCan_15 (by decide) ?_
  refine lv_istore_n (lv' := [(3, .int 0), (2, .int 0), (0, .ref adt), (1, .ref adh)]) hx hb dX1_pairsThatCan_16 rfl hl (by decide) rfl (fun ls hl => ?_)
  have B17 : ∀ (n : Nat) (x17_2 : Int32) (x17_3 : Int32) (ft5_17 : Int32) (ft6_17 : Int32) (at1_17 : (Nat → Int32)) (at2_17 : (Nat → Int32)) (at4_17 : (Nat → Int32)) (bt0_17 : (Nat → Int64)) (H : Heap) (locs : List Loc) (ls : Array Slot), (7 - x17_3.toInt).toNat < n → (0 : Int) ≤ x17_3.toInt ∧ x17_3.toInt ≤ 7 → (0 : Int) ≤ ft5_17.toInt ∧ ft5_17.toInt ≤ 1792 → (-1 : Int) ≤ ft6_17.toInt ∧ ft6_17.toInt ≤ 1791 → AJ (0) 6271 at1_17 → AJ (-1) 1791 at2_17 → va_P G vwCl ((uX1 cs adt qt (upv 6 ft6_17 (upv 5 ft5_17 Ft)) (vB 4 at4_17 (vB 3 g2 (vB 2 at2_17 (vB 1 at1_17 At)))) (vB 0 bt0_17 Bt) Dt) ++ (uX3 cs adh qh Fh Ah Bh Dh)) H → va_D A0 ((uX1 cs adt qt (upv 6 ft6_17 (upv 5 ft5_17 Ft)) (vB 4 at4_17 (vB 3 g2 (vB 2 at2_17 (vB 1 at1_17 At)))) (vB 0 bt0_17 Bt) Dt) ++ (uX3 cs adh qh Fh Ah Bh Dh)) → va_S A0 s.heap H locs → lv_has ls 6 [(0, .ref adt), (1, .ref adh), (2, .int x17_2), (3, .int x17_3)] → W p l e (rmk 5 0 0) s m args below meth c H locs 0 0 (MQ below ((QDi G (fun (r : Int32) (u : Int32 × Int32 × (Nat → Int32) × (Nat → Int32) × (Nat → Int32) × (Nat → Int32) × (Nat → Int64)) => ((0 : Int) ≤ u.1.toInt ∧ u.1.toInt ≤ 1792) ∧ ((-1 : Int) ≤ u.2.1.toInt ∧ u.2.1.toInt ≤ 1791) ∧ AJ (0) 6271 u.2.2.1 ∧ AJ (-1) 1791 u.2.2.2.1 ∧ AJ (0) 6 u.2.2.2.2.1 ∧ (True)) (fun u : Int32 × Int32 × (Nat → Int32) × (Nat → Int32) × (Nat → Int32) × (Nat → Int32) × (Nat → Int64) => ((wX1 cs adt qt (upd (upd Ft 5 u.1) 6 u.2.1) (vA (vA (vA (vA At 1 u.2.2.1) 2 u.2.2.2.1) 3 u.2.2.2.2.1) 4 u.2.2.2.2.2.1) (vA Bt 0 u.2.2.2.2.2.2) Dt) ++ (uX3 cs adh qh Fh Ah Bh Dh)))) A0) args s 0 0 A0) (F0 m 17 ls []) := by
    intro n
    induction n with
    | zero => intro x17_2 x17_3 ft5_17 ft6_17 at1_17 at2_17 at4_17 bt0_17 H locs ls hmeas hx17_3 hft5_17 hft6_17 hat1_17 hat2_17 hP hD hS hl; exact absurd hmeas (Nat.not_lt_zero _)
    | succ n ih17 =>
      intro x17_2 x17_3 ft5_17 ft6_17 at1_17 at2_17 at4_17 bt0_17 H locs ls hmeas hx17_3 hft5_17 hft6_17 hat1_17 hat2_17 hP hD hS hl
      refine lv_iload_n hx hb dX1_pairsThatCan_17 rfl (lv_at hl 3 rfl) ?_
      refine lv_aload_n hx hb dX1_pairsThatCan_18 rfl (lv_at hl 1 rfl) ?_
      refine getF (v := .int (Fh 5)) hx hb ht hown hK hP iTX3 6 5 rfl rfl (by decide) fl_RX1_65 rfl dX1_pairsThatCan_19 ?_
      have zf12001 : (0 : Int) ≤ (Fh 5).toInt ∧ (Fh 5).toInt ≤ 7 := hIh.1 5
      refine lv_icmp_ge (tgt := 123) hx hb dX1_pairsThatCan_22 (by decide) (fun c12002 => ?_) (fun c12002 => ?_)
      · have zc12002 := leK rfl rfl c12002
        refine lv_iload_n hx hb dX1_pairsThatCan_123 rfl (lv_at hl 2 rfl) ?_
        exact retDi (ft5_17, ft6_17, at1_17, at2_17, g2, at4_17, bt0_17) hx hb hr hlk hP hD hS dX1_pairsThatCan_124 (⟨show (0 : Int) ≤ ft5_17.toInt ∧ ft5_17.toInt ≤ 1792 by omega, show (-1 : Int) ≤ ft6_17.toInt ∧ ft6_17.toInt ≤ 1791 by omega, hat1_17, hat2_17, hg2, trivial⟩) (Nat.le_of_ble_eq_true rfl) (Nat.le_of_ble_eq_true rfl)
      · have zc12002 := nleK rfl rfl c12002
        refine lv_iload_n hx hb dX1_pairsThatCan_25 rfl (lv_at hl 3 rfl) ?_
        refine lv_istore (lv' := [(4, .int x17_3), (0, .ref adt), (1, .ref adh), (2, .int x17_2), (3, .int x17_3)]) hx hb dX1_pairsThatCan_26 hl (by decide) rfl (fun ls hl => ?_)
        have B28 : ∀ (n : Nat) (x28_2 : Int32) (x28_4 : Int32) (ft5_28 : Int32) (ft6_28 : Int32) (at1_28 : (Nat → Int32)) (at2_28 : (Nat → Int32)) (at4_28 : (Nat → Int32)) (bt0_28 : (Nat → Int64)) (H : Heap) (locs : List Loc) (ls : Array Slot), (7 - x28_4.toInt).toNat < n → (0 : Int) ≤ x28_4.toInt ∧ x28_4.toInt ≤ 7 → (0 : Int) ≤ ft5_28.toInt ∧ ft5_28.toInt ≤ 1792 → (-1 : Int) ≤ ft6_28.toInt ∧ ft6_28.toInt ≤ 1791 → AJ (0) 6271 at1_28 → AJ (-1) 1791 at2_28 → va_P G vwCl ((uX1 cs adt qt (upv 6 ft6_28 (upv 5 ft5_28 Ft)) (vB 4 at4_28 (vB 3 g2 (vB 2 at2_28 (vB 1 at1_28 At)))) (vB 0 bt0_28 Bt) Dt) ++ (uX3 cs adh qh Fh Ah Bh Dh)) H → va_D A0 ((uX1 cs adt qt (upv 6 ft6_28 (upv 5 ft5_28 Ft)) (vB 4 at4_28 (vB 3 g2 (vB 2 at2_28 (vB 1 at1_28 At)))) (vB 0 bt0_28 Bt) Dt) ++ (uX3 cs adh qh Fh Ah Bh Dh)) → va_S A0 s.heap H locs → lv_has ls 6 [(0, .ref adt), (1, .ref adh), (2, .int x28_2), (3, .int x17_3), (4, .int x28_4)] → W p l e (rmk 5 0 0) s m args below meth c H locs 0 0 (MQ below ((QDi G (fun (r : Int32) (u : Int32 × Int32 × (Nat → Int32) × (Nat → Int32) × (Nat → Int32) × (Nat → Int32) × (Nat → Int64)) => ((0 : Int) ≤ u.1.toInt ∧ u.1.toInt ≤ 1792) ∧ ((-1 : Int) ≤ u.2.1.toInt ∧ u.2.1.toInt ≤ 1791) ∧ AJ (0) 6271 u.2.2.1 ∧ AJ (-1) 1791 u.2.2.2.1 ∧ AJ (0) 6 u.2.2.2.2.1 ∧ (True)) (fun u : Int32 × Int32 × (Nat → Int32) × (Nat → Int32) × (Nat → Int32) × (Nat → Int32) × (Nat → Int64) => ((wX1 cs adt qt (upd (upd Ft 5 u.1) 6 u.2.1) (vA (vA (vA (vA At 1 u.2.2.1) 2 u.2.2.2.1) 3 u.2.2.2.2.1) 4 u.2.2.2.2.2.1) (vA Bt 0 u.2.2.2.2.2.2) Dt) ++ (uX3 cs adh qh Fh Ah Bh Dh)))) A0) args s 0 0 A0) (F0 m 28 ls []) := by
          intro n
          induction n with
          | zero => intro x28_2 x28_4 ft5_28 ft6_28 at1_28 at2_28 at4_28 bt0_28 H locs ls hmeas hx28_4 hft5_28 hft6_28 hat1_28 hat2_28 hP hD hS hl; exact absurd hmeas (Nat.not_lt_zero _)
          | succ n ih28 =>
            intro x28_2 x28_4 ft5_28 ft6_28 at1_28 at2_28 at4_28 bt0_28 H locs ls hmeas hx28_4 hft5_28 hft6_28 hat1_28 hat2_28 hP hD hS hl
            refine lv_iload hx hb dX1_pairsThatCan_28 (lv_at hl 4 rfl) ?_
            refine lv_aload_n hx hb dX1_pairsThatCan_30 rfl (lv_at hl 1 rfl) ?_
            refine getF (v := .int (Fh 5)) hx hb ht hown hK hP iTX3 6 5 rfl rfl (by decide) fl_RX1_65 rfl dX1_pairsThatCan_31 ?_
            have zf18001 : (0 : Int) ≤ (Fh 5).toInt ∧ (Fh 5).toInt ≤ 7 := hIh.1 5
            refine lv_icmp_ge (tgt := 117) hx hb dX1_pairsThatCan_34 (by decide) (fun c18002 => ?_) (fun c18002 => ?_)
            · have zc18002 := leK rfl rfl c18002
              obtain ⟨v18003, ev18003⟩ : ∃ z : Int32, z = x17_3 + 1 := ⟨_, rfl⟩
              have tv18003 : v18003.toInt = x17_3.toInt + 1 := by rw [ev18003]; exact addT rfl (by decide) (by omega)
              refine lv_iinc (v := v18003) (lv' := [(3, .int v18003), (0, .ref adt), (1, .ref adh), (2, .int x28_2), (4, .int x28_4)]) hx hb dX1_pairsThatCan_117 hl (k := 3) rfl (by rw [ev18003]; rfl) (by decide) rfl (fun ls hl => ?_)
              refine lv_goto (tgt := 17) hx hb dX1_pairsThatCan_120 (by decide) ?_
              exact ih17 x28_2 v18003 ft5_28 ft6_28 at1_28 at2_28 at4_28 bt0_28 H locs ls (by omega) (by omega) (by omega) (by omega) hat1_28 hat2_28 hP hD hS (lv_sub hl [1, 2, 3, 0] rfl)
            · have zc18002 := nleK rfl rfl c18002
              refine lv_aload_n hx hb dX1_pairsThatCan_37 rfl (lv_at hl 0 rfl) ?_
              refine getF (v := .ref (qt 3)) hx hb ht hown hK hP iTX1 0 3 rfl rfl (by decide) fl_RX1_22 rfl dX1_pairsThatCan_38 ?_
              refine lv_iload_n hx hb dX1_pairsThatCan_41 rfl (lv_at hl 3 rfl) ?_
              refine va_iald hx hb hK.1 hP 4 0 rfl rfl (inK rfl (by omega) (by decide)) dX1_pairsThatCan_42 ?_
              refine lv_topi (fun v18004 ev18004 => ?_)
              have zf18005 : (0 : Int) ≤ v18004.toInt ∧ v18004.toInt ≤ 6 := by rw [ev18004]; exact (hg2 _)
              refine lv_bipush (v := 7) hx hb dX1_pairsThatCan_43 (by decide) ?_
              refine lv_imul hx hb dX1_pairsThatCan_45 ?_
              refine lv_topi (fun v18006 ev18006 => ?_)
              have tv18006 : v18006.toInt = v18004.toInt * 7 := by rw [ev18006]; exact mulT rfl (show (7 : Int32).toInt = 7 by decide) (by omega)
              refine lv_aload_n hx hb dX1_pairsThatCan_46 rfl (lv_at hl 0 rfl) ?_
              refine getF (v := .ref (qt 3)) hx hb ht hown hK hP iTX1 0 3 rfl rfl (by decide) fl_RX1_22 rfl dX1_pairsThatCan_47 ?_
              refine lv_iload hx hb dX1_pairsThatCan_50 (lv_at hl 4 rfl) ?_
              refine va_iald hx hb hK.1 hP 4 0 rfl rfl (inK rfl (by omega) (by decide)) dX1_pairsThatCan_52 ?_
              refine lv_topi (fun v18007 ev18007 => ?_)
              have zf18008 : (0 : Int) ≤ v18007.toInt ∧ v18007.toInt ≤ 6 := by rw [ev18007]; exact (hg2 _)
              refine lv_iadd hx hb dX1_pairsThatCan_53 ?_
              refine lv_topi (fun v18009 ev18009 => ?_)
              have tv18009 : v18009.toInt = v18006.toInt + v18007.toInt := by rw [ev18009]; exact addT rfl rfl (by omega)
              refine lv_istore (lv' := [(5, .int v18009), (0, .ref adt), (1, .ref adh), (2, .int x28_2), (3, .int x17_3), (4, .int x28_4)]) hx hb dX1_pairsThatCan_54 hl (by decide) rfl (fun ls hl => ?_)
              refine lv_aload_n hx hb dX1_pairsThatCan_56 rfl (lv_at hl 1 rfl) ?_
              refine getF (v := .ref (qt 4)) hx hb ht hown hK hP iTX1 0 4 rfl rfl (by decide) fl_RX1_25 rfl dX1_pairsThatCan_57 ?_
              refine lv_iload hx hb dX1_pairsThatCan_60 (lv_at hl 0 rfl) ?_
              refine va_iald hx hb hK.1 hP 5 0 rfl rfl (inK rfl (by omega) (by decide)) dX1_pairsThatCan_62 ?_
              refine lv_topi (fun v18010 ev18010 => ?_)
              refine lv_iconst (v := (-1)) hx hb dX1_pairsThatCan_63 (by decide) ?_
              have B101 : ∀ (ft5_101 : Int32) (ft6_101 : Int32) (at1_101 : (Nat → Int32)) (at2_101 : (Nat → Int32)) (at4_101 : (Nat → Int32)) (bt0_101 : (Nat → Int64)) (H : Heap) (locs : List Loc) (ls : Array Slot), (0 : Int) ≤ ft5_101.toInt ∧ ft5_101.toInt ≤ 1792 → (-1 : Int) ≤ ft6_101.toInt ∧ ft6_101.toInt ≤ 1791 → AJ (0) 6271 at1_101 → AJ (-1) 1791 at2_101 → va_P G vwCl ((uX1 cs adt qt (upv 6 ft6_101 (upv 5 ft5_101 Ft)) (vB 4 at4_101 (vB 3 g2 (vB 2 at2_101 (vB 1 at1_101 At)))) (vB 0 bt0_101 Bt) Dt) ++ (uX3 cs adh qh Fh Ah Bh Dh)) H → va_D A0 ((uX1 cs adt qt (upv 6 ft6_101 (upv 5 ft5_101 Ft)) (vB 4 at4_101 (vB 3 g2 (vB 2 at2_101 (vB 1 at1_101 At)))) (vB 0 bt0_101 Bt) Dt) ++ (uX3 cs adh qh Fh Ah Bh Dh)) → va_S A0 s.heap H locs → lv_has ls 6 [(0, .ref adt), (1, .ref adh), (2, .int x28_2), (3, .int x17_3), (4, .int x28_4), (5, .int v18009)] → W p l e (rmk 5 0 0) s m args below meth c H locs 0 0 (MQ below ((QDi G (fun (r : Int32) (u : Int32 × Int32 × (Nat → Int32) × (Nat → Int32) × (Nat → Int32) × (Nat → Int32) × (Nat → Int64)) => ((0 : Int) ≤ u.1.toInt ∧ u.1.toInt ≤ 1792) ∧ ((-1 : Int) ≤ u.2.1.toInt ∧ u.2.1.toInt ≤ 1791) ∧ AJ (0) 6271 u.2.2.1 ∧ AJ (-1) 1791 u.2.2.2.1 ∧ AJ (0) 6 u.2.2.2.2.1 ∧ (True)) (fun u : Int32 × Int32 × (Nat → Int32) × (Nat → Int32) × (Nat → Int32) × (Nat → Int32) × (Nat → Int64) => ((wX1 cs adt qt (upd (upd Ft 5 u.1) 6 u.2.1) (vA (vA (vA (vA At 1 u.2.2.1) 2 u.2.2.2.1) 3 u.2.2.2.2.1) 4 u.2.2.2.2.2.1) (vA Bt 0 u.2.2.2.2.2.2) Dt) ++ (uX3 cs adh qh Fh Ah Bh Dh)))) A0) args s 0 0 A0) (F0 m 101 ls []) := by
                intro ft5_101 ft6_101 at1_101 at2_101 at4_101 bt0_101 H locs ls hft5_101 hft6_101 hat1_101 hat2_101 hP hD hS hl
                refine lv_iload_n hx hb dX1_pairsThatCan_101 rfl (lv_at hl 2 rfl) ?_
                refine lv_aload_n hx hb dX1_pairsThatCan_102 rfl (lv_at hl 0 rfl) ?_
                refine getF (v := .ref (qt 4)) hx hb ht hown hK hP iTX1 0 4 rfl rfl (by decide) fl_RX1_25 rfl dX1_pairsThatCan_103 ?_
                refine lv_iload hx hb dX1_pairsThatCan_106 (lv_at hl 5 rfl) ?_
                refine va_iald hx hb hK.1 hP 5 0 rfl rfl (inK rfl (by omega) (by decide)) dX1_pairsThatCan_108 ?_
                refine lv_topi (fun v60001 ev60001 => ?_)
                refine lv_iadd hx hb dX1_pairsThatCan_109 ?_
                refine lv_topi (fun v60002 ev60002 => ?_)
                refine lv_istore_n (lv' := [(2, .int v60002), (0, .ref adt), (1, .ref adh), (3, .int x17_3), (4, .int x28_4), (5, .int v18009)]) hx hb dX1_pairsThatCan_110 rfl hl (by decide) rfl (fun ls hl => ?_)
                obtain ⟨v60003, ev60003⟩ : ∃ z : Int32, z = x28_4 + 1 := ⟨_, rfl⟩
                have tv60003 : v60003.toInt = x28_4.toInt + 1 := by rw [ev60003]; exact addT rfl (by decide) (by omega)
                refine lv_iinc (v := v60003) (lv' := [(4, .int v60003), (2, .int v60002), (0, .ref adt), (1, .ref adh), (3, .int x17_3), (5, .int v18009)]) hx hb dX1_pairsThatCan_111 hl (k := 4) rfl (by rw [ev60003]; rfl) (by decide) rfl (fun ls hl => ?_)
                refine lv_goto (tgt := 28) hx hb dX1_pairsThatCan_114 (by decide) ?_
                exact ih28 v60002 v60003 ft5_101 ft6_101 at1_101 at2_101 at4_101 bt0_101 H locs ls (by omega) (by omega) (by omega) (by omega) hat1_101 hat2_101 hP hD hS (lv_sub hl [2, 3, 1, 4, 0] rfl)
              refine lv_icmp_ne (tgt := 101) hx hb dX1_pairsThatCan_64 (by decide) (fun c18011 => ?_) (fun c18011 => ?_)
              · have zc18011 := neK rfl (show (-1 : Int32).toInt = (-1) by decide) c18011
                exact B101 ft5_28 ft6_28 at1_28 at2_28 at4_28 bt0_28 H locs ls (by omega) (by omega) hat1_28 hat2_28 hP hD hS (lv_sub hl [1, 2, 3, 4, 5, 0] rfl)
              · have zc18011 := eqK rfl (show (-1 : Int32).toInt = (-1) by decide) c18011
                refine lv_aload_n hx hb dX1_pairsThatCan_67 rfl (lv_at hl 1 rfl) ?_
                refine getF (v := .ref (qt 4)) hx hb ht hown hK hP iTX1 0 4 rfl rfl (by decide) fl_RX1_25 rfl dX1_pairsThatCan_68 ?_
                refine lv_iload hx hb dX1_pairsThatCan_71 (lv_at hl 0 rfl) ?_
                refine lv_aload_n hx hb dX1_pairsThatCan_73 rfl (lv_at hl 1 rfl) ?_
                refine lv_aload_n hx hb dX1_pairsThatCan_74 rfl (lv_at hl 2 rfl) ?_
                refine lv_aload_n hx hb dX1_pairsThatCan_75 rfl (lv_at hl 1 rfl) ?_
                refine getF (v := .ref (qt 3)) hx hb ht hown hK hP iTX1 0 3 rfl rfl (by decide) fl_RX1_22 rfl dX1_pairsThatCan_76 ?_
                refine lv_iload_n hx hb dX1_pairsThatCan_79 rfl (lv_at hl 4 rfl) ?_
                refine va_iald hx hb hK.1 hP 4 0 rfl rfl (inK rfl (by omega) (by decide)) dX1_pairsThatCan_80 ?_
                refine lv_topi (fun v18012 ev18012 => ?_)
                have zf18013 : (0 : Int) ≤ v18012.toInt ∧ v18012.toInt ≤ 6 := by rw [ev18012]; exact (hg2 _)
                refine lv_aload_n hx hb dX1_pairsThatCan_81 rfl (lv_at hl 1 rfl) ?_
                refine getF (v := .ref (qt 3)) hx hb ht hown hK hP iTX1 0 3 rfl rfl (by decide) fl_RX1_22 rfl dX1_pairsThatCan_82 ?_
                refine lv_iload hx hb dX1_pairsThatCan_85 (lv_at hl 5 rfl) ?_
                refine va_iald hx hb hK.1 hP 4 0 rfl rfl (inK rfl (by omega) (by decide)) dX1_pairsThatCan_87 ?_
                refine lv_topi (fun v18014 ev18014 => ?_)
                have zf18015 : (0 : Int) ≤ v18014.toInt ∧ v18014.toInt ≤ 6 := by rw [ev18014]; exact (hg2 _)
                refine lv_iconst (v := 0) hx hb dX1_pairsThatCan_88 (by decide) ?_
                refine behDi (wr := ([] : va_W)) (runVD (As := [.ref adh, .int v18012, .int v18014, .int 0]) (rest := [.int v18009, .ref (qt 4)]) ⟨hx, hb, hml, hown, ht⟩ (sX1_hunt l G cs adt qt (upv 6 ft6_28 (upv 5 ft5_28 Ft)) (vB 4 at4_28 (vB 3 g2 (vB 2 at2_28 (vB 1 at1_28 At)))) (vB 0 bt0_28 Bt) Dt (IB_av (k := 4) (IB_av (k := 3) (IB_av (k := 2) (IB_av (k := 1) (IB_pv (k := 6) (IB_pv (k := 5) hIt (show (0 : Int) ≤ ft5_28.toInt ∧ ft5_28.toInt ≤ 1792 by omega)) (show (-1 : Int) ≤ ft6_28.toInt ∧ ft6_28.toInt ≤ 1791 by omega)) hat1_28) hat2_28) hg2) (AJ_full _)) adh qh Fh Ah Bh Dh hIh v18012 v18014 0 (by omega) (by omega) (by decide)) okV_RX1_68 ⟨by decide, by decide⟩ hK hP hD [0, 1, 2, 3, 4, 5, 6, 7, 8, 9, 10, 11, 12, 13] rfl (by decide) rfl 0 rfl rfl hl.1 rfl (Nat.le_of_ble_eq_true rfl) dX1_pairsThatCan_89 ⟨(Nat.le_of_ble_eq_true rfl), (Nat.le_of_ble_eq_true rfl)⟩) hP hD hS hA [0, 1, 2, 3, 4, 5, 6, 7, 8, 9, 10, 11, 12, 13] [] rfl rfl (by decide) (by decide) (fun r9 u H locs hu hP hD hS => ?_)
                obtain ⟨x18016, x18017, g18018, g18019, y18020⟩ := u
                have kk18022 : (0 : Int32).toInt = 0 := by decide
                obtain ⟨r18021, rfl⟩ : ∃ z, z = r9 := ⟨_, rfl⟩
                obtain ⟨hbx18016, hbx18017, hg18018, hg18019, hr18021⟩ := hu
                have hbx18016 : (0 : Int) ≤ x18016.toInt ∧ x18016.toInt ≤ 1792 := hbx18016
                have hbx18017 : (-1 : Int) ≤ x18017.toInt ∧ x18017.toInt ≤ 1791 := hbx18017
                have hg18018 : AJ (0) 6271 g18018 := hg18018
                have hg18019 : AJ (-1) 1791 g18019 := hg18019
                have hr18021 : (0 : Int) ≤ r18021.toInt ∧ r18021.toInt ≤ 1 := hr18021
                have hP : va_P G vwCl ((uX1 cs adt qt (upv 6 x18017 (upv 5 x18016 Ft)) (vB 4 at4_28 (vB 3 g2 (vB 2 g18019 (vB 1 g18018 At)))) (vB 0 y18020 Bt) Dt) ++ (uX3 cs adh qh Fh Ah Bh Dh)) H := hP.sub [0, 1, 2, 3, 4, 5, 6, 7, 8, 9, 10, 11, 12, 13] rfl
                have hD : va_D A0 ((uX1 cs adt qt (upv 6 x18017 (upv 5 x18016 Ft)) (vB 4 at4_28 (vB 3 g2 (vB 2 g18019 (vB 1 g18018 At)))) (vB 0 y18020 Bt) Dt) ++ (uX3 cs adh qh Fh Ah Bh Dh)) := hD.sub [0, 1, 2, 3, 4, 5, 6, 7, 8, 9, 10, 11, 12, 13] (by decide) rfl
                have B100 : ∀ (s100_0 : Int32) (s100_1 : Int32) (H : Heap) (locs : List Loc) (ls : Array Slot), (0 : Int) ≤ s100_0.toInt ∧ s100_0.toInt ≤ 1 → (0 : Int) ≤ s100_1.toInt ∧ s100_1.toInt ≤ 48 → va_P G vwCl ((uX1 cs adt qt (upv 6 x18017 (upv 5 x18016 Ft)) (vB 4 at4_28 (vB 3 g2 (vB 2 g18019 (vB 1 g18018 At)))) (vB 0 y18020 Bt) Dt) ++ (uX3 cs adh qh Fh Ah Bh Dh)) H → va_D A0 ((uX1 cs adt qt (upv 6 x18017 (upv 5 x18016 Ft)) (vB 4 at4_28 (vB 3 g2 (vB 2 g18019 (vB 1 g18018 At)))) (vB 0 y18020 Bt) Dt) ++ (uX3 cs adh qh Fh Ah Bh Dh)) → va_S A0 s.heap H locs → lv_has ls 6 [(0, .ref adt), (1, .ref adh), (2, .int x28_2), (3, .int x17_3), (4, .int x28_4), (5, .int v18009)] → W p l e (rmk 5 0 0) s m args below meth c H locs 0 0 (MQ below ((QDi G (fun (r : Int32) (u : Int32 × Int32 × (Nat → Int32) × (Nat → Int32) × (Nat → Int32) × (Nat → Int32) × (Nat → Int64)) => ((0 : Int) ≤ u.1.toInt ∧ u.1.toInt ≤ 1792) ∧ ((-1 : Int) ≤ u.2.1.toInt ∧ u.2.1.toInt ≤ 1791) ∧ AJ (0) 6271 u.2.2.1 ∧ AJ (-1) 1791 u.2.2.2.1 ∧ AJ (0) 6 u.2.2.2.2.1 ∧ (True)) (fun u : Int32 × Int32 × (Nat → Int32) × (Nat → Int32) × (Nat → Int32) × (Nat → Int32) × (Nat → Int64) => ((wX1 cs adt qt (upd (upd Ft 5 u.1) 6 u.2.1) (vA (vA (vA (vA At 1 u.2.2.1) 2 u.2.2.2.1) 3 u.2.2.2.2.1) 4 u.2.2.2.2.2.1) (vA Bt 0 u.2.2.2.2.2.2) Dt) ++ (uX3 cs adh qh Fh Ah Bh Dh)))) A0) args s 0 0 A0) (F0 m 100 ls [.int s100_0, .int s100_1, .ref (qt 4)]) := by
                  intro s100_0 s100_1 H locs ls hs100_0 hs100_1 hP hD hS hl
                  refine va_iast hx hb hK.1 hP hD hS 5 0 rfl rfl (inK rfl (by omega) (by decide)) dX1_pairsThatCan_100 (fun H locs hP hD hS => ?_)
                  obtain ⟨g59001, hP, hD⟩ : ∃ g59001 : Nat → Int32, va_P G vwCl ((uX1 cs adt qt (upv 6 x18017 (upv 5 x18016 Ft)) (vB 4 g59001 (vB 3 g2 (vB 2 g18019 (vB 1 g18018 At)))) (vB 0 y18020 Bt) Dt) ++ (uX3 cs adh qh Fh Ah Bh Dh)) H ∧ va_D A0 ((uX1 cs adt qt (upv 6 x18017 (upv 5 x18016 Ft)) (vB 4 g59001 (vB 3 g2 (vB 2 g18019 (vB 1 g18018 At)))) (vB 0 y18020 Bt) Dt) ++ (uX3 cs adh qh Fh Ah Bh Dh)) := ⟨upd at4_28 s100_1.toNatClampNeg s100_0, hP, hD⟩
                  exact B101 x18016 x18017 g18018 g18019 g59001 y18020 H locs ls (by omega) (by omega) hg18018 hg18019 hP hD hS (lv_sub hl [0, 1, 2, 3, 4, 5] rfl)
                refine lv_if_eq (tgt := 99) hx hb dX1_pairsThatCan_92 (by decide) (fun c18023 => ?_) (fun c18023 => ?_)
                · have zc18023 := eqK rfl (show (0 : Int32).toInt = 0 by decide) c18023
                  refine lv_iconst (v := 0) hx hb dX1_pairsThatCan_99 (by decide) ?_
                  exact B100 0 v18009 H locs ls (by decide) (by omega) hP hD hS (lv_sub hl [1, 2, 3, 4, 5, 0] rfl)
                · have zc18023 := neK rfl (show (0 : Int32).toInt = 0 by decide) c18023
                  refine lv_iconst (v := 1) hx hb dX1_pairsThatCan_95 (by decide) ?_
                  refine lv_goto (tgt := 100) hx hb dX1_pairsThatCan_96 (by decide) ?_
                  exact B100 1 v18009 H locs ls (by decide) (by omega) hP hD hS (lv_sub hl [1, 2, 3, 4, 5, 0] rfl)
        exact B28 _ x17_2 x17_3 ft5_17 ft6_17 at1_17 at2_17 at4_17 bt0_17 H locs ls (Nat.lt_succ_self _) (by omega) (by omega) (by omega) hat1_17 hat2_17 hP hD hS (lv_sub hl [1, 2, 3, 4, 0] rfl)
  exact B17 _ 0 0 (Ft 5) (Ft 6) (At 1) (At 2) g1 (Bt 0) H locs ls (Nat.lt_succ_self _) (by decide) (hIt.1 5) (hIt.1 6) (fun j => hIt.2 1 j) (fun j => hIt.2 2 j) hP hD hS (lv_sub hl [2, 3, 1, 0] rfl)

