set_option maxRecDepth 100000 in
set_option maxHeartbeats 16000000 in
theorem sX1_pairsThatCan (l : Launch) (G : va_G) (cs : Nat → ClassId) (adt : Nat) (qt : Nat → Nat) (Ft : Nat → Int32) (At : Nat → Nat → Int32) (Bt : Nat → Nat → Int64) (Dt : Int64) (hIt : IX1 Ft At) (adh : Nat) (qh : Nat → Nat) (Fh : Nat → Int32) (Ah : Nat → Nat → Int32) (Bh : Nat → Nat → Int64) (Dh : Int64) (hIh : IX3 Fh Ah) : ∀ sz : Nat, Met l yX1_pairsThatCan (wk yX1_pairsThatCan cX1_pairsThatCan 6 (some .int)) (rmk 5 0 0) (PreD G (TY cs) [.ref adt, .ref adh] ((uX1 cs adt qt Ft At Bt Dt) ++ (uX3 cs adh qh Fh Ah Bh Dh)) sz) ((QDi G (fun (r : Int32) (u : Int32 × Int32 × (Nat → Int32) × (Nat → Int32) × (Nat → Int32) × (Nat → Int32) × (Nat → Int64)) => ((0 : Int) ≤ u.1.toInt ∧ u.1.toInt ≤ 1792) ∧ ((-1 : Int) ≤ u.2.1.toInt ∧ u.2.1.toInt ≤ 1791) ∧ AJ (0) 6271 u.2.2.1 ∧ AJ (-1) 1791 u.2.2.2.1 ∧ AJ (0) 6 u.2.2.2.2.1 ∧ (True)) (fun u : Int32 × Int32 × (Nat → Int32) × (Nat → Int32) × (Nat → Int32) × (Nat → Int32) × (Nat → Int64) => ((uX1 cs adt qt (upd (upd Ft 5 u.1) 6 u.2.1) (vA (vA (vA (vA At 1 u.2.2.1) 2 u.2.2.2.1) 3 u.2.2.2.2.1) 4 u.2.2.2.2.2.1) (vA Bt 0 u.2.2.2.2.2.2) Dt) ++ (uX3 cs adh qh Fh Ah Bh Dh)))) (va_A ((uX1 cs adt qt Ft At Bt Dt) ++ (uX3 cs adh qh Fh Ah Bh Dh)) sz)) 0 0 (va_A ((uX1 cs adt qt Ft At Bt Dt) ++ (uX3 cs adh qh Fh Ah Bh Dh)) sz) := by
  refine mkD (Qc := (QDi G (fun (r : Int32) (u : Int32 × Int32 × (Nat → Int32) × (Nat → Int32) × (Nat → Int32) × (Nat → Int32) × (Nat → Int64)) => ((0 : Int) ≤ u.1.toInt ∧ u.1.toInt ≤ 1792) ∧ ((-1 : Int) ≤ u.2.1.toInt ∧ u.2.1.toInt ≤ 1791) ∧ AJ (0) 6271 u.2.2.1 ∧ AJ (-1) 1791 u.2.2.2.1 ∧ AJ (0) 6 u.2.2.2.2.1 ∧ (True)) (fun u : Int32 × Int32 × (Nat → Int32) × (Nat → Int32) × (Nat → Int32) × (Nat → Int32) × (Nat → Int64) => ((uX1 cs adt qt (upd (upd Ft 5 u.1) 6 u.2.1) (vA (vA (vA (vA At 1 u.2.2.1) 2 u.2.2.2.1) 3 u.2.2.2.2.1) 4 u.2.2.2.2.2.1) (vA Bt 0 u.2.2.2.2.2.2) Dt) ++ (uX3 cs adh qh Fh Ah Bh Dh))))) (by decide) (by simp [lg_sl, Value.category]) ?_
  intro p e s m args below meth c ls A0 hx hb hml hr hlk hown hmn ht hK hP hD hS hA hl
  have hl : lv_has ls 6 [(0, .ref adt), (1, .ref adh)] := hl
  refine lv_aload_n hx hb dX1_pairsThatCan_0 rfl (lv_at hl 0 rfl) ?_
  refine getF (v := .ref (qt 4)) hx hb ht hown hK hP iTX1 0 4 rfl rfl (by decide) fl_RX1_25 rfl dX1_pairsThatCan_1 ?_
  refine lv_iconst (v := (-1)) hx hb dX1_pairsThatCan_4 (by decide) ?_
  refine behDv (wr := (((uX1 cs adt qt Ft At Bt Dt) ++ (uX3 cs adh qh Fh Ah Bh Dh))).take 5 ++ (((uX1 cs adt qt Ft At Bt Dt) ++ (uX3 cs adh qh Fh Ah Bh Dh))).drop 6) (runTD (As := [.ref (qt 4), .int (-1)]) (rest := []) ⟨hx, hb, hml, hown, ht⟩ (dJ7_fill_53178 l G cs (qt 4) 49 (by decide) (-1) (At 4)) okT_RX1_58 ⟨by decide, by decide⟩ hK hP hD [5] rfl (by decide) rfl hl.1 rfl (Nat.le_of_ble_eq_true rfl) dX1_pairsThatCan_5 ⟨(Nat.le_of_ble_eq_true rfl), (Nat.le_of_ble_eq_true rfl)⟩) hP hD hS hA [5] [0, 1, 2, 3, 4, 6, 7, 8, 9, 10, 11, 12, 13] rfl rfl (by decide) (by decide) (fun g1 H locs hP hD hS => ?_)
  have hP : va_P G vwCl ((uX1 cs adt qt Ft (vA At 4 g1) Bt Dt) ++ (uX3 cs adh qh Fh Ah Bh Dh)) H := hP.sub [0, 1, 2, 3, 4, 13, 5, 6, 7, 8, 9, 10, 11, 12] rfl
  have hD : va_D A0 ((uX1 cs adt qt Ft (vA At 4 g1) Bt Dt) ++ (uX3 cs adh qh Fh Ah Bh Dh)) := hD.sub [0, 1, 2, 3, 4, 13, 5, 6, 7, 8, 9, 10, 11, 12] (by decide) rfl
  refine lv_aload_n hx hb dX1_pairsThatCan_8 rfl (lv_at hl 0 rfl) ?_
  refine lv_aload_n hx hb dX1_pairsThatCan_9 rfl (lv_at hl 1 rfl) ?_
  refine behDw (wr := ([] : va_W)) (runVD (As := [.ref adh]) (rest := []) ⟨hx, hb, hml, hown, ht⟩ (sX1_findLeaders l G cs adt qt Ft (vA At 4 g1) Bt Dt (IB_arr (k := 4) hIt (AJ_full _)) adh qh Fh Ah Bh Dh hIh ) okV_RX1_61 ⟨by decide, by decide⟩ hK hP hD [0, 1, 2, 3, 4, 5, 6, 7, 8, 9, 10, 11, 12, 13] rfl (by decide) rfl 0 rfl rfl hl.1 rfl (Nat.le_of_ble_eq_true rfl) dX1_pairsThatCan_10 ⟨(Nat.le_of_ble_eq_true rfl), (Nat.le_of_ble_eq_true rfl)⟩) hP hD hS hA [0, 1, 2, 3, 4, 5, 6, 7, 8, 9, 10, 11, 12, 13] [] rfl rfl (by decide) (by decide) (fun u H locs hu hP hD hS => ?_)
  obtain ⟨g2, rfl⟩ : ∃ z, z = u := ⟨_, rfl⟩
  obtain ⟨hg2, hr3⟩ := hu
  have hg2 : AJ (0) 6 g2 := hg2
  have hP : va_P G vwCl ((uX1 cs adt qt Ft (vA (vA At 3 g2) 4 g1) Bt Dt) ++ (uX3 cs adh qh Fh Ah Bh Dh)) H := hP.sub [0, 1, 2, 3, 4, 5, 6, 7, 8, 9, 10, 11, 12, 13] rfl
  have hD : va_D A0 ((uX1 cs adt qt Ft (vA (vA At 3 g2) 4 g1) Bt Dt) ++ (uX3 cs adh qh Fh Ah Bh Dh)) := hD.sub [0, 1, 2, 3, 4, 5, 6, 7, 8, 9, 10, 11, 12, 13] (by decide) rfl
  refine lv_iconst (v := 0) hx hb dX1_pairsThatCan_13 (by decide) ?_
  refine lv_istore_n (lv' := [(2, .int 0), (0, .ref adt), (1, .ref adh)]) hx hb dX1_pairsThatCan_14 rfl hl (by decide) rfl (fun ls hl => ?_)
  refine lv_iconst (v := 0) hx hb dX1_pairsThatCan_15 (by decide) ?_
  refine lv_istore_n (lv' := [(3, .int 0), (2, .int 0), (0, .ref adt), (1, .ref adh)]) hx hb dX1_pairsThatCan_16 rfl hl (by decide) rfl (fun ls hl => ?_)
  have B17 : ∀ (n : Nat) (x17_2 : Int32) (x17_3 : Int32) (ft5_17 : Int32) (ft6_17 : Int32) (at1_17 : (Nat → Int32)) (at2_17 : (Nat → Int32)) (at4_17 : (Nat → Int32)) (bt0_17 : (Nat → Int64)) (H : Heap) (locs : List Loc) (ls : Array Slot), (7 - x17_3.toInt).toNat < n → (0 : Int) ≤ x17_3.toInt ∧ x17_3.toInt ≤ 7 → (0 : Int) ≤ ft5_17.toInt ∧ ft5_17.toInt ≤ 1792 → (-1 : Int) ≤ ft6_17.toInt ∧ ft6_17.toInt ≤ 1791 → AJ (0) 6271 at1_17 → AJ (-1) 1791 at2_17 → va_P G vwCl ((uX1 cs adt qt (upd (upd Ft 5 ft5_17) 6 ft6_17) (vA (vA (vA (vA At 1 at1_17) 2 at2_17) 3 g2) 4 at4_17) (vA Bt 0 bt0_17) Dt) ++ (uX3 cs adh qh Fh Ah Bh Dh)) H → va_D A0 ((uX1 cs adt qt (upd (upd Ft 5 ft5_17) 6 ft6_17) (vA (vA (vA (vA At 1 at1_17) 2 at2_17) 3 g2) 4 at4_17) (vA Bt 0 bt0_17) Dt) ++ (uX3 cs adh qh Fh Ah Bh Dh)) → va_S A0 s.heap H locs → lv_has ls 6 [(0, .ref adt), (1, .ref adh), (2, .int x17_2), (3, .int x17_3)] → W p l e (rmk 5 0 0) s m args below meth c H locs 0 0 (MQ below ((QDi G (fun (r : Int32) (u : Int32 × Int32 × (Nat → Int32) × (Nat → Int32) × (Nat → Int32) × (Nat → Int32) × (Nat → Int64)) => ((0 : Int) ≤ u.1.toInt ∧ u.1.toInt ≤ 1792) ∧ ((-1 : Int) ≤ u.2.1.toInt ∧ u.2.1.toInt ≤ 1791) ∧ AJ (0) 6271 u.2.2.1 ∧ AJ (-1) 1791 u.2.2.2.1 ∧ AJ (0) 6 u.2.2.2.2.1 ∧ (True)) (fun u : Int32 × Int32 × (Nat → Int32) × (Nat → Int32) × (Nat → Int32) × (Nat → Int32) × (Nat → Int64) => ((uX1 cs adt qt (upd (upd Ft 5 u.1) 6 u.2.1) (vA (vA (vA (vA At 1 u.2.2.1) 2 u.2.2.2.1) 3 u.2.2.2.2.1) 4 u.2.2.2.2.2.1) (vA Bt 0 u.2.2.2.2.2.2) Dt) ++ (uX3 cs adh qh Fh Ah Bh Dh)))) A0) args s 0 0 A0) (F0 m 17 ls []) := by
    intro n
    induction n with
    | zero => intro x17_2 x17_3 ft5_17 ft6_17 at1_17 at2_17 at4_17 bt0_17 H locs ls hmeas hx17_3 hft5_17 hft6_17 hat1_17 hat2_17 hP hD hS hl; exact absurd hmeas (Nat.not_lt_zero _)
    | succ n ih17 =>
      intro x17_2 x17_3 ft5_17 ft6_17 at1_17 at2_17 at4_17 bt0_17 H locs ls hmeas hx17_3 hft5_17 hft6_17 hat1_17 hat2_17 hP hD hS hl
      refine lv_iload_n hx hb dX1_pairsThatCan_17 rfl (lv_at hl 3 rfl) ?_
      refine lv_aload_n hx hb dX1_pairsThatCan_18 rfl (lv_at hl 1 rfl) ?_
      refine getF (v := .int (Fh 5)) hx hb ht hown hK hP iTX3 6 5 rfl rfl (by decide) fl_RX1_65 rfl dX1_pairsThatCan_19 ?_
      have zf12001 : (0 : Int) ≤ (Fh 5).toInt ∧ (Fh 5).toInt ≤ 7 := hIh.1 5
      refine lv_icmp_ge (tgt := 123) hx hb dX1_pairsThatCan_22 (by decide) (fun c12002 => ?_) (fun c12002 => ?_)
      · have zc12002 := leK rfl rfl c12002
        refine lv_iload_n hx hb dX1_pairsThatCan_123 rfl (lv_at hl 2 rfl) ?_
        exact retDi (ft5_17, ft6_17, at1_17, at2_17, g2, at4_17, bt0_17) hx hb hr hlk hP hD hS dX1_pairsThatCan_124 (⟨show (0 : Int) ≤ ft5_17.toInt ∧ ft5_17.toInt ≤ 1792 by omega, show (-1 : Int) ≤ ft6_17.toInt ∧ ft6_17.toInt ≤ 1791 by omega, hat1_17, hat2_17, hg2, trivial⟩) (Nat.le_of_ble_eq_true rfl) (Nat.le_of_ble_eq_true rfl)
      · have zc12002 := nleK rfl rfl c12002
        refine lv_iload_n hx hb dX1_pairsThatCan_25 rfl (lv_at hl 3 rfl) ?_
        refine lv_istore (lv' := [(4, .int x17_3), (0, .ref adt), (1, .ref adh), (2, .int x17_2), (3, .int x17_3)]) hx hb dX1_pairsThatCan_26 hl (by decide) rfl (fun ls hl => ?_)
        have B28 : ∀ (n : Nat) (x28_2 : Int32) (x28_4 : Int32) (ft5_28 : Int32) (ft6_28 : Int32) (at1_28 : (Nat → Int32)) (at2_28 : (Nat → Int32)) (at4_28 : (Nat → Int32)) (bt0_28 : (Nat → Int64)) (H : Heap) (locs : List Loc) (ls : Array Slot), (7 - x28_4.toInt).toNat < n → (0 : Int) ≤ x28_4.toInt ∧ x28_4.toInt ≤ 7 → (0 : Int) ≤ ft5_28.toInt ∧ ft5_28.toInt ≤ 1792 → (-1 : Int) ≤ ft6_28.toInt ∧ ft6_28.toInt ≤ 1791 → AJ (0) 6271 at1_28 → AJ (-1) 1791 at2_28 → va_P G vwCl ((uX1 cs adt qt (upd (upd Ft 5 ft5_28) 6 ft6_28) (vA (vA (vA (vA At 1 at1_28) 2 at2_28) 3 g2) 4 at4_28) (vA Bt 0 bt0_28) Dt) ++ (uX3 cs adh qh Fh Ah Bh Dh)) H → va_D A0 ((uX1 cs adt qt (upd (upd Ft 5 ft5_28) 6 ft6_28) (vA (vA (vA (vA At 1 at1_28) 2 at2_28) 3 g2) 4 at4_28) (vA Bt 0 bt0_28) Dt) ++ (uX3 cs adh qh Fh Ah Bh Dh)) → va_S A0 s.heap H locs → lv_has ls 6 [(0, .ref adt), (1, .ref adh), (2, .int x28_2), (3, .int x17_3), (4, .int x28_4)] → W p l e (rmk 5 0 0) s m args below meth c H locs 0 0 (MQ below ((QDi G (fun (r : Int32) (u : Int32 × Int32 × (Nat → Int32) × (Nat → Int32) × (Nat → Int32) × (Nat → Int32) × (Nat → Int64)) => ((0 : Int) ≤ u.1.toInt ∧ u.1.toInt ≤ 1792) ∧ ((-1 : Int) ≤ u.2.1.toInt ∧ u.2.1.toInt ≤ 1791) ∧ AJ (0) 6271 u.2.2.1 ∧ AJ (-1) 1791 u.2.2.2.1 ∧ AJ (0) 6 u.2.2.2.2.1 ∧ (True)) (fun u : Int32 × Int32 × (Nat → Int32) × (Nat → Int32) × (Nat → Int32) × (Nat → Int32) × (Nat → Int64) => ((uX1 cs adt qt (upd (upd Ft 5 u.1) 6 u.2.1) (vA (vA (vA (vA At 1 u.2.2.1) 2 u.2.2.2.1) 3 u.2.2.2.2.1) 4 u.2.2.2.2.2.1) (vA Bt 0 u.2.2.2.2.2.2) Dt) ++ (uX3 cs adh qh Fh Ah Bh Dh)))) A0) args s 0 0 A0) (F0 m 28 ls []) := by
          intro n
          induction n with
          | zero => intro x28_2 x28_4 ft5_28 ft6_28 at1_28 at2_28 at4_28 bt0_28 H locs ls hmeas hx28_4 hft5_28 hft6_28 hat1_28 hat2_28 hP hD hS hl; exact absurd hmeas (Nat.not_lt_zero _)
          | succ n ih28 =>
            intro x28_2 x28_4 ft5_28 ft6_28 at1_28 at2_28 at4_28 bt0_28 H locs ls hmeas hx28_4 hft5_28 hft6_28 hat1_28 hat2_28 hP hD hS hl
            refine lv_iload hx hb dX1_pairsThatCan_28 (lv_at hl 4 rfl) ?_
            refine lv_aload_n hx hb dX1_pairsThatCan_30 rfl (lv_at hl 1 rfl) ?_
            refine getF (v := .int (Fh 5)) hx hb ht hown hK hP iTX3 6 5 rfl rfl (by decide) fl_RX1_65 rfl dX1_pairsThatCan_31 ?_
            have zf18001 : (0 : Int) ≤ (Fh 5).toInt ∧ (Fh 5).toInt ≤ 7 := hIh.1 5
            refine lv_icmp_ge (tgt := 117) hx hb dX1_pairsThatCan_34 (by decide) (fun c18002 => ?_) (fun c18002 => ?_)
            · have zc18002 := leK rfl rfl c18002
              obtain ⟨v18003, ev18003⟩ : ∃ z : Int32, z = x17_3 + 1 := ⟨_, rfl⟩
              have tv18003 : v18003.toInt = x17_3.toInt + 1 := by rw [ev18003]; exact addT rfl (by decide) (by omega)
              refine lv_iinc (v := v18003) (lv' := [(3, .int v18003), (0, .ref adt), (1, .ref adh), (2, .int x28_2), (4, .int x28_4)]) hx hb dX1_pairsThatCan_117 hl (k := 3) rfl (by rw [ev18003]; rfl) (by decide) rfl (fun ls hl => ?_)
              refine lv_goto (tgt := 17) hx hb dX1_pairsThatCan_120 (by decide) ?_
              exact ih17 x28_2 v18003 ft5_28 ft6_28 at1_28 at2_28 at4_28 bt0_28 H locs ls (by omega) (by omega) (by omega) (by omega) hat1_28 hat2_28 hP hD hS (lv_sub hl [1, 2, 3, 0] rfl)
            · have zc18002 := nleK rfl rfl c18002
              refine lv_aload_n hx hb dX1_pairsThatCan_37 rfl (lv_at hl 0 rfl) ?_
              refine getF (v := .ref (qt 3)) hx hb ht hown hK hP iTX1 0 3 rfl rfl (by decide) fl_RX1_22 rfl dX1_pairsThatCan_38 ?_
              refine lv_iload_n hx hb dX1_pairsThatCan_41 rfl (lv_at hl 3 rfl) ?_
              refine va_iald hx hb hK.1 hP 4 0 rfl rfl (inK rfl (by omega) (by decide)) dX1_pairsThatCan_42 ?_
              refine lv_topi (fun v18004 ev18004 => ?_)
              have zf18005 : (0 : Int) ≤ v18004.toInt ∧ v18004.toInt ≤ 6 := by rw [ev18004]; exact (hg2 _)
              refine lv_bipush (v := 7) hx hb dX1_pairsThatCan_43 (by decide) ?_
              refine lv_imul hx hb dX1_pairsThatCan_45 ?_
              refine lv_topi (fun v18006 ev18006 => ?_)
              have tv18006 : v18006.toInt = v18004.toInt * 7 := by rw [ev18006]; exact mulT rfl (show (7 : Int32).toInt = 7 by decide) (by omega)
              refine lv_aload_n hx hb dX1_pairsThatCan_46 rfl (lv_at hl 0 rfl) ?_
              refine getF (v := .ref (qt 3)) hx hb ht hown hK hP iTX1 0 3 rfl rfl (by decide) fl_RX1_22 rfl dX1_pairsThatCan_47 ?_
              refine lv_iload hx hb dX1_pairsThatCan_50 (lv_at hl 4 rfl) ?_
              refine va_iald hx hb hK.1 hP 4 0 rfl rfl (inK rfl (by omega) (by decide)) dX1_pairsThatCan_52 ?_
              refine lv_topi (fun v18007 ev18007 => ?_)
              have zf18008 : (0 : Int) ≤ v18007.toInt ∧ v18007.toInt ≤ 6 := by rw [ev18007]; exact (hg2 _)
              refine lv_iadd hx hb dX1_pairsThatCan_53 ?_
              refine lv_topi (fun v18009 ev18009 => ?_)
              have tv18009 : v18009.toInt = v18006.toInt + v18007.toInt := by rw [ev18009]; exact addT rfl rfl (by omega)
              refine lv_istore (lv' := [(5, .int v18009), (0, .ref adt), (1, .ref adh), (2, .int x28_2), (3, .int x17_3), (4, .int x28_4)]) hx hb dX1_pairsThatCan_54 hl (by decide) rfl (fun ls hl => ?_)
              refine lv_aload_n hx hb dX1_pairsThatCan_56 rfl (lv_at hl 1 rfl) ?_
              refine getF (v := .ref (qt 4)) hx hb ht hown hK hP iTX1 0 4 rfl rfl (by decide) fl_RX1_25 rfl dX1_pairsThatCan_57 ?_
              refine lv_iload hx hb dX1_pairsThatCan_60 (lv_at hl 0 rfl) ?_
              refine va_iald hx hb hK.1 hP 5 0 rfl rfl (inK rfl (by omega) (by decide)) dX1_pairsThatCan_62 ?_
              refine lv_topi (fun v18010 ev18010 => ?_)
              refine lv_iconst (v := (-1)) hx hb dX1_pairsThatCan_63 (by decide) ?_
              have B101 : ∀ (ft5_101 : Int32) (ft6_101 : Int32) (at1_101 : (Nat → Int32)) (at2_101 : (Nat → Int32)) (at4_101 : (Nat → Int32)) (bt0_101 : (Nat → Int64)) (H : Heap) (locs : List Loc) (ls : Array Slot), (0 : Int) ≤ ft5_101.toInt ∧ ft5_101.toInt ≤ 1792 → (-1 : Int) ≤ ft6_101.toInt ∧ ft6_101.toInt ≤ 1791 → AJ (0) 6271 at1_101 → AJ (-1) 1791 at2_101 → va_P G vwCl ((uX1 cs adt qt (upd (upd Ft 5 ft5_101) 6 ft6_101) (vA (vA (vA (vA At 1 at1_101) 2 at2_101) 3 g2) 4 at4_101) (vA Bt 0 bt0_101) Dt) ++ (uX3 cs adh qh Fh Ah Bh Dh)) H → va_D A0 ((uX1 cs adt qt (upd (upd Ft 5 ft5_101) 6 ft6_101) (vA (vA (vA (vA At 1 at1_101) 2 at2_101) 3 g2) 4 at4_101) (vA Bt 0 bt0_101) Dt) ++ (uX3 cs adh qh Fh Ah Bh Dh)) → va_S A0 s.heap H locs → lv_has ls 6 [(0, .ref adt), (1, .ref adh), (2, .int x28_2), (3, .int x17_3), (4, .int x28_4), (5, .int v18009)] → W p l e (rmk 5 0 0) s m args below meth c H locs 0 0 (MQ below ((QDi G (fun (r : Int32) (u : Int32 × Int32 × (Nat → Int32) × (Nat → Int32) × (Nat → Int32) × (Nat → Int32) × (Nat → Int64)) => ((0 : Int) ≤ u.1.toInt ∧ u.1.toInt ≤ 1792) ∧ ((-1 : Int) ≤ u.2.1.toInt ∧ u.2.1.toInt ≤ 1791) ∧ AJ (0) 6271 u.2.2.1 ∧ AJ (-1) 1791 u.2.2.2.1 ∧ AJ (0) 6 u.2.2.2.2.1 ∧ (True)) (fun u : Int32 × Int32 × (Nat → Int32) × (Nat → Int32) × (Nat → Int32) × (Nat → Int32) × (Nat → Int64) => ((uX1 cs adt qt (upd (upd Ft 5 u.1) 6 u.2.1) (vA (vA (vA (vA At 1 u.2.2.1) 2 u.2.2.2.1) 3 u.2.2.2.2.1) 4 u.2.2.2.2.2.1) (vA Bt 0 u.2.2.2.2.2.2) Dt) ++ (uX3 cs adh qh Fh Ah Bh Dh)))) A0) args s 0 0 A0) (F0 m 101 ls []) := by
                intro ft5_101 ft6_101 at1_101 at2_101 at4_101 bt0_101 H locs ls hft5_101 hft6_101 hat1_101 hat2_101 hP hD hS hl
                refine lv_iload_n hx hb dX1_pairsThatCan_101 rfl (lv_at hl 2 rfl) ?_
                refine lv_aload_n hx hb dX1_pairsThatCan_102 rfl (lv_at hl 0 rfl) ?_
                refine getF (v := .ref (qt 4)) hx hb ht hown hK hP iTX1 0 4 rfl rfl (by decide) fl_RX1_25 rfl dX1_pairsThatCan_103 ?_
                refine lv_iload hx hb dX1_pairsThatCan_106 (lv_at hl 5 rfl) ?_
                refine va_iald hx hb hK.1 hP 5 0 rfl rfl (inK rfl (by omega) (by decide)) dX1_pairsThatCan_108 ?_
                refine lv_topi (fun v60001 ev60001 => ?_)
                refine lv_iadd hx hb dX1_pairsThatCan_109 ?_
                refine lv_topi (fun v60002 ev60002 => ?_)
                refine lv_istore_n (lv' := [(2, .int v60002), (0, .ref adt), (1, .ref adh), (3, .int x17_3), (4, .int x28_4), (5, .int v18009)]) hx hb dX1_pairsThatCan_110 rfl hl (by decide) rfl (fun ls hl => ?_)
                obtain ⟨v60003, ev60003⟩ : ∃ z : Int32, z = x28_4 + 1 := ⟨_, rfl⟩
                have tv60003 : v60003.toInt = x28_4.toInt + 1 := by rw [ev60003]; exact addT rfl (by decide) (by omega)
                refine lv_iinc (v := v60003) (lv' := [(4, .int v60003), (2, .int v60002), (0, .ref adt), (1, .ref adh), (3, .int x17_3), (5, .int v18009)]) hx hb dX1_pairsThatCan_111 hl (k := 4) rfl (by rw [ev60003]; rfl) (by decide) rfl (fun ls hl => ?_)
                refine lv_goto (tgt := 28) hx hb dX1_pairsThatCan_114 (by decide) ?_
                exact ih28 v60002 v60003 ft5_101 ft6_101 at1_101 at2_101 at4_101 bt0_101 H locs ls (by omega) (by omega) (by omega) (by omega) hat1_101 hat2_101 hP hD hS (lv_sub hl [2, 3, 1, 4, 0] rfl)
              refine lv_icmp_ne (tgt := 101) hx hb dX1_pairsThatCan_64 (by decide) (fun c18011 => ?_) (fun c18011 => ?_)
              · have zc18011 := neK rfl (show (-1 : Int32).toInt = (-1) by decide) c18011
                exact B101 ft5_28 ft6_28 at1_28 at2_28 at4_28 bt0_28 H locs ls (by omega) (by omega) hat1_28 hat2_28 hP hD hS (lv_sub hl [1, 2, 3, 4, 5, 0] rfl)
              · have zc18011 := eqK rfl (show (-1 : Int32).toInt = (-1) by decide) c18011
                refine lv_aload_n hx hb dX1_pairsThatCan_67 rfl (lv_at hl 1 rfl) ?_
                refine getF (v := .ref (qt 4)) hx hb ht hown hK hP iTX1 0 4 rfl rfl (by decide) fl_RX1_25 rfl dX1_pairsThatCan_68 ?_
                refine lv_iload hx hb dX1_pairsThatCan_71 (lv_at hl 0 rfl) ?_
                refine lv_aload_n hx hb dX1_pairsThatCan_73 rfl (lv_at hl 1 rfl) ?_
                refine lv_aload_n hx hb dX1_pairsThatCan_74 rfl (lv_at hl 2 rfl) ?_
                refine lv_aload_n hx hb dX1_pairsThatCan_75 rfl (lv_at hl 1 rfl) ?_
                refine getF (v := .ref (qt 3)) hx hb ht hown hK hP iTX1 0 3 rfl rfl (by decide) fl_RX1_22 rfl dX1_pairsThatCan_76 ?_
                refine lv_iload_n hx hb dX1_pairsThatCan_79 rfl (lv_at hl 4 rfl) ?_
                refine va_iald hx hb hK.1 hP 4 0 rfl rfl (inK rfl (by omega) (by decide)) dX1_pairsThatCan_80 ?_
                refine lv_topi (fun v18012 ev18012 => ?_)
                have zf18013 : (0 : Int) ≤ v18012.toInt ∧ v18012.toInt ≤ 6 := by rw [ev18012]; exact (hg2 _)
                refine lv_aload_n hx hb dX1_pairsThatCan_81 rfl (lv_at hl 1 rfl) ?_
                refine getF (v := .ref (qt 3)) hx hb ht hown hK hP iTX1 0 3 rfl rfl (by decide) fl_RX1_22 rfl dX1_pairsThatCan_82 ?_
                refine lv_iload hx hb dX1_pairsThatCan_85 (lv_at hl 5 rfl) ?_
                refine va_iald hx hb hK.1 hP 4 0 rfl rfl (inK rfl (by omega) (by decide)) dX1_pairsThatCan_87 ?_
                refine lv_topi (fun v18014 ev18014 => ?_)
                have zf18015 : (0 : Int) ≤ v18014.toInt ∧ v18014.toInt ≤ 6 := by rw [ev18014]; exact (hg2 _)
                refine lv_iconst (v := 0) hx hb dX1_pairsThatCan_88 (by decide) ?_
                refine behDi (wr := ([] : va_W)) (runVD (As := [.ref adh, .int v18012, .int v18014, .int 0]) (rest := [.int v18009, .ref (qt 4)]) ⟨hx, hb, hml, hown, ht⟩ (sX1_hunt l G cs adt qt (upd (upd Ft 5 ft5_28) 6 ft6_28) (vA (vA (vA (vA At 1 at1_28) 2 at2_28) 3 g2) 4 at4_28) (vA Bt 0 bt0_28) Dt (IB_arr (k := 4) (IB_arr (k := 3) (IB_arr (k := 2) (IB_arr (k := 1) (IB_put (k := 6) (IB_put (k := 5) hIt (show (0 : Int) ≤ ft5_28.toInt ∧ ft5_28.toInt ≤ 1792 by omega)) (show (-1 : Int) ≤ ft6_28.toInt ∧ ft6_28.toInt ≤ 1791 by omega)) hat1_28) hat2_28) hg2) (AJ_full _)) adh qh Fh Ah Bh Dh hIh v18012 v18014 0 (by omega) (by omega) (by decide)) okV_RX1_68 ⟨by decide, by decide⟩ hK hP hD [0, 1, 2, 3, 4, 5, 6, 7, 8, 9, 10, 11, 12, 13] rfl (by decide) rfl 0 rfl rfl hl.1 rfl (Nat.le_of_ble_eq_true rfl) dX1_pairsThatCan_89 ⟨(Nat.le_of_ble_eq_true rfl), (Nat.le_of_ble_eq_true rfl)⟩) hP hD hS hA [0, 1, 2, 3, 4, 5, 6, 7, 8, 9, 10, 11, 12, 13] [] rfl rfl (by decide) (by decide) (fun r9 u H locs hu hP hD hS => ?_)
                obtain ⟨x18016, x18017, g18018, g18019, y18020⟩ := u
                have kk18022 : (0 : Int32).toInt = 0 := by decide
                obtain ⟨r18021, rfl⟩ : ∃ z, z = r9 := ⟨_, rfl⟩
                obtain ⟨hbx18016, hbx18017, hg18018, hg18019, hr18021⟩ := hu
                have hbx18016 : (0 : Int) ≤ x18016.toInt ∧ x18016.toInt ≤ 1792 := hbx18016
                have hbx18017 : (-1 : Int) ≤ x18017.toInt ∧ x18017.toInt ≤ 1791 := hbx18017
                have hg18018 : AJ (0) 6271 g18018 := hg18018
                have hg18019 : AJ (-1) 1791 g18019 := hg18019
                have hr18021 : (0 : Int) ≤ r18021.toInt ∧ r18021.toInt ≤ 1 := hr18021
                have hP : va_P G vwCl ((uX1 cs adt qt (upd (upd Ft 5 x18016) 6 x18017) (vA (vA (vA (vA At 1 g18018) 2 g18019) 3 g2) 4 at4_28) (vA Bt 0 y18020) Dt) ++ (uX3 cs adh qh Fh Ah Bh Dh)) H := hP.sub [0, 1, 2, 3, 4, 5, 6, 7, 8, 9, 10, 11, 12, 13] rfl
                have hD : va_D A0 ((uX1 cs adt qt (upd (upd Ft 5 x18016) 6 x18017) (vA (vA (vA (vA At 1 g18018) 2 g18019) 3 g2) 4 at4_28) (vA Bt 0 y18020) Dt) ++ (uX3 cs adh qh Fh Ah Bh Dh)) := hD.sub [0, 1, 2, 3, 4, 5, 6, 7, 8, 9, 10, 11, 12, 13] (by decide) rfl
                have B100 : ∀ (s100_0 : Int32) (s100_1 : Int32) (H : Heap) (locs : List Loc) (ls : Array Slot), (0 : Int) ≤ s100_0.toInt ∧ s100_0.toInt ≤ 1 → (0 : Int) ≤ s100_1.toInt ∧ s100_1.toInt ≤ 48 → va_P G vwCl ((uX1 cs adt qt (upd (upd Ft 5 x18016) 6 x18017) (vA (vA (vA (vA At 1 g18018) 2 g18019) 3 g2) 4 at4_28) (vA Bt 0 y18020) Dt) ++ (uX3 cs adh qh Fh Ah Bh Dh)) H → va_D A0 ((uX1 cs adt qt (upd (upd Ft 5 x18016) 6 x18017) (vA (vA (vA (vA At 1 g18018) 2 g18019) 3 g2) 4 at4_28) (vA Bt 0 y18020) Dt) ++ (uX3 cs adh qh Fh Ah Bh Dh)) → va_S A0 s.heap H locs → lv_has ls 6 [(0, .ref adt), (1, .ref adh), (2, .int x28_2), (3, .int x17_3), (4, .int x28_4), (5, .int v18009)] → W p l e (rmk 5 0 0) s m args below meth c H locs 0 0 (MQ below ((QDi G (fun (r : Int32) (u : Int32 × Int32 × (Nat → Int32) × (Nat → Int32) × (Nat → Int32) × (Nat → Int32) × (Nat → Int64)) => ((0 : Int) ≤ u.1.toInt ∧ u.1.toInt ≤ 1792) ∧ ((-1 : Int) ≤ u.2.1.toInt ∧ u.2.1.toInt ≤ 1791) ∧ AJ (0) 6271 u.2.2.1 ∧ AJ (-1) 1791 u.2.2.2.1 ∧ AJ (0) 6 u.2.2.2.2.1 ∧ (True)) (fun u : Int32 × Int32 × (Nat → Int32) × (Nat → Int32) × (Nat → Int32) × (Nat → Int32) × (Nat → Int64) => ((uX1 cs adt qt (upd (upd Ft 5 u.1) 6 u.2.1) (vA (vA (vA (vA At 1 u.2.2.1) 2 u.2.2.2.1) 3 u.2.2.2.2.1) 4 u.2.2.2.2.2.1) (vA Bt 0 u.2.2.2.2.2.2) Dt) ++ (uX3 cs adh qh Fh Ah Bh Dh)))) A0) args s 0 0 A0) (F0 m 100 ls [.int s100_0, .int s100_1, .ref (qt 4)]) := by
                  intro s100_0 s100_1 H locs ls hs100_0 hs100_1 hP hD hS hl
                  refine va_iast hx hb hK.1 hP hD hS 5 0 rfl rfl (inK rfl (by omega) (by decide)) dX1_pairsThatCan_100 (fun H locs hP hD hS => ?_)
                  obtain ⟨g59001, hP, hD⟩ : ∃ g59001 : Nat → Int32, va_P G vwCl ((uX1 cs adt qt (upd (upd Ft 5 x18016) 6 x18017) (vA (vA (vA (vA At 1 g18018) 2 g18019) 3 g2) 4 g59001) (vA Bt 0 y18020) Dt) ++ (uX3 cs adh qh Fh Ah Bh Dh)) H ∧ va_D A0 ((uX1 cs adt qt (upd (upd Ft 5 x18016) 6 x18017) (vA (vA (vA (vA At 1 g18018) 2 g18019) 3 g2) 4 g59001) (vA Bt 0 y18020) Dt) ++ (uX3 cs adh qh Fh Ah Bh Dh)) := ⟨upd at4_28 s100_1.toNatClampNeg s100_0, hP, hD⟩
                  exact B101 x18016 x18017 g18018 g18019 g59001 y18020 H locs ls (by omega) (by omega) hg18018 hg18019 hP hD hS (lv_sub hl [0, 1, 2, 3, 4, 5] rfl)
                refine lv_if_eq (tgt := 99) hx hb dX1_pairsThatCan_92 (by decide) (fun c18023 => ?_) (fun c18023 => ?_)
                · have zc18023 := eqK rfl (show (0 : Int32).toInt = 0 by decide) c18023
                  refine lv_iconst (v := 0) hx hb dX1_pairsThatCan_99 (by decide) ?_
                  exact B100 0 v18009 H locs ls (by decide) (by omega) hP hD hS (lv_sub hl [1, 2, 3, 4, 5, 0] rfl)
                · have zc18023 := neK rfl (show (0 : Int32).toInt = 0 by decide) c18023
                  refine lv_iconst (v := 1) hx hb dX1_pairsThatCan_95 (by decide) ?_
                  refine lv_goto (tgt := 100) hx hb dX1_pairsThatCan_96 (by decide) ?_
                  exact B100 1 v18009 H locs ls (by decide) (by omega) hP hD hS (lv_sub hl [1, 2, 3, 4, 5, 0] rfl)
        exact B28 _ x17_2 x17_3 ft5_17 ft6_17 at1_17 at2_17 at4_17 bt0_17 H locs ls (Nat.lt_succ_self _) (by omega) (by omega) (by omega) hat1_17 hat2_17 hP hD hS (lv_sub hl [1, 2, 3, 4, 0] rfl)
  exact B17 _ 0 0 (Ft 5) (Ft 6) (At 1) (At 2) g1 (Bt 0) H locs ls (Nat.lt_succ_self _) (by decide) (hIt.1 5) (hIt.1 6) (fun j => hIt.2 1 j) (fun j => hIt.2 2 j) hP hD hS (lv_sub hl [2, 3, 1, 0] rfl)

set_option maxRecDepth 100000 in
set_option maxHeartbeats 16000000 in
theorem sX3_column_0 (l : Launch) (G : va_G) (cs : Nat → ClassId) (adt : Nat) (qt : Nat → Nat) (Ft : Nat → Int32) (At : Nat → Nat → Int32) (Bt : Nat → Nat → Int64) (Dt : Int64) (hIt : IX3 Ft At) : ∀ sz : Nat, Met l yX3_column (wk yX3_column cX3_column 2 (some (.array .int))) (rmk 0 0 0) (PreP G (TY cs) [.ref adt, .int 0] (uX3 cs adt qt Ft At Bt Dt) sz) (QRr (qt 7) sz) 0 0 (fun q => sz ≤ q) := by
  refine mkP (Qc := QRr (qt 7)) (by decide) (by simp [lg_sl, Value.category]) ?_
  intro p e s m args below meth c ls hx hb hml hr hlk hown ht hK hP hS hl
  have hl : lv_has ls 2 [(0, .ref adt), (1, .int 0)] := hl
  refine lv_iload_n hx hb dX3_column_0 rfl (lv_at hl 1 rfl) ?_
  refine lv_tableIn (off := 27) (tgt := 28) hx hb dX3_column_1 (by decide) (by decide) (by decide) (by decide) ?_
  refine lv_aload_n hx hb dX3_column_28 rfl (lv_at hl 0 rfl) ?_
  refine getF (v := .ref (qt 7)) hx hb ht hown hK hP iTX3 0 7 rfl rfl (by decide) fl_RX3_9 rfl dX3_column_29 ?_
  exact retRr hx hb hr hlk hS dX3_column_32

set_option maxRecDepth 100000 in
set_option maxHeartbeats 16000000 in
theorem sX3_column_1 (l : Launch) (G : va_G) (cs : Nat → ClassId) (adt : Nat) (qt : Nat → Nat) (Ft : Nat → Int32) (At : Nat → Nat → Int32) (Bt : Nat → Nat → Int64) (Dt : Int64) (hIt : IX3 Ft At) : ∀ sz : Nat, Met l yX3_column (wk yX3_column cX3_column 2 (some (.array .int))) (rmk 0 0 0) (PreP G (TY cs) [.ref adt, .int 1] (uX3 cs adt qt Ft At Bt Dt) sz) (QRr (qt 8) sz) 0 0 (fun q => sz ≤ q) := by
  refine mkP (Qc := QRr (qt 8)) (by decide) (by simp [lg_sl, Value.category]) ?_
  intro p e s m args below meth c ls hx hb hml hr hlk hown ht hK hP hS hl
  have hl : lv_has ls 2 [(0, .ref adt), (1, .int 1)] := hl
  refine lv_iload_n hx hb dX3_column_0 rfl (lv_at hl 1 rfl) ?_
  refine lv_tableIn (off := 32) (tgt := 33) hx hb dX3_column_1 (by decide) (by decide) (by decide) (by decide) ?_
  refine lv_aload_n hx hb dX3_column_33 rfl (lv_at hl 0 rfl) ?_
  refine getF (v := .ref (qt 8)) hx hb ht hown hK hP iTX3 0 8 rfl rfl (by decide) fl_RX3_15 rfl dX3_column_34 ?_
  exact retRr hx hb hr hlk hS dX3_column_37

set_option maxRecDepth 100000 in
set_option maxHeartbeats 16000000 in
theorem sX3_column_2 (l : Launch) (G : va_G) (cs : Nat → ClassId) (adt : Nat) (qt : Nat → Nat) (Ft : Nat → Int32) (At : Nat → Nat → Int32) (Bt : Nat → Nat → Int64) (Dt : Int64) (hIt : IX3 Ft At) : ∀ sz : Nat, Met l yX3_column (wk yX3_column cX3_column 2 (some (.array .int))) (rmk 0 0 0) (PreP G (TY cs) [.ref adt, .int 2] (uX3 cs adt qt Ft At Bt Dt) sz) (QRr (qt 9) sz) 0 0 (fun q => sz ≤ q) := by
  refine mkP (Qc := QRr (qt 9)) (by decide) (by simp [lg_sl, Value.category]) ?_
  intro p e s m args below meth c ls hx hb hml hr hlk hown ht hK hP hS hl
  have hl : lv_has ls 2 [(0, .ref adt), (1, .int 2)] := hl
  refine lv_iload_n hx hb dX3_column_0 rfl (lv_at hl 1 rfl) ?_
  refine lv_tableIn (off := 37) (tgt := 38) hx hb dX3_column_1 (by decide) (by decide) (by decide) (by decide) ?_
  refine lv_aload_n hx hb dX3_column_38 rfl (lv_at hl 0 rfl) ?_
  refine getF (v := .ref (qt 9)) hx hb ht hown hK hP iTX3 0 9 rfl rfl (by decide) fl_RX3_18 rfl dX3_column_39 ?_
  exact retRr hx hb hr hlk hS dX3_column_42

set_option maxRecDepth 100000 in
set_option maxHeartbeats 16000000 in
theorem sX3_column_3 (l : Launch) (G : va_G) (cs : Nat → ClassId) (adt : Nat) (qt : Nat → Nat) (Ft : Nat → Int32) (At : Nat → Nat → Int32) (Bt : Nat → Nat → Int64) (Dt : Int64) (hIt : IX3 Ft At) : ∀ sz : Nat, Met l yX3_column (wk yX3_column cX3_column 2 (some (.array .int))) (rmk 0 0 0) (PreP G (TY cs) [.ref adt, .int 3] (uX3 cs adt qt Ft At Bt Dt) sz) (QRr (qt 10) sz) 0 0 (fun q => sz ≤ q) := by
  refine mkP (Qc := QRr (qt 10)) (by decide) (by simp [lg_sl, Value.category]) ?_
  intro p e s m args below meth c ls hx hb hml hr hlk hown ht hK hP hS hl
  have hl : lv_has ls 2 [(0, .ref adt), (1, .int 3)] := hl
  refine lv_iload_n hx hb dX3_column_0 rfl (lv_at hl 1 rfl) ?_
  refine lv_tableOut (tgt := 43) hx hb dX3_column_1 (by decide) (by decide) ?_
  refine lv_aload_n hx hb dX3_column_43 rfl (lv_at hl 0 rfl) ?_
  refine getF (v := .ref (qt 10)) hx hb ht hown hK hP iTX3 0 10 rfl rfl (by decide) fl_RX3_21 rfl dX3_column_44 ?_
  exact retRr hx hb hr hlk hS dX3_column_47

set_option maxRecDepth 100000 in
set_option maxHeartbeats 16000000 in
theorem sX0_stepAt (l : Launch) (G : va_G) (cs : Nat → ClassId) (adt : Nat) (qt : Nat → Nat) (Ft : Nat → Int32) (At : Nat → Nat → Int32) (Bt : Nat → Nat → Int64) (Dt : Int64) (hIt : IX0 Ft At) (a1 : Int32) : ∀ sz : Nat, Met l yX0_stepAt (wk yX0_stepAt cX0_stepAt 2 (some .int)) (rmk 0 0 0) (PreP G (TY cs) [.ref adt, .int a1] (uX0 cs adt qt Ft At Bt Dt) sz) (QRi (fun r : Int32 => True) sz) 0 0 (fun q => sz ≤ q) := by
  refine mkP (Qc := QRi (fun r : Int32 => True)) (by decide) (by simp [lg_sl, Value.category]) ?_
  intro p e s m args below meth c ls hx hb hml hr hlk hown ht hK hP hS hl
  have hl : lv_has ls 2 [(0, .ref adt), (1, .int a1)] := hl
  refine lv_iload_n hx hb dX0_stepAt_0 rfl (lv_at hl 1 rfl) ?_
  refine lv_if_lt (tgt := 20) hx hb dX0_stepAt_1 (by decide) (fun c1 => ?_) (fun c1 => ?_)
  · have zc1 := ltK rfl (show (0 : Int32).toInt = 0 by decide) c1
    refine lv_iconst (v := (-1)) hx hb dX0_stepAt_20 (by decide) ?_
    exact retRi hx hb hr hlk hS dX0_stepAt_21 (trivial)
  · have zc1 := nltK rfl (show (0 : Int32).toInt = 0 by decide) c1
    refine lv_iload_n hx hb dX0_stepAt_4 rfl (lv_at hl 1 rfl) ?_
    refine lv_iconst (v := 5) hx hb dX0_stepAt_5 (by decide) ?_
    refine lv_icmp_ge (tgt := 20) hx hb dX0_stepAt_6 (by decide) (fun c2 => ?_) (fun c2 => ?_)
    · have zc2 := leK (show (5 : Int32).toInt = 5 by decide) rfl c2
      refine lv_iconst (v := (-1)) hx hb dX0_stepAt_20 (by decide) ?_
      exact retRi hx hb hr hlk hS dX0_stepAt_21 (trivial)
    · have zc2 := nleK (show (5 : Int32).toInt = 5 by decide) rfl c2
      refine lv_aload_n hx hb dX0_stepAt_9 rfl (lv_at hl 0 rfl) ?_
      refine getF (v := .ref (qt 1)) hx hb ht hown hK hP iTX0 0 1 rfl rfl (by decide) fl_RX0_19 rfl dX0_stepAt_10 ?_
      refine lv_iconst (v := 0) hx hb dX0_stepAt_13 (by decide) ?_
      refine va_ald2 hx hb hK.1 hP 2 7 rfl rfl (show ¬ (_ ∨ _) by decide) dX0_stepAt_14 ?_
      refine W.eq (g2 := F0 m 15 ls [.ref (qt 20)]) rfl ?_
      refine lv_iload_n hx hb dX0_stepAt_15 rfl (lv_at hl 1 rfl) ?_
      refine va_iald hx hb hK.1 hP 4 0 rfl rfl (inK rfl (by omega) (by decide)) dX0_stepAt_16 ?_
      refine lv_topi (fun v3 ev3 => ?_)
      refine lv_goto (tgt := 21) hx hb dX0_stepAt_17 (by decide) ?_
      exact retRi hx hb hr hlk hS dX0_stepAt_21 (trivial)

