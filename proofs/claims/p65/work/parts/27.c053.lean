set_option maxRecDepth 100000 in
set_option maxHeartbeats 16000000 in
theorem sX10_right (l : Launch) (G : va_G) (cs : Nat → ClassId) (adm : Nat) (qm : Nat → Nat) (Fm : Nat → Int32) (Am : Nat → Nat → Int32) (Bm : Nat → Nat → Int64) (Dm : Int64) (hIm : IX10 Fm Am) (qms : Nat → Nat) (Fms : Nat → Int32) (Ams : Nat → Nat → Int32) (Bms : Nat → Nat → Int64) (Dms : Int64) (hIms : IX8 Fms Ams) (qmh : Nat → Nat) (Fmh : Nat → Int32) (Amh : Nat → Nat → Int32) (Bmh : Nat → Nat → Int64) (Dmh : Int64) (hImh : IX3 Fmh Amh) (qme : Nat → Nat) (Fme : Nat → Int32) (Ame : Nat → Nat → Int32) (Bme : Nat → Nat → Int64) (Dme : Int64) (hIme : IX4 Fme Ame) (a1 : Int32) : ∀ sz : Nat, Met l yX10_right (wk yX10_right cX10_right 7 (some .long)) (rmk 4 0 0) (PreP G (TY cs) [.ref adm, .int a1] ((uX10 cs adm qm Fm Am Bm Dm) ++ ((uX8 cs (qm 3) qms Fms Ams Bms Dms) ++ ((uX3 cs (qms 0) qmh Fmh Amh Bmh Dmh) ++ (uX4 cs (qm 10) qme Fme Ame Bme Dme)))) sz) (QRl (fun r : Int64 => True) sz) 0 0 (fun q => sz ≤ q) := by
  refine mkP (Qc := QRl (fun r : Int64 => True)) (by decide) (by simp [lg_sl, Value.category]) ?_
  intro p e s m args below meth c ls hx hb hml hr hlk hown ht hK hP hS hl
  have hl : lv_has ls 7 [(0, .ref adm), (1, .int a1)] := hl
  refine lv_aload_n hx hb dX10_right_0 rfl (lv_at hl 0 rfl) ?_
  refine getF (v := .ref (qm 3)) hx hb ht hown hK hP iTX10 0 3 rfl rfl (by decide) fl_RX10_31 rfl dX10_right_1 ?_
  refine getF (v := .ref (qms 0)) hx hb ht hown hK hP iTX8 3 0 rfl rfl (by decide) fl_RX10_98 rfl dX10_right_4 ?_
  refine getF (v := .int (Fmh 6)) hx hb ht hown hK hP iTX3 5 6 rfl rfl (by decide) fl_RX10_283 rfl dX10_right_7 ?_
  have zf1 : (0 : Int) ≤ (Fmh 6).toInt ∧ (Fmh 6).toInt ≤ 6 := hImh.1 6
  refine lv_iconst (v := 1) hx hb dX10_right_10 (by decide) ?_
  refine lv_icmp_lt (tgt := 23) hx hb dX10_right_11 (by decide) (fun c2 => ?_) (fun c2 => ?_)
  · have zc2 := ltK rfl (show (1 : Int32).toInt = 1 by decide) c2
    refine lv_ldc2 hx hb hown (ht _ kl_RX10_289) dX10_right_23 ?_
    exact retRl hx hb hr hlk hS dX10_right_26 (trivial)
  · have zc2 := nltK rfl (show (1 : Int32).toInt = 1 by decide) c2
    refine lv_iload_n hx hb dX10_right_14 rfl (lv_at hl 1 rfl) ?_
    refine lv_if_lt (tgt := 23) hx hb dX10_right_15 (by decide) (fun c3 => ?_) (fun c3 => ?_)
    · have zc3 := ltK rfl (show (0 : Int32).toInt = 0 by decide) c3
      refine lv_ldc2 hx hb hown (ht _ kl_RX10_289) dX10_right_23 ?_
      exact retRl hx hb hr hlk hS dX10_right_26 (trivial)
    · have zc3 := nltK rfl (show (0 : Int32).toInt = 0 by decide) c3
      refine lv_iload_n hx hb dX10_right_18 rfl (lv_at hl 1 rfl) ?_
      refine lv_iconst (v := 1) hx hb dX10_right_19 (by decide) ?_
      refine lv_icmp_le (tgt := 27) hx hb dX10_right_20 (by decide) (fun c4 => ?_) (fun c4 => ?_)
      · have zc4 := leK rfl (show (1 : Int32).toInt = 1 by decide) c4
        refine lv_lconst (v := 0) hx hb dX10_right_27 (by decide) ?_
        refine lv_lstore_n (lv' := [(2, .long 0), (0, .ref adm), (1, .int a1)]) hx hb dX10_right_28 rfl hl (by decide) rfl (fun ls hl => ?_)
        refine lv_lconst (v := 0) hx hb dX10_right_29 (by decide) ?_
        refine lv_lstore (lv' := [(4, .long 0), (2, .long 0), (0, .ref adm), (1, .int a1)]) hx hb dX10_right_30 hl (by decide) rfl (fun ls hl => ?_)
        refine lv_iconst (v := 0) hx hb dX10_right_32 (by decide) ?_
        refine lv_istore (lv' := [(6, .int 0), (4, .long 0), (2, .long 0), (0, .ref adm), (1, .int a1)]) hx hb dX10_right_33 hl (by decide) rfl (fun ls hl => ?_)
        have B35 : ∀ (n : Nat) (x35_2 : Int64) (x35_4 : Int64) (x35_6 : Int32) (H : Heap) (locs : List Loc) (ls : Array Slot), (6 - x35_6.toInt).toNat < n → (0 : Int) ≤ x35_6.toInt ∧ x35_6.toInt ≤ 6 → va_P G vwCl ((uX10 cs adm qm Fm Am Bm Dm) ++ ((uX8 cs (qm 3) qms Fms Ams Bms Dms) ++ ((uX3 cs (qms 0) qmh Fmh Amh Bmh Dmh) ++ (uX4 cs (qm 10) qme Fme Ame Bme Dme)))) H → va_S (fun q => s.heap.size ≤ q) s.heap H locs → lv_has ls 7 [(0, .ref adm), (1, .int a1), (2, .long x35_2), (4, .long x35_4), (6, .int x35_6)] → W p l e (rmk 4 0 0) s m args below meth c H locs 0 0 (MQ below (QRl (fun r : Int64 => True) s.heap.size) args s 0 0 (fun q => s.heap.size ≤ q)) (F0 m 35 ls []) := by
          intro n
          induction n with
          | zero => intro x35_2 x35_4 x35_6 H locs ls hmeas hx35_6 hP hS hl; exact absurd hmeas (Nat.not_lt_zero _)
          | succ n ih35 =>
            intro x35_2 x35_4 x35_6 H locs ls hmeas hx35_6 hP hS hl
            refine lv_iload hx hb dX10_right_35 (lv_at hl 4 rfl) ?_
            refine lv_aload_n hx hb dX10_right_37 rfl (lv_at hl 0 rfl) ?_
            refine getF (v := .ref (qm 3)) hx hb ht hown hK hP iTX10 0 3 rfl rfl (by decide) fl_RX10_31 rfl dX10_right_38 ?_
            refine getF (v := .ref (qms 0)) hx hb ht hown hK hP iTX8 3 0 rfl rfl (by decide) fl_RX10_98 rfl dX10_right_41 ?_
            refine getF (v := .int (Fmh 6)) hx hb ht hown hK hP iTX3 5 6 rfl rfl (by decide) fl_RX10_283 rfl dX10_right_44 ?_
            have zf18001 : (0 : Int) ≤ (Fmh 6).toInt ∧ (Fmh 6).toInt ≤ 6 := hImh.1 6
            refine lv_icmp_ge (tgt := 98) hx hb dX10_right_47 (by decide) (fun c18002 => ?_) (fun c18002 => ?_)
            · have zc18002 := leK rfl rfl c18002
              refine lv_aload_n hx hb dX10_right_98 rfl (lv_at hl 0 rfl) ?_
              refine getF (v := .ref (qm 10)) hx hb ht hown hK hP iTX10 0 10 rfl rfl (by decide) fl_RX10_72 rfl dX10_right_99 ?_
              refine lv_lload_n hx hb dX10_right_102 rfl (lv_at hl 2 rfl) ?_
              refine lv_lload hx hb dX10_right_103 (lv_at hl 3 rfl) ?_
              refine lv_iload_n hx hb dX10_right_105 rfl (lv_at hl 1 rfl) ?_
              refine behRL (runVP (As := [.long x35_2, .long x35_4, .int a1]) (rest := []) ⟨hx, hb, hml, hown, ht⟩ (sX4_lowest l G cs (qm 10) qme Fme Ame Bme Dme hIme x35_2 x35_4 a1 ) okV_RX10_285 ⟨by decide, by decide⟩ hK hP [13, 14] rfl 13 rfl rfl hl.1 rfl (Nat.le_of_ble_eq_true rfl) dX10_right_106 ⟨by decide, by decide⟩) hP hS (fun _ h => h) (fun r18003 H locs hr18003 hP hS => ?_)
              exact retRl hx hb hr hlk hS dX10_right_109 (trivial)
            · have zc18002 := nleK rfl rfl c18002
              refine lv_lload_n hx hb dX10_right_50 rfl (lv_at hl 2 rfl) ?_
              refine lv_aload_n hx hb dX10_right_51 rfl (lv_at hl 0 rfl) ?_
              refine getF (v := .ref (qm 10)) hx hb ht hown hK hP iTX10 0 10 rfl rfl (by decide) fl_RX10_72 rfl dX10_right_52 ?_
              refine lv_aload_n hx hb dX10_right_55 rfl (lv_at hl 0 rfl) ?_
              refine getF (v := .ref (qm 3)) hx hb ht hown hK hP iTX10 0 3 rfl rfl (by decide) fl_RX10_31 rfl dX10_right_56 ?_
              refine getF (v := .ref (qms 0)) hx hb ht hown hK hP iTX8 3 0 rfl rfl (by decide) fl_RX10_98 rfl dX10_right_59 ?_
              refine lv_iload hx hb dX10_right_62 (lv_at hl 4 rfl) ?_
              refine lv_iload hx hb dX10_right_64 (lv_at hl 4 rfl) ?_
              refine behRL (runVP (As := [.ref (qms 0), .int x35_6, .int x35_6]) (rest := [.long x35_2]) ⟨hx, hb, hml, hown, ht⟩ (sX4_share l G cs (qm 10) qme Fme Ame Bme Dme hIme (qms 0) qmh Fmh Amh Bmh Dmh hImh x35_6 x35_6 (by omega) (by omega)) okV_RX10_291 ⟨by decide, by decide⟩ hK hP [13, 14, 5, 6, 7, 8, 9, 10, 11, 12] rfl 13 rfl rfl hl.1 rfl (Nat.le_of_ble_eq_true rfl) dX10_right_66 ⟨by decide, by decide⟩) hP hS (fun _ h => h) (fun r18004 H locs hr18004 hP hS => ?_)
              refine lv_ladd hx hb dX10_right_69 ?_
              refine lv_topl (fun v18005 ev18005 => ?_)
              refine lv_lstore_n (lv' := [(2, .long v18005), (0, .ref adm), (1, .int a1), (4, .long x35_4), (6, .int x35_6)]) hx hb dX10_right_70 rfl hl (by decide) rfl (fun ls hl => ?_)
              refine lv_lload hx hb dX10_right_71 (lv_at hl 3 rfl) ?_
              refine lv_aload_n hx hb dX10_right_73 rfl (lv_at hl 1 rfl) ?_
              refine getF (v := .ref (qm 10)) hx hb ht hown hK hP iTX10 0 10 rfl rfl (by decide) fl_RX10_72 rfl dX10_right_74 ?_
              refine lv_aload_n hx hb dX10_right_77 rfl (lv_at hl 1 rfl) ?_
              refine getF (v := .ref (qm 3)) hx hb ht hown hK hP iTX10 0 3 rfl rfl (by decide) fl_RX10_31 rfl dX10_right_78 ?_
              refine getF (v := .ref (qms 0)) hx hb ht hown hK hP iTX8 3 0 rfl rfl (by decide) fl_RX10_98 rfl dX10_right_81 ?_
              refine lv_iload hx hb dX10_right_84 (lv_at hl 4 rfl) ?_
              refine behRL (runVP (As := [.ref (qms 0), .int x35_6]) (rest := [.long x35_4]) ⟨hx, hb, hml, hown, ht⟩ (sX4_allRead l G cs (qm 10) qme Fme Ame Bme Dme hIme (qms 0) qmh Fmh Amh Bmh Dmh hImh x35_6 (by omega)) okV_RX10_295 ⟨by decide, by decide⟩ hK hP [13, 14, 5, 6, 7, 8, 9, 10, 11, 12] rfl 13 rfl rfl hl.1 rfl (Nat.le_of_ble_eq_true rfl) dX10_right_86 ⟨by decide, by decide⟩) hP hS (fun _ h => h) (fun r18006 H locs hr18006 hP hS => ?_)
              refine lv_ladd hx hb dX10_right_89 ?_
              refine lv_topl (fun v18007 ev18007 => ?_)
              refine lv_lstore (lv' := [(4, .long v18007), (2, .long v18005), (0, .ref adm), (1, .int a1), (6, .int x35_6)]) hx hb dX10_right_90 hl (by decide) rfl (fun ls hl => ?_)
              obtain ⟨v18008, ev18008⟩ : ∃ z : Int32, z = x35_6 + 1 := ⟨_, rfl⟩
              have tv18008 : v18008.toInt = x35_6.toInt + 1 := by rw [ev18008]; exact addT rfl (by decide) (by omega)
              refine lv_iinc (v := v18008) (lv' := [(6, .int v18008), (4, .long v18007), (2, .long v18005), (0, .ref adm), (1, .int a1)]) hx hb dX10_right_92 hl (k := 4) rfl (by rw [ev18008]; rfl) (by decide) rfl (fun ls hl => ?_)
              refine lv_goto (tgt := 35) hx hb dX10_right_95 (by decide) ?_
              exact ih35 v18005 v18007 v18008 H locs ls (by omega) (by omega) hP hS (lv_sub hl [3, 4, 2, 1, 0] rfl)
        exact B35 _ 0 0 0 s.heap [] ls (Nat.lt_succ_self _) (by decide) hP hS (lv_sub hl [3, 4, 2, 1, 0] rfl)
      · have zc4 := nleK rfl (show (1 : Int32).toInt = 1 by decide) c4
        refine lv_ldc2 hx hb hown (ht _ kl_RX10_289) dX10_right_23 ?_
        exact retRl hx hb hr hlk hS dX10_right_26 (trivial)

set_option maxRecDepth 100000 in
set_option maxHeartbeats 16000000 in
theorem sX10_tell_0 (l : Launch) (G : va_G) (cs : Nat → ClassId) (adm : Nat) (qm : Nat → Nat) (Fm : Nat → Int32) (Am : Nat → Nat → Int32) (Bm : Nat → Nat → Int64) (Dm : Int64) (hIm : IX10 Fm Am) (qms : Nat → Nat) (Fms : Nat → Int32) (Ams : Nat → Nat → Int32) (Bms : Nat → Nat → Int64) (Dms : Int64) (hIms : IX8 Fms Ams) (qmh : Nat → Nat) (Fmh : Nat → Int32) (Amh : Nat → Nat → Int32) (Bmh : Nat → Nat → Int64) (Dmh : Int64) (hImh : IX3 Fmh Amh) (qmn : Nat → Nat) (Fmn : Nat → Int32) (Amn : Nat → Nat → Int32) (Bmn : Nat → Nat → Int64) (Dmn : Int64) (hImn : IX5 Fmn Amn) (a1 : Int32) (a3 : Int32) : ∀ sz : Nat, Met l yX10_tell (wk yX10_tell cX10_tell 6 (some .int)) (rmk 5 0 0) (PreD G (TY cs) [.ref adm, .int a1, .int 0, .int a3] ((uX10 cs adm qm Fm Am Bm Dm) ++ ((uX8 cs (qm 3) qms Fms Ams Bms Dms) ++ ((uX3 cs (qms 0) qmh Fmh Amh Bmh Dmh) ++ (uX5 cs (qm 6) qmn Fmn Amn Bmn Dmn)))) sz) ((QDi G (fun (r : Int32) (u : Int32 × Int32 × (Nat → Int32) × (Nat → Int32) × (Nat → Int32)) => True) (fun u : Int32 × Int32 × (Nat → Int32) × (Nat → Int32) × (Nat → Int32) => ((uX10 cs adm qm Fm Am Bm Dm) ++ ((uX8 cs (qm 3) qms Fms Ams Bms Dms) ++ ((wX3 cs (qms 0) qmh Fmh (vA Amh 7 u.2.2.1) Bmh Dmh) ++ (wX5 cs (qm 6) qmn (upd (upd Fmn 2 u.1) 3 u.2.1) (vA (vA Amn 0 u.2.2.2.1) 1 u.2.2.2.2) Bmn Dmn)))))) (va_A ((uX10 cs adm qm Fm Am Bm Dm) ++ ((uX8 cs (qm 3) qms Fms Ams Bms Dms) ++ ((uX3 cs (qms 0) qmh Fmh Amh Bmh Dmh) ++ (uX5 cs (qm 6) qmn Fmn Amn Bmn Dmn)))) sz)) 0 0 (va_A ((uX10 cs adm qm Fm Am Bm Dm) ++ ((uX8 cs (qm 3) qms Fms Ams Bms Dms) ++ ((uX3 cs (qms 0) qmh Fmh Amh Bmh Dmh) ++ (uX5 cs (qm 6) qmn Fmn Amn Bmn Dmn)))) sz) := by
  refine mkD (Qc := (QDi G (fun (r : Int32) (u : Int32 × Int32 × (Nat → Int32) × (Nat → Int32) × (Nat → Int32)) => True) (fun u : Int32 × Int32 × (Nat → Int32) × (Nat → Int32) × (Nat → Int32) => ((uX10 cs adm qm Fm Am Bm Dm) ++ ((uX8 cs (qm 3) qms Fms Ams Bms Dms) ++ ((wX3 cs (qms 0) qmh Fmh (vA Amh 7 u.2.2.1) Bmh Dmh) ++ (wX5 cs (qm 6) qmn (upd (upd Fmn 2 u.1) 3 u.2.1) (vA (vA Amn 0 u.2.2.2.1) 1 u.2.2.2.2) Bmn Dmn))))))) (by decide) (by simp [lg_sl, Value.category]) ?_
  intro p e s m args below meth c ls A0 hx hb hml hr hlk hown hmn ht hK hP hD hS hA hl
  have hl : lv_has ls 6 [(0, .ref adm), (1, .int a1), (2, .int 0), (3, .int a3)] := hl
  refine lv_aload_n hx hb dX10_tell_0 rfl (lv_at hl 0 rfl) ?_
  refine lv_iload_n hx hb dX10_tell_1 rfl (lv_at hl 1 rfl) ?_
  refine behR (runVP (As := [.int a1]) (rest := []) ⟨hx, hb, hml, hown, ht⟩ (sX10_isRoom l G cs adm qm Fm Am Bm Dm hIm qms Fms Ams Bms Dms hIms qmh Fmh Amh Bmh Dmh hImh a1 ) okV_RX10_120 ⟨by decide, by decide⟩ hK hP [0, 1, 2, 3, 4, 5, 6, 7, 8, 9, 10, 11, 12] rfl 0 rfl rfl hl.1 rfl (Nat.le_of_ble_eq_true rfl) dX10_tell_2 ⟨by decide, by decide⟩) hP hS hA (fun r1 H locs hr1 hP hS => ?_)
  have hr1 : (r1.toInt = 1 ∧ 0 ≤ a1.toInt ∧ a1.toInt < (Fmh 5).toInt ∧ a1.toInt ≤ 6) ∨ r1.toInt = 0 := hr1
  refine lv_if_eq (tgt := 29) hx hb dX10_tell_5 (by decide) (fun c2 => ?_) (fun c2 => ?_)
  · have zc2 := eqK rfl (show (0 : Int32).toInt = 0 by decide) c2
    refine lv_bipush (v := (-2)) hx hb dX10_tell_29 (by decide) ?_
    exact retDi ((Fmn 2), (Fmn 3), (Amh 7), (Amn 0), (Amn 1)) hx hb hr hlk hP hD hS dX10_tell_31 (trivial) (Nat.le_of_ble_eq_true rfl) (Nat.le_of_ble_eq_true rfl)
  · have zc2 := neK rfl (show (0 : Int32).toInt = 0 by decide) c2
    refine lv_iload_n hx hb dX10_tell_8 rfl (lv_at hl 2 rfl) ?_
    refine lv_if_lt (tgt := 29) hx hb dX10_tell_9 (by decide) (fun c3 => False.elim (by revert c3; decide)) (fun c3 => ?_)
    refine lv_iload_n hx hb dX10_tell_12 rfl (lv_at hl 2 rfl) ?_
    refine lv_iconst (v := 2) hx hb dX10_tell_13 (by decide) ?_
    refine lv_icmp_gt (tgt := 29) hx hb dX10_tell_14 (by decide) (fun c4 => False.elim (by revert c4; decide)) (fun c4 => ?_)
    refine lv_iload_n hx hb dX10_tell_17 rfl (lv_at hl 3 rfl) ?_
    refine lv_if_lt (tgt := 29) hx hb dX10_tell_18 (by decide) (fun c5 => ?_) (fun c5 => ?_)
    · have zc5 := ltK rfl (show (0 : Int32).toInt = 0 by decide) c5
      refine lv_bipush (v := (-2)) hx hb dX10_tell_29 (by decide) ?_
      exact retDi ((Fmn 2), (Fmn 3), (Amh 7), (Amn 0), (Amn 1)) hx hb hr hlk hP hD hS dX10_tell_31 (trivial) (Nat.le_of_ble_eq_true rfl) (Nat.le_of_ble_eq_true rfl)
    · have zc5 := nltK rfl (show (0 : Int32).toInt = 0 by decide) c5
      refine lv_iload_n hx hb dX10_tell_21 rfl (lv_at hl 3 rfl) ?_
      refine lv_iload_n hx hb dX10_tell_22 rfl (lv_at hl 2 rfl) ?_
      refine behR (runTP (As := [.int 0]) (rest := [.int a3]) ⟨hx, hb, hml, hown, ht⟩ (sX3_limit l G cs 0 ) okT_RX10_321 ⟨by decide, by decide⟩ hK hP [] rfl hl.1 rfl (Nat.le_of_ble_eq_true rfl) dX10_tell_23 ⟨by decide, by decide⟩) hP hS hA (fun r6 H locs hr6 hP hS => ?_)
      refine lv_icmp_le (tgt := 32) hx hb dX10_tell_26 (by decide) (fun c7 => ?_) (fun c7 => ?_)
      · have zc7 := leK rfl rfl c7
        refine lv_aload_n hx hb dX10_tell_32 rfl (lv_at hl 0 rfl) ?_
        refine getF (v := .ref (qm 3)) hx hb ht hown hK hP iTX10 0 3 rfl rfl (by decide) fl_RX10_31 rfl dX10_tell_33 ?_
        refine getF (v := .int (Fms 2)) hx hb ht hown hK hP iTX8 3 2 rfl rfl (by decide) fl_RX10_105 rfl dX10_tell_36 ?_
        have zf8 : (0 : Int) ≤ (Fms 2).toInt ∧ (Fms 2).toInt ≤ 60 := hIms.1 2
        refine lv_if_le (tgt := 45) hx hb dX10_tell_39 (by decide) (fun c9 => ?_) (fun c9 => ?_)
        · have zc9 := leK rfl (show (0 : Int32).toInt = 0 by decide) c9
          refine lv_aload_n hx hb dX10_tell_45 rfl (lv_at hl 0 rfl) ?_
          refine getF (v := .ref (qm 3)) hx hb ht hown hK hP iTX10 0 3 rfl rfl (by decide) fl_RX10_31 rfl dX10_tell_46 ?_
          refine getF (v := .ref (qms 0)) hx hb ht hown hK hP iTX8 3 0 rfl rfl (by decide) fl_RX10_98 rfl dX10_tell_49 ?_
          refine lv_iload_n hx hb dX10_tell_52 rfl (lv_at hl 2 rfl) ?_
          refine behRr (runVP (As := [.int 0]) (rest := []) ⟨hx, hb, hml, hown, ht⟩ (sX3_column_0 l G cs (qms 0) qmh Fmh Amh Bmh Dmh hImh ) okV_RX10_124 ⟨by decide, by decide⟩ hK hP [5, 6, 7, 8, 9, 10, 11, 12] rfl 5 rfl rfl hl.1 rfl (Nat.le_of_ble_eq_true rfl) dX10_tell_53 ⟨by decide, by decide⟩) hP hS hA (fun H locs hP hS => ?_)
          refine lv_astore (lv' := [(4, .ref (qmh 7)), (0, .ref adm), (1, .int a1), (2, .int 0), (3, .int a3)]) hx hb dX10_tell_56 hl (by decide) rfl (fun ls hl => ?_)
          refine lv_aload hx hb dX10_tell_58 (lv_at hl 0 rfl) ?_
          refine lv_iload_n hx hb dX10_tell_60 rfl (lv_at hl 2 rfl) ?_
          refine va_iald hx hb hK.1 hP 6 0 rfl rfl (inK rfl (by omega) (by decide)) dX10_tell_61 ?_
          refine lv_topi (fun v10 ev10 => ?_)
          refine lv_istore (lv' := [(5, .int v10), (4, .ref (qmh 7)), (0, .ref adm), (1, .int a1), (2, .int 0), (3, .int a3)]) hx hb dX10_tell_62 hl (by decide) rfl (fun ls hl => ?_)
          refine lv_aload hx hb dX10_tell_64 (lv_at hl 1 rfl) ?_
          refine lv_iload_n hx hb dX10_tell_66 rfl (lv_at hl 3 rfl) ?_
          refine lv_iload_n hx hb dX10_tell_67 rfl (lv_at hl 5 rfl) ?_
          refine va_iast hx hb hK.1 hP hD hS 6 0 rfl rfl (inK rfl (by omega) (by decide)) dX10_tell_68 (fun H locs hP hD hS => ?_)
          obtain ⟨g11, hP, hD⟩ : ∃ g11 : Nat → Int32, va_P G vwCl ((uX10 cs adm qm Fm Am Bm Dm) ++ ((uX8 cs (qm 3) qms Fms Ams Bms Dms) ++ ((uX3 cs (qms 0) qmh Fmh (vB 7 g11 Amh) Bmh Dmh) ++ (uX5 cs (qm 6) qmn Fmn Amn Bmn Dmn)))) H ∧ va_D A0 ((uX10 cs adm qm Fm Am Bm Dm) ++ ((uX8 cs (qm 3) qms Fms Ams Bms Dms) ++ ((uX3 cs (qms 0) qmh Fmh (vB 7 g11 Amh) Bmh Dmh) ++ (uX5 cs (qm 6) qmn Fmn Amn Bmn Dmn)))) := ⟨upd (Amh 7) a1.toNatClampNeg a3, hP, hD⟩
          refine lv_aload_n hx hb dX10_tell_69 rfl (lv_at hl 2 rfl) ?_
          refine behDw (wr := ([] : va_W)) (runVD (As := []) (rest := []) ⟨hx, hb, hml, hown, ht⟩ (sX10_replay l G cs adm qm Fm Am Bm Dm hIm qms Fms Ams Bms Dms hIms qmh Fmh (vB 7 g11 Amh) Bmh Dmh (IB_av (k := 7) hImh (AJ_full _)) qmn Fmn Amn Bmn Dmn hImn ) okV_RX10_108 ⟨by decide, by decide⟩ hK hP hD [0, 1, 2, 3, 4, 5, 6, 7, 8, 9, 10, 11, 12, 13, 14, 15] rfl (by decide) rfl 0 rfl rfl hl.1 rfl (Nat.le_of_ble_eq_true rfl) dX10_tell_70 ⟨(Nat.le_of_ble_eq_true rfl), (Nat.le_of_ble_eq_true rfl)⟩) hP hD hS hA [0, 1, 2, 3, 4, 5, 6, 7, 8, 9, 10, 11, 12, 13, 14, 15] [] rfl rfl (by decide) (by decide) (fun u H locs hu hP hD hS => ?_)
          obtain ⟨x12, x13, g14, g15⟩ := u
          have hr16 := hu
          have hP : va_P G vwCl ((uX10 cs adm qm Fm Am Bm Dm) ++ ((uX8 cs (qm 3) qms Fms Ams Bms Dms) ++ ((uX3 cs (qms 0) qmh Fmh (vB 7 g11 Amh) Bmh Dmh) ++ (uX5 cs (qm 6) qmn (upv 3 x13 (upv 2 x12 Fmn)) (vB 1 g15 (vB 0 g14 Amn)) Bmn Dmn)))) H := hP.sub [0, 1, 2, 3, 4, 5, 6, 7, 8, 9, 10, 11, 12, 13, 14, 15] rfl
          have hD : va_D A0 ((uX10 cs adm qm Fm Am Bm Dm) ++ ((uX8 cs (qm 3) qms Fms Ams Bms Dms) ++ ((uX3 cs (qms 0) qmh Fmh (vB 7 g11 Amh) Bmh Dmh) ++ (uX5 cs (qm 6) qmn (upv 3 x13 (upv 2 x12 Fmn)) (vB 1 g15 (vB 0 g14 Amn)) Bmn Dmn)))) := hD.sub [0, 1, 2, 3, 4, 5, 6, 7, 8, 9, 10, 11, 12, 13, 14, 15] (by decide) rfl
          refine lv_iload hx hb dX10_tell_73 (lv_at hl 0 rfl) ?_
          exact retDi (x12, x13, g11, g14, g15) hx hb hr hlk hP hD hS dX10_tell_75 (trivial) (Nat.le_of_ble_eq_true rfl) (Nat.le_of_ble_eq_true rfl)
        · have zc9 := nleK rfl (show (0 : Int32).toInt = 0 by decide) c9
          refine lv_bipush (v := (-5)) hx hb dX10_tell_42 (by decide) ?_
          exact retDi ((Fmn 2), (Fmn 3), (Amh 7), (Amn 0), (Amn 1)) hx hb hr hlk hP hD hS dX10_tell_44 (trivial) (Nat.le_of_ble_eq_true rfl) (Nat.le_of_ble_eq_true rfl)
      · have zc7 := nleK rfl rfl c7
        refine lv_bipush (v := (-2)) hx hb dX10_tell_29 (by decide) ?_
        exact retDi ((Fmn 2), (Fmn 3), (Amh 7), (Amn 0), (Amn 1)) hx hb hr hlk hP hD hS dX10_tell_31 (trivial) (Nat.le_of_ble_eq_true rfl) (Nat.le_of_ble_eq_true rfl)

set_option maxRecDepth 100000 in
set_option maxHeartbeats 16000000 in
theorem sX10_tell_1 (l : Launch) (G : va_G) (cs : Nat → ClassId) (adm : Nat) (qm : Nat → Nat) (Fm : Nat → Int32) (Am : Nat → Nat → Int32) (Bm : Nat → Nat → Int64) (Dm : Int64) (hIm : IX10 Fm Am) (qms : Nat → Nat) (Fms : Nat → Int32) (Ams : Nat → Nat → Int32) (Bms : Nat → Nat → Int64) (Dms : Int64) (hIms : IX8 Fms Ams) (qmh : Nat → Nat) (Fmh : Nat → Int32) (Amh : Nat → Nat → Int32) (Bmh : Nat → Nat → Int64) (Dmh : Int64) (hImh : IX3 Fmh Amh) (qmn : Nat → Nat) (Fmn : Nat → Int32) (Amn : Nat → Nat → Int32) (Bmn : Nat → Nat → Int64) (Dmn : Int64) (hImn : IX5 Fmn Amn) (a1 : Int32) (a3 : Int32) : ∀ sz : Nat, Met l yX10_tell (wk yX10_tell cX10_tell 6 (some .int)) (rmk 5 0 0) (PreD G (TY cs) [.ref adm, .int a1, .int 1, .int a3] ((uX10 cs adm qm Fm Am Bm Dm) ++ ((uX8 cs (qm 3) qms Fms Ams Bms Dms) ++ ((uX3 cs (qms 0) qmh Fmh Amh Bmh Dmh) ++ (uX5 cs (qm 6) qmn Fmn Amn Bmn Dmn)))) sz) ((QDi G (fun (r : Int32) (u : Int32 × Int32 × (Nat → Int32) × (Nat → Int32) × (Nat → Int32)) => True) (fun u : Int32 × Int32 × (Nat → Int32) × (Nat → Int32) × (Nat → Int32) => ((uX10 cs adm qm Fm Am Bm Dm) ++ ((uX8 cs (qm 3) qms Fms Ams Bms Dms) ++ ((wX3 cs (qms 0) qmh Fmh (vA Amh 8 u.2.2.1) Bmh Dmh) ++ (wX5 cs (qm 6) qmn (upd (upd Fmn 2 u.1) 3 u.2.1) (vA (vA Amn 0 u.2.2.2.1) 1 u.2.2.2.2) Bmn Dmn)))))) (va_A ((uX10 cs adm qm Fm Am Bm Dm) ++ ((uX8 cs (qm 3) qms Fms Ams Bms Dms) ++ ((uX3 cs (qms 0) qmh Fmh Amh Bmh Dmh) ++ (uX5 cs (qm 6) qmn Fmn Amn Bmn Dmn)))) sz)) 0 0 (va_A ((uX10 cs adm qm Fm Am Bm Dm) ++ ((uX8 cs (qm 3) qms Fms Ams Bms Dms) ++ ((uX3 cs (qms 0) qmh Fmh Amh Bmh Dmh) ++ (uX5 cs (qm 6) qmn Fmn Amn Bmn Dmn)))) sz) := by
  refine mkD (Qc := (QDi G (fun (r : Int32) (u : Int32 × Int32 × (Nat → Int32) × (Nat → Int32) × (Nat → Int32)) => True) (fun u : Int32 × Int32 × (Nat → Int32) × (Nat → Int32) × (Nat → Int32) => ((uX10 cs adm qm Fm Am Bm Dm) ++ ((uX8 cs (qm 3) qms Fms Ams Bms Dms) ++ ((wX3 cs (qms 0) qmh Fmh (vA Amh 8 u.2.2.1) Bmh Dmh) ++ (wX5 cs (qm 6) qmn (upd (upd Fmn 2 u.1) 3 u.2.1) (vA (vA Amn 0 u.2.2.2.1) 1 u.2.2.2.2) Bmn Dmn))))))) (by decide) (by simp [lg_sl, Value.category]) ?_
  intro p e s m args below meth c ls A0 hx hb hml hr hlk hown hmn ht hK hP hD hS hA hl
  have hl : lv_has ls 6 [(0, .ref adm), (1, .int a1), (2, .int 1), (3, .int a3)] := hl
  refine lv_aload_n hx hb dX10_tell_0 rfl (lv_at hl 0 rfl) ?_
  refine lv_iload_n hx hb dX10_tell_1 rfl (lv_at hl 1 rfl) ?_
  refine behR (runVP (As := [.int a1]) (rest := []) ⟨hx, hb, hml, hown, ht⟩ (sX10_isRoom l G cs adm qm Fm Am Bm Dm hIm qms Fms Ams Bms Dms hIms qmh Fmh Amh Bmh Dmh hImh a1 ) okV_RX10_120 ⟨by decide, by decide⟩ hK hP [0, 1, 2, 3, 4, 5, 6, 7, 8, 9, 10, 11, 12] rfl 0 rfl rfl hl.1 rfl (Nat.le_of_ble_eq_true rfl) dX10_tell_2 ⟨by decide, by decide⟩) hP hS hA (fun r1 H locs hr1 hP hS => ?_)
  have hr1 : (r1.toInt = 1 ∧ 0 ≤ a1.toInt ∧ a1.toInt < (Fmh 5).toInt ∧ a1.toInt ≤ 6) ∨ r1.toInt = 0 := hr1
  refine lv_if_eq (tgt := 29) hx hb dX10_tell_5 (by decide) (fun c2 => ?_) (fun c2 => ?_)
  · have zc2 := eqK rfl (show (0 : Int32).toInt = 0 by decide) c2
    refine lv_bipush (v := (-2)) hx hb dX10_tell_29 (by decide) ?_
    exact retDi ((Fmn 2), (Fmn 3), (Amh 8), (Amn 0), (Amn 1)) hx hb hr hlk hP hD hS dX10_tell_31 (trivial) (Nat.le_of_ble_eq_true rfl) (Nat.le_of_ble_eq_true rfl)
  · have zc2 := neK rfl (show (0 : Int32).toInt = 0 by decide) c2
    refine lv_iload_n hx hb dX10_tell_8 rfl (lv_at hl 2 rfl) ?_
    refine lv_if_lt (tgt := 29) hx hb dX10_tell_9 (by decide) (fun c3 => False.elim (by revert c3; decide)) (fun c3 => ?_)
    refine lv_iload_n hx hb dX10_tell_12 rfl (lv_at hl 2 rfl) ?_
    refine lv_iconst (v := 2) hx hb dX10_tell_13 (by decide) ?_
    refine lv_icmp_gt (tgt := 29) hx hb dX10_tell_14 (by decide) (fun c4 => False.elim (by revert c4; decide)) (fun c4 => ?_)
    refine lv_iload_n hx hb dX10_tell_17 rfl (lv_at hl 3 rfl) ?_
    refine lv_if_lt (tgt := 29) hx hb dX10_tell_18 (by decide) (fun c5 => ?_) (fun c5 => ?_)
    · have zc5 := ltK rfl (show (0 : Int32).toInt = 0 by decide) c5
      refine lv_bipush (v := (-2)) hx hb dX10_tell_29 (by decide) ?_
      exact retDi ((Fmn 2), (Fmn 3), (Amh 8), (Amn 0), (Amn 1)) hx hb hr hlk hP hD hS dX10_tell_31 (trivial) (Nat.le_of_ble_eq_true rfl) (Nat.le_of_ble_eq_true rfl)
    · have zc5 := nltK rfl (show (0 : Int32).toInt = 0 by decide) c5
      refine lv_iload_n hx hb dX10_tell_21 rfl (lv_at hl 3 rfl) ?_
      refine lv_iload_n hx hb dX10_tell_22 rfl (lv_at hl 2 rfl) ?_
      refine behR (runTP (As := [.int 1]) (rest := [.int a3]) ⟨hx, hb, hml, hown, ht⟩ (sX3_limit l G cs 1 ) okT_RX10_321 ⟨by decide, by decide⟩ hK hP [] rfl hl.1 rfl (Nat.le_of_ble_eq_true rfl) dX10_tell_23 ⟨by decide, by decide⟩) hP hS hA (fun r6 H locs hr6 hP hS => ?_)
      refine lv_icmp_le (tgt := 32) hx hb dX10_tell_26 (by decide) (fun c7 => ?_) (fun c7 => ?_)
      · have zc7 := leK rfl rfl c7
        refine lv_aload_n hx hb dX10_tell_32 rfl (lv_at hl 0 rfl) ?_
        refine getF (v := .ref (qm 3)) hx hb ht hown hK hP iTX10 0 3 rfl rfl (by decide) fl_RX10_31 rfl dX10_tell_33 ?_
        refine getF (v := .int (Fms 2)) hx hb ht hown hK hP iTX8 3 2 rfl rfl (by decide) fl_RX10_105 rfl dX10_tell_36 ?_
        have zf8 : (0 : Int) ≤ (Fms 2).toInt ∧ (Fms 2).toInt ≤ 60 := hIms.1 2
        refine lv_if_le (tgt := 45) hx hb dX10_tell_39 (by decide) (fun c9 => ?_) (fun c9 => ?_)
        · have zc9 := leK rfl (show (0 : Int32).toInt = 0 by decide) c9
          refine lv_aload_n hx hb dX10_tell_45 rfl (lv_at hl 0 rfl) ?_
          refine getF (v := .ref (qm 3)) hx hb ht hown hK hP iTX10 0 3 rfl rfl (by decide) fl_RX10_31 rfl dX10_tell_46 ?_
          refine getF (v := .ref (qms 0)) hx hb ht hown hK hP iTX8 3 0 rfl rfl (by decide) fl_RX10_98 rfl dX10_tell_49 ?_
          refine lv_iload_n hx hb dX10_tell_52 rfl (lv_at hl 2 rfl) ?_
          refine behRr (runVP (As := [.int 1]) (rest := []) ⟨hx, hb, hml, hown, ht⟩ (sX3_column_1 l G cs (qms 0) qmh Fmh Amh Bmh Dmh hImh ) okV_RX10_124 ⟨by decide, by decide⟩ hK hP [5, 6, 7, 8, 9, 10, 11, 12] rfl 5 rfl rfl hl.1 rfl (Nat.le_of_ble_eq_true rfl) dX10_tell_53 ⟨by decide, by decide⟩) hP hS hA (fun H locs hP hS => ?_)
          refine lv_astore (lv' := [(4, .ref (qmh 8)), (0, .ref adm), (1, .int a1), (2, .int 1), (3, .int a3)]) hx hb dX10_tell_56 hl (by decide) rfl (fun ls hl => ?_)
          refine lv_aload hx hb dX10_tell_58 (lv_at hl 0 rfl) ?_
          refine lv_iload_n hx hb dX10_tell_60 rfl (lv_at hl 2 rfl) ?_
          refine va_iald hx hb hK.1 hP 7 0 rfl rfl (inK rfl (by omega) (by decide)) dX10_tell_61 ?_
          refine lv_topi (fun v10 ev10 => ?_)
          refine lv_istore (lv' := [(5, .int v10), (4, .ref (qmh 8)), (0, .ref adm), (1, .int a1), (2, .int 1), (3, .int a3)]) hx hb dX10_tell_62 hl (by decide) rfl (fun ls hl => ?_)
          refine lv_aload hx hb dX10_tell_64 (lv_at hl 1 rfl) ?_
          refine lv_iload_n hx hb dX10_tell_66 rfl (lv_at hl 3 rfl) ?_
          refine lv_iload_n hx hb dX10_tell_67 rfl (lv_at hl 5 rfl) ?_
          refine va_iast hx hb hK.1 hP hD hS 7 0 rfl rfl (inK rfl (by omega) (by decide)) dX10_tell_68 (fun H locs hP hD hS => ?_)
          obtain ⟨g11, hP, hD⟩ : ∃ g11 : Nat → Int32, va_P G vwCl ((uX10 cs adm qm Fm Am Bm Dm) ++ ((uX8 cs (qm 3) qms Fms Ams Bms Dms) ++ ((uX3 cs (qms 0) qmh Fmh (vB 8 g11 Amh) Bmh Dmh) ++ (uX5 cs (qm 6) qmn Fmn Amn Bmn Dmn)))) H ∧ va_D A0 ((uX10 cs adm qm Fm Am Bm Dm) ++ ((uX8 cs (qm 3) qms Fms Ams Bms Dms) ++ ((uX3 cs (qms 0) qmh Fmh (vB 8 g11 Amh) Bmh Dmh) ++ (uX5 cs (qm 6) qmn Fmn Amn Bmn Dmn)))) := ⟨upd (Amh 8) a1.toNatClampNeg a3, hP, hD⟩
          refine lv_aload_n hx hb dX10_tell_69 rfl (lv_at hl 2 rfl) ?_
          refine behDw (wr := ([] : va_W)) (runVD (As := []) (rest := []) ⟨hx, hb, hml, hown, ht⟩ (sX10_replay l G cs adm qm Fm Am Bm Dm hIm qms Fms Ams Bms Dms hIms qmh Fmh (vB 8 g11 Amh) Bmh Dmh (IB_av (k := 8) hImh (AJ_full _)) qmn Fmn Amn Bmn Dmn hImn ) okV_RX10_108 ⟨by decide, by decide⟩ hK hP hD [0, 1, 2, 3, 4, 5, 6, 7, 8, 9, 10, 11, 12, 13, 14, 15] rfl (by decide) rfl 0 rfl rfl hl.1 rfl (Nat.le_of_ble_eq_true rfl) dX10_tell_70 ⟨(Nat.le_of_ble_eq_true rfl), (Nat.le_of_ble_eq_true rfl)⟩) hP hD hS hA [0, 1, 2, 3, 4, 5, 6, 7, 8, 9, 10, 11, 12, 13, 14, 15] [] rfl rfl (by decide) (by decide) (fun u H locs hu hP hD hS => ?_)
          obtain ⟨x12, x13, g14, g15⟩ := u
          have hr16 := hu
          have hP : va_P G vwCl ((uX10 cs adm qm Fm Am Bm Dm) ++ ((uX8 cs (qm 3) qms Fms Ams Bms Dms) ++ ((uX3 cs (qms 0) qmh Fmh (vB 8 g11 Amh) Bmh Dmh) ++ (uX5 cs (qm 6) qmn (upv 3 x13 (upv 2 x12 Fmn)) (vB 1 g15 (vB 0 g14 Amn)) Bmn Dmn)))) H := hP.sub [0, 1, 2, 3, 4, 5, 6, 7, 8, 9, 10, 11, 12, 13, 14, 15] rfl
          have hD : va_D A0 ((uX10 cs adm qm Fm Am Bm Dm) ++ ((uX8 cs (qm 3) qms Fms Ams Bms Dms) ++ ((uX3 cs (qms 0) qmh Fmh (vB 8 g11 Amh) Bmh Dmh) ++ (uX5 cs (qm 6) qmn (upv 3 x13 (upv 2 x12 Fmn)) (vB 1 g15 (vB 0 g14 Amn)) Bmn Dmn)))) := hD.sub [0, 1, 2, 3, 4, 5, 6, 7, 8, 9, 10, 11, 12, 13, 14, 15] (by decide) rfl
          refine lv_iload hx hb dX10_tell_73 (lv_at hl 0 rfl) ?_
          exact retDi (x12, x13, g11, g14, g15) hx hb hr hlk hP hD hS dX10_tell_75 (trivial) (Nat.le_of_ble_eq_true rfl) (Nat.le_of_ble_eq_true rfl)
        · have zc9 := nleK rfl (show (0 : Int32).toInt = 0 by decide) c9
          refine lv_bipush (v := (-5)) hx hb dX10_tell_42 (by decide) ?_
          exact retDi ((Fmn 2), (Fmn 3), (Amh 8), (Amn 0), (Amn 1)) hx hb hr hlk hP hD hS dX10_tell_44 (trivial) (Nat.le_of_ble_eq_true rfl) (Nat.le_of_ble_eq_true rfl)
      · have zc7 := nleK rfl rfl c7
        refine lv_bipush (v := (-2)) hx hb dX10_tell_29 (by decide) ?_
        exact retDi ((Fmn 2), (Fmn 3), (Amh 8), (Amn 0), (Amn 1)) hx hb hr hlk hP hD hS dX10_tell_31 (trivial) (Nat.le_of_ble_eq_true rfl) (Nat.le_of_ble_eq_true rfl)

set_option maxRecDepth 100000 in
set_option maxHeartbeats 16000000 in
theorem sX10_tell_2 (l : Launch) (G : va_G) (cs : Nat → ClassId) (adm : Nat) (qm : Nat → Nat) (Fm : Nat → Int32) (Am : Nat → Nat → Int32) (Bm : Nat → Nat → Int64) (Dm : Int64) (hIm : IX10 Fm Am) (qms : Nat → Nat) (Fms : Nat → Int32) (Ams : Nat → Nat → Int32) (Bms : Nat → Nat → Int64) (Dms : Int64) (hIms : IX8 Fms Ams) (qmh : Nat → Nat) (Fmh : Nat → Int32) (Amh : Nat → Nat → Int32) (Bmh : Nat → Nat → Int64) (Dmh : Int64) (hImh : IX3 Fmh Amh) (qmn : Nat → Nat) (Fmn : Nat → Int32) (Amn : Nat → Nat → Int32) (Bmn : Nat → Nat → Int64) (Dmn : Int64) (hImn : IX5 Fmn Amn) (a1 : Int32) (a3 : Int32) : ∀ sz : Nat, Met l yX10_tell (wk yX10_tell cX10_tell 6 (some .int)) (rmk 5 0 0) (PreD G (TY cs) [.ref adm, .int a1, .int 2, .int a3] ((uX10 cs adm qm Fm Am Bm Dm) ++ ((uX8 cs (qm 3) qms Fms Ams Bms Dms) ++ ((uX3 cs (qms 0) qmh Fmh Amh Bmh Dmh) ++ (uX5 cs (qm 6) qmn Fmn Amn Bmn Dmn)))) sz) ((QDi G (fun (r : Int32) (u : Int32 × Int32 × (Nat → Int32) × (Nat → Int32) × (Nat → Int32)) => True) (fun u : Int32 × Int32 × (Nat → Int32) × (Nat → Int32) × (Nat → Int32) => ((uX10 cs adm qm Fm Am Bm Dm) ++ ((uX8 cs (qm 3) qms Fms Ams Bms Dms) ++ ((wX3 cs (qms 0) qmh Fmh (vA Amh 9 u.2.2.1) Bmh Dmh) ++ (wX5 cs (qm 6) qmn (upd (upd Fmn 2 u.1) 3 u.2.1) (vA (vA Amn 0 u.2.2.2.1) 1 u.2.2.2.2) Bmn Dmn)))))) (va_A ((uX10 cs adm qm Fm Am Bm Dm) ++ ((uX8 cs (qm 3) qms Fms Ams Bms Dms) ++ ((uX3 cs (qms 0) qmh Fmh Amh Bmh Dmh) ++ (uX5 cs (qm 6) qmn Fmn Amn Bmn Dmn)))) sz)) 0 0 (va_A ((uX10 cs adm qm Fm Am Bm Dm) ++ ((uX8 cs (qm 3) qms Fms Ams Bms Dms) ++ ((uX3 cs (qms 0) qmh Fmh Amh Bmh Dmh) ++ (uX5 cs (qm 6) qmn Fmn Amn Bmn Dmn)))) sz) := by
  refine mkD (Qc := (QDi G (fun (r : Int32) (u : Int32 × Int32 × (Nat → Int32) × (Nat → Int32) × (Nat → Int32)) => True) (fun u : Int32 × Int32 × (Nat → Int32) × (Nat → Int32) × (Nat → Int32) => ((uX10 cs adm qm Fm Am Bm Dm) ++ ((uX8 cs (qm 3) qms Fms Ams Bms Dms) ++ ((wX3 cs (qms 0) qmh Fmh (vA Amh 9 u.2.2.1) Bmh Dmh) ++ (wX5 cs (qm 6) qmn (upd (upd Fmn 2 u.1) 3 u.2.1) (vA (vA Amn 0 u.2.2.2.1) 1 u.2.2.2.2) Bmn Dmn))))))) (by decide) (by simp [lg_sl, Value.category]) ?_
  intro p e s m args below meth c ls A0 hx hb hml hr hlk hown hmn ht hK hP hD hS hA hl
  have hl : lv_has ls 6 [(0, .ref adm), (1, .int a1), (2, .int 2), (3, .int a3)] := hl
  refine lv_aload_n hx hb dX10_tell_0 rfl (lv_at hl 0 rfl) ?_
  refine lv_iload_n hx hb dX10_tell_1 rfl (lv_at hl 1 rfl) ?_
  refine behR (runVP (As := [.int a1]) (rest := []) ⟨hx, hb, hml, hown, ht⟩ (sX10_isRoom l G cs adm qm Fm Am Bm Dm hIm qms Fms Ams Bms Dms hIms qmh Fmh Amh Bmh Dmh hImh a1 ) okV_RX10_120 ⟨by decide, by decide⟩ hK hP [0, 1, 2, 3, 4, 5, 6, 7, 8, 9, 10, 11, 12] rfl 0 rfl rfl hl.1 rfl (Nat.le_of_ble_eq_true rfl) dX10_tell_2 ⟨by decide, by decide⟩) hP hS hA (fun r1 H locs hr1 hP hS => ?_)
  have hr1 : (r1.toInt = 1 ∧ 0 ≤ a1.toInt ∧ a1.toInt < (Fmh 5).toInt ∧ a1.toInt ≤ 6) ∨ r1.toInt = 0 := hr1
  refine lv_if_eq (tgt := 29) hx hb dX10_tell_5 (by decide) (fun c2 => ?_) (fun c2 => ?_)
  · have zc2 := eqK rfl (show (0 : Int32).toInt = 0 by decide) c2
    refine lv_bipush (v := (-2)) hx hb dX10_tell_29 (by decide) ?_
    exact retDi ((Fmn 2), (Fmn 3), (Amh 9), (Amn 0), (Amn 1)) hx hb hr hlk hP hD hS dX10_tell_31 (trivial) (Nat.le_of_ble_eq_true rfl) (Nat.le_of_ble_eq_true rfl)
  · have zc2 := neK rfl (show (0 : Int32).toInt = 0 by decide) c2
    refine lv_iload_n hx hb dX10_tell_8 rfl (lv_at hl 2 rfl) ?_
    refine lv_if_lt (tgt := 29) hx hb dX10_tell_9 (by decide) (fun c3 => False.elim (by revert c3; decide)) (fun c3 => ?_)
    refine lv_iload_n hx hb dX10_tell_12 rfl (lv_at hl 2 rfl) ?_
    refine lv_iconst (v := 2) hx hb dX10_tell_13 (by decide) ?_
    refine lv_icmp_gt (tgt := 29) hx hb dX10_tell_14 (by decide) (fun c4 => False.elim (by revert c4; decide)) (fun c4 => ?_)
    refine lv_iload_n hx hb dX10_tell_17 rfl (lv_at hl 3 rfl) ?_
    refine lv_if_lt (tgt := 29) hx hb dX10_tell_18 (by decide) (fun c5 => ?_) (fun c5 => ?_)
    · have zc5 := ltK rfl (show (0 : Int32).toInt = 0 by decide) c5
      refine lv_bipush (v := (-2)) hx hb dX10_tell_29 (by decide) ?_
      exact retDi ((Fmn 2), (Fmn 3), (Amh 9), (Amn 0), (Amn 1)) hx hb hr hlk hP hD hS dX10_tell_31 (trivial) (Nat.le_of_ble_eq_true rfl) (Nat.le_of_ble_eq_true rfl)
    · have zc5 := nltK rfl (show (0 : Int32).toInt = 0 by decide) c5
      refine lv_iload_n hx hb dX10_tell_21 rfl (lv_at hl 3 rfl) ?_
      refine lv_iload_n hx hb dX10_tell_22 rfl (lv_at hl 2 rfl) ?_
      refine behR (runTP (As := [.int 2]) (rest := [.int a3]) ⟨hx, hb, hml, hown, ht⟩ (sX3_limit l G cs 2 ) okT_RX10_321 ⟨by decide, by decide⟩ hK hP [] rfl hl.1 rfl (Nat.le_of_ble_eq_true rfl) dX10_tell_23 ⟨by decide, by decide⟩) hP hS hA (fun r6 H locs hr6 hP hS => ?_)
      refine lv_icmp_le (tgt := 32) hx hb dX10_tell_26 (by decide) (fun c7 => ?_) (fun c7 => ?_)
      · have zc7 := leK rfl rfl c7
        refine lv_aload_n hx hb dX10_tell_32 rfl (lv_at hl 0 rfl) ?_
        refine getF (v := .ref (qm 3)) hx hb ht hown hK hP iTX10 0 3 rfl rfl (by decide) fl_RX10_31 rfl dX10_tell_33 ?_
        refine getF (v := .int (Fms 2)) hx hb ht hown hK hP iTX8 3 2 rfl rfl (by decide) fl_RX10_105 rfl dX10_tell_36 ?_
        have zf8 : (0 : Int) ≤ (Fms 2).toInt ∧ (Fms 2).toInt ≤ 60 := hIms.1 2
        refine lv_if_le (tgt := 45) hx hb dX10_tell_39 (by decide) (fun c9 => ?_) (fun c9 => ?_)
        · have zc9 := leK rfl (show (0 : Int32).toInt = 0 by decide) c9
          refine lv_aload_n hx hb dX10_tell_45 rfl (lv_at hl 0 rfl) ?_
          refine getF (v := .ref (qm 3)) hx hb ht hown hK hP iTX10 0 3 rfl rfl (by decide) fl_RX10_31 rfl dX10_tell_46 ?_
          refine getF (v := .ref (qms 0)) hx hb ht hown hK hP iTX8 3 0 rfl rfl (by decide) fl_RX10_98 rfl dX10_tell_49 ?_
          refine lv_iload_n hx hb dX10_tell_52 rfl (lv_at hl 2 rfl) ?_
          refine behRr (runVP (As := [.int 2]) (rest := []) ⟨hx, hb, hml, hown, ht⟩ (sX3_column_2 l G cs (qms 0) qmh Fmh Amh Bmh Dmh hImh ) okV_RX10_124 ⟨by decide, by decide⟩ hK hP [5, 6, 7, 8, 9, 10, 11, 12] rfl 5 rfl rfl hl.1 rfl (Nat.le_of_ble_eq_true rfl) dX10_tell_53 ⟨by decide, by decide⟩) hP hS hA (fun H locs hP hS => ?_)
          refine lv_astore (lv' := [(4, .ref (qmh 9)), (0, .ref adm), (1, .int a1), (2, .int 2), (3, .int a3)]) hx hb dX10_tell_56 hl (by decide) rfl (fun ls hl => ?_)
          refine lv_aload hx hb dX10_tell_58 (lv_at hl 0 rfl) ?_
          refine lv_iload_n hx hb dX10_tell_60 rfl (lv_at hl 2 rfl) ?_
          refine va_iald hx hb hK.1 hP 8 0 rfl rfl (inK rfl (by omega) (by decide)) dX10_tell_61 ?_
          refine lv_topi (fun v10 ev10 => ?_)
          refine lv_istore (lv' := [(5, .int v10), (4, .ref (qmh 9)), (0, .ref adm), (1, .int a1), (2, .int 2), (3, .int a3)]) hx hb dX10_tell_62 hl (by decide) rfl (fun ls hl => ?_)
          refine lv_aload hx hb dX10_tell_64 (lv_at hl 1 rfl) ?_
          refine lv_iload_n hx hb dX10_tell_66 rfl (lv_at hl 3 rfl) ?_
          refine lv_iload_n hx hb dX10_tell_67 rfl (lv_at hl 5 rfl) ?_
          refine va_iast hx hb hK.1 hP hD hS 8 0 rfl rfl (inK rfl (by omega) (by decide)) dX10_tell_68 (fun H locs hP hD hS => ?_)
          obtain ⟨g11, hP, hD⟩ : ∃ g11 : Nat → Int32, va_P G vwCl ((uX10 cs adm qm Fm Am Bm Dm) ++ ((uX8 cs (qm 3) qms Fms Ams Bms Dms) ++ ((uX3 cs (qms 0) qmh Fmh (vB 9 g11 Amh) Bmh Dmh) ++ (uX5 cs (qm 6) qmn Fmn Amn Bmn Dmn)))) H ∧ va_D A0 ((uX10 cs adm qm Fm Am Bm Dm) ++ ((uX8 cs (qm 3) qms Fms Ams Bms Dms) ++ ((uX3 cs (qms 0) qmh Fmh (vB 9 g11 Amh) Bmh Dmh) ++ (uX5 cs (qm 6) qmn Fmn Amn Bmn Dmn)))) := ⟨upd (Amh 9) a1.toNatClampNeg a3, hP, hD⟩
          refine lv_aload_n hx hb dX10_tell_69 rfl (lv_at hl 2 rfl) ?_
          refine behDw (wr := ([] : va_W)) (runVD (As := []) (rest := []) ⟨hx, hb, hml, hown, ht⟩ (sX10_replay l G cs adm qm Fm Am Bm Dm hIm qms Fms Ams Bms Dms hIms qmh Fmh (vB 9 g11 Amh) Bmh Dmh (IB_av (k := 9) hImh (AJ_full _)) qmn Fmn Amn Bmn Dmn hImn ) okV_RX10_108 ⟨by decide, by decide⟩ hK hP hD [0, 1, 2, 3, 4, 5, 6, 7, 8, 9, 10, 11, 12, 13, 14, 15] rfl (by decide) rfl 0 rfl rfl hl.1 rfl (Nat.le_of_ble_eq_true rfl) dX10_tell_70 ⟨(Nat.le_of_ble_eq_true rfl), (Nat.le_of_ble_eq_true rfl)⟩) hP hD hS hA [0, 1, 2, 3, 4, 5, 6, 7, 8, 9, 10, 11, 12, 13, 14, 15] [] rfl rfl (by decide) (by decide) (fun u H locs hu hP hD hS => ?_)
          obtain ⟨x12, x13, g14, g15⟩ := u
          have hr16 := hu
          have hP : va_P G vwCl ((uX10 cs adm qm Fm Am Bm Dm) ++ ((uX8 cs (qm 3) qms Fms Ams Bms Dms) ++ ((uX3 cs (qms 0) qmh Fmh (vB 9 g11 Amh) Bmh Dmh) ++ (uX5 cs (qm 6) qmn (upv 3 x13 (upv 2 x12 Fmn)) (vB 1 g15 (vB 0 g14 Amn)) Bmn Dmn)))) H := hP.sub [0, 1, 2, 3, 4, 5, 6, 7, 8, 9, 10, 11, 12, 13, 14, 15] rfl
          have hD : va_D A0 ((uX10 cs adm qm Fm Am Bm Dm) ++ ((uX8 cs (qm 3) qms Fms Ams Bms Dms) ++ ((uX3 cs (qms 0) qmh Fmh (vB 9 g11 Amh) Bmh Dmh) ++ (uX5 cs (qm 6) qmn (upv 3 x13 (upv 2 x12 Fmn)) (vB 1 g15 (vB 0 g14 Amn)) Bmn Dmn)))) := hD.sub [0, 1, 2, 3, 4, 5, 6, 7, 8, 9, 10, 11, 12, 13, 14, 15] (by decide) rfl
          refine lv_iload hx hb dX10_tell_73 (lv_at hl 0 rfl) ?_
          exact retDi (x12, x13, g11, g14, g15) hx hb hr hlk hP hD hS dX10_tell_75 (trivial) (Nat.le_of_ble_eq_true rfl) (Nat.le_of_ble_eq_true rfl)
        · have zc9 := nleK rfl (show (0 : Int32).toInt = 0 by decide) c9
          refine lv_bipush (v := (-5)) hx hb dX10_tell_42 (by decide) ?_
          exact retDi ((Fmn 2), (Fmn 3), (Amh 9), (Amn 0), (Amn 1)) hx hb hr hlk hP hD hS dX10_tell_44 (trivial) (Nat.le_of_ble_eq_true rfl) (Nat.le_of_ble_eq_true rfl)
      · have zc7 := nleK rfl rfl c7
        refine lv_bipush (v := (-2)) hx hb dX10_tell_29 (by decide) ?_
        exact retDi ((Fmn 2), (Fmn 3), (Amh 9), (Amn 0), (Amn 1)) hx hb hr hlk hP hD hS dX10_tell_31 (trivial) (Nat.le_of_ble_eq_true rfl) (Nat.le_of_ble_eq_true rfl)

set_option maxRecDepth 100000 in
set_option maxHeartbeats 16000000 in
theorem sX10_tell_lo (l : Launch) (G : va_G) (cs : Nat → ClassId) (adm : Nat) (qm : Nat → Nat) (Fm : Nat → Int32) (Am : Nat → Nat → Int32) (Bm : Nat → Nat → Int64) (Dm : Int64) (hIm : IX10 Fm Am) (qms : Nat → Nat) (Fms : Nat → Int32) (Ams : Nat → Nat → Int32) (Bms : Nat → Nat → Int64) (Dms : Int64) (hIms : IX8 Fms Ams) (qmh : Nat → Nat) (Fmh : Nat → Int32) (Amh : Nat → Nat → Int32) (Bmh : Nat → Nat → Int64) (Dmh : Int64) (hImh : IX3 Fmh Amh) (qmn : Nat → Nat) (Fmn : Nat → Int32) (Amn : Nat → Nat → Int32) (Bmn : Nat → Nat → Int64) (Dmn : Int64) (hImn : IX5 Fmn Amn) (a1 : Int32) (a2 : Int32) (a3 : Int32) (ha2 : (-2147483648 : Int) ≤ a2.toInt ∧ a2.toInt ≤ -1) : ∀ sz : Nat, Met l yX10_tell (wk yX10_tell cX10_tell 6 (some .int)) (rmk 2 0 0) (PreP G (TY cs) [.ref adm, .int a1, .int a2, .int a3] ((uX10 cs adm qm Fm Am Bm Dm) ++ ((uX8 cs (qm 3) qms Fms Ams Bms Dms) ++ ((uX3 cs (qms 0) qmh Fmh Amh Bmh Dmh) ++ (uX5 cs (qm 6) qmn Fmn Amn Bmn Dmn)))) sz) (QRi (fun r : Int32 => True) sz) 0 0 (fun q => sz ≤ q) := by
  refine mkP (Qc := QRi (fun r : Int32 => True)) (by decide) (by simp [lg_sl, Value.category]) ?_
  intro p e s m args below meth c ls hx hb hml hr hlk hown ht hK hP hS hl
  have hl : lv_has ls 6 [(0, .ref adm), (1, .int a1), (2, .int a2), (3, .int a3)] := hl
  refine lv_aload_n hx hb dX10_tell_0 rfl (lv_at hl 0 rfl) ?_
  refine lv_iload_n hx hb dX10_tell_1 rfl (lv_at hl 1 rfl) ?_
  refine behR (runVP (As := [.int a1]) (rest := []) ⟨hx, hb, hml, hown, ht⟩ (sX10_isRoom l G cs adm qm Fm Am Bm Dm hIm qms Fms Ams Bms Dms hIms qmh Fmh Amh Bmh Dmh hImh a1 ) okV_RX10_120 ⟨by decide, by decide⟩ hK hP [0, 1, 2, 3, 4, 5, 6, 7, 8, 9, 10, 11, 12] rfl 0 rfl rfl hl.1 rfl (Nat.le_of_ble_eq_true rfl) dX10_tell_2 ⟨by decide, by decide⟩) hP hS (fun _ h => h) (fun r1 H locs hr1 hP hS => ?_)
  have hr1 : (r1.toInt = 1 ∧ 0 ≤ a1.toInt ∧ a1.toInt < (Fmh 5).toInt ∧ a1.toInt ≤ 6) ∨ r1.toInt = 0 := hr1
  refine lv_if_eq (tgt := 29) hx hb dX10_tell_5 (by decide) (fun c2 => ?_) (fun c2 => ?_)
  · have zc2 := eqK rfl (show (0 : Int32).toInt = 0 by decide) c2
    refine lv_bipush (v := (-2)) hx hb dX10_tell_29 (by decide) ?_
    exact retRi hx hb hr hlk hS dX10_tell_31 (trivial)
  · have zc2 := neK rfl (show (0 : Int32).toInt = 0 by decide) c2
    refine lv_iload_n hx hb dX10_tell_8 rfl (lv_at hl 2 rfl) ?_
    refine lv_if_lt (tgt := 29) hx hb dX10_tell_9 (by decide) (fun c3 => ?_) (fun c3 => False.elim (by have zz := nltK rfl (show (0 : Int32).toInt = 0 by decide) c3; omega))
    refine lv_bipush (v := (-2)) hx hb dX10_tell_29 (by decide) ?_
    exact retRi hx hb hr hlk hS dX10_tell_31 (trivial)

set_option maxRecDepth 100000 in
set_option maxHeartbeats 16000000 in
theorem sX10_tell_hi (l : Launch) (G : va_G) (cs : Nat → ClassId) (adm : Nat) (qm : Nat → Nat) (Fm : Nat → Int32) (Am : Nat → Nat → Int32) (Bm : Nat → Nat → Int64) (Dm : Int64) (hIm : IX10 Fm Am) (qms : Nat → Nat) (Fms : Nat → Int32) (Ams : Nat → Nat → Int32) (Bms : Nat → Nat → Int64) (Dms : Int64) (hIms : IX8 Fms Ams) (qmh : Nat → Nat) (Fmh : Nat → Int32) (Amh : Nat → Nat → Int32) (Bmh : Nat → Nat → Int64) (Dmh : Int64) (hImh : IX3 Fmh Amh) (qmn : Nat → Nat) (Fmn : Nat → Int32) (Amn : Nat → Nat → Int32) (Bmn : Nat → Nat → Int64) (Dmn : Int64) (hImn : IX5 Fmn Amn) (a1 : Int32) (a2 : Int32) (a3 : Int32) (ha2 : (3 : Int) ≤ a2.toInt ∧ a2.toInt ≤ 2147483647) : ∀ sz : Nat, Met l yX10_tell (wk yX10_tell cX10_tell 6 (some .int)) (rmk 2 0 0) (PreP G (TY cs) [.ref adm, .int a1, .int a2, .int a3] ((uX10 cs adm qm Fm Am Bm Dm) ++ ((uX8 cs (qm 3) qms Fms Ams Bms Dms) ++ ((uX3 cs (qms 0) qmh Fmh Amh Bmh Dmh) ++ (uX5 cs (qm 6) qmn Fmn Amn Bmn Dmn)))) sz) (QRi (fun r : Int32 => True) sz) 0 0 (fun q => sz ≤ q) := by
  refine mkP (Qc := QRi (fun r : Int32 => True)) (by decide) (by simp [lg_sl, Value.category]) ?_
  intro p e s m args below meth c ls hx hb hml hr hlk hown ht hK hP hS hl
  have hl : lv_has ls 6 [(0, .ref adm), (1, .int a1), (2, .int a2), (3, .int a3)] := hl
  refine lv_aload_n hx hb dX10_tell_0 rfl (lv_at hl 0 rfl) ?_
  refine lv_iload_n hx hb dX10_tell_1 rfl (lv_at hl 1 rfl) ?_
  refine behR (runVP (As := [.int a1]) (rest := []) ⟨hx, hb, hml, hown, ht⟩ (sX10_isRoom l G cs adm qm Fm Am Bm Dm hIm qms Fms Ams Bms Dms hIms qmh Fmh Amh Bmh Dmh hImh a1 ) okV_RX10_120 ⟨by decide, by decide⟩ hK hP [0, 1, 2, 3, 4, 5, 6, 7, 8, 9, 10, 11, 12] rfl 0 rfl rfl hl.1 rfl (Nat.le_of_ble_eq_true rfl) dX10_tell_2 ⟨by decide, by decide⟩) hP hS (fun _ h => h) (fun r1 H locs hr1 hP hS => ?_)
  have hr1 : (r1.toInt = 1 ∧ 0 ≤ a1.toInt ∧ a1.toInt < (Fmh 5).toInt ∧ a1.toInt ≤ 6) ∨ r1.toInt = 0 := hr1
  refine lv_if_eq (tgt := 29) hx hb dX10_tell_5 (by decide) (fun c2 => ?_) (fun c2 => ?_)
  · have zc2 := eqK rfl (show (0 : Int32).toInt = 0 by decide) c2
    refine lv_bipush (v := (-2)) hx hb dX10_tell_29 (by decide) ?_
    exact retRi hx hb hr hlk hS dX10_tell_31 (trivial)
  · have zc2 := neK rfl (show (0 : Int32).toInt = 0 by decide) c2
    refine lv_iload_n hx hb dX10_tell_8 rfl (lv_at hl 2 rfl) ?_
    refine lv_if_lt (tgt := 29) hx hb dX10_tell_9 (by decide) (fun c3 => False.elim (by have zz := ltK rfl (show (0 : Int32).toInt = 0 by decide) c3; omega)) (fun c3 => ?_)
    refine lv_iload_n hx hb dX10_tell_12 rfl (lv_at hl 2 rfl) ?_
    refine lv_iconst (v := 2) hx hb dX10_tell_13 (by decide) ?_
    refine lv_icmp_gt (tgt := 29) hx hb dX10_tell_14 (by decide) (fun c4 => ?_) (fun c4 => False.elim (by have zz := nltK (show (2 : Int32).toInt = 2 by decide) rfl c4; omega))
    refine lv_bipush (v := (-2)) hx hb dX10_tell_29 (by decide) ?_
    exact retRi hx hb hr hlk hS dX10_tell_31 (trivial)

