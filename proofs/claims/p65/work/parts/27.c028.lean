set_option maxRecDepth 100000 in
set_option maxHeartbeats 16000000 in
theorem sX10_mostFrequent (l : Launch) (G : va_G) (cs : Nat → ClassId) (adm : Nat) (qm : Nat → Nat) (Fm : Nat → Int32) (Am : Nat → Nat → Int32) (Bm : Nat → Nat → Int64) (Dm : Int64) (hIm : IX10 Fm Am) (qms : Nat → Nat) (Fms : Nat → Int32) (Ams : Nat → Nat → Int32) (Bms : Nat → Nat → Int64) (Dms : Int64) (hIms : IX8 Fms Ams) (qmh : Nat → Nat) (Fmh : Nat → Int32) (Amh : Nat → Nat → Int32) (Bmh : Nat → Nat → Int64) (Dmh : Int64) (hImh : IX3 Fmh Amh) (adr : Nat) (qr : Nat → Nat) (Fr : Nat → Int32) (Ar : Nat → Nat → Int32) (Br : Nat → Nat → Int64) (Dr : Int64) (hIr : IX7 Fr Ar) (a2 : Int32) : ∀ sz : Nat, Met l yX10_mostFrequent (wk yX10_mostFrequent cX10_mostFrequent 7 (some .int)) (rmk 1 0 0) (PreP G (TY cs) [.ref adm, .ref adr, .int a2] ((uX10 cs adm qm Fm Am Bm Dm) ++ ((uX8 cs (qm 3) qms Fms Ams Bms Dms) ++ ((uX3 cs (qms 0) qmh Fmh Amh Bmh Dmh) ++ (uX7 cs adr qr Fr Ar Br Dr)))) sz) (QRi (fun r : Int32 => True) sz) 0 0 (fun q => sz ≤ q) := by
  refine mkP (Qc := QRi (fun r : Int32 => True)) (by decide) (by simp [lg_sl, Value.category]) ?_
  intro p e s m args below meth c ls hx hb hml hr hlk hown ht hK hP hS hl
  have hl : lv_has ls 7 [(0, .ref adm), (1, .ref adr), (2, .int a2)] := hl
  refine lv_iconst (v := (-1)) hx hb dX10_mostFrequent_0 (by decide) ?_
  refine lv_istore_n (lv' := [(3, .int (-1)), (0, .ref adm), (1, .ref adr), (2, .int a2)]) hx hb dX10_mostFrequent_1 rfl hl (by decide) rfl (fun ls hl => ?_)
  refine lv_iconst (v := 0) hx hb dX10_mostFrequent_2 (by decide) ?_
  refine lv_istore (lv' := [(4, .int 0), (3, .int (-1)), (0, .ref adm), (1, .ref adr), (2, .int a2)]) hx hb dX10_mostFrequent_3 hl (by decide) rfl (fun ls hl => ?_)
  refine lv_iconst (v := 0) hx hb dX10_mostFrequent_5 (by decide) ?_
  refine lv_istore (lv' := [(5, .int 0), (4, .int 0), (3, .int (-1)), (0, .ref adm), (1, .ref adr), (2, .int a2)]) hx hb dX10_mostFrequent_6 hl (by decide) rfl (fun ls hl => ?_)
  have B8 : ∀ (n : Nat) (x8_3 : Int32) (x8_4 : Int32) (x8_5 : Int32) (H : Heap) (locs : List Loc) (ls : Array Slot), (7 - x8_5.toInt).toNat < n → (-1 : Int) ≤ x8_3.toInt ∧ x8_3.toInt ≤ 6 → (0 : Int) ≤ x8_4.toInt → (0 : Int) ≤ x8_5.toInt ∧ x8_5.toInt ≤ 7 → va_P G vwCl ((uX10 cs adm qm Fm Am Bm Dm) ++ ((uX8 cs (qm 3) qms Fms Ams Bms Dms) ++ ((uX3 cs (qms 0) qmh Fmh Amh Bmh Dmh) ++ (uX7 cs adr qr Fr Ar Br Dr)))) H → va_S (fun q => s.heap.size ≤ q) s.heap H locs → lv_has ls 7 [(0, .ref adm), (1, .ref adr), (2, .int a2), (3, .int x8_3), (4, .int x8_4), (5, .int x8_5)] → W p l e (rmk 1 0 0) s m args below meth c H locs 0 0 (MQ below (QRi (fun r : Int32 => True) s.heap.size) args s 0 0 (fun q => s.heap.size ≤ q)) (F0 m 8 ls []) := by
    intro n
    induction n with
    | zero => intro x8_3 x8_4 x8_5 H locs ls hmeas hx8_3 hx8_4 hx8_5 hP hS hl; exact absurd hmeas (Nat.not_lt_zero _)
    | succ n ih8 =>
      intro x8_3 x8_4 x8_5 H locs ls hmeas hx8_3 hx8_4 hx8_5 hP hS hl
      refine lv_iload hx hb dX10_mostFrequent_8 (lv_at hl 5 rfl) ?_
      refine lv_aload_n hx hb dX10_mostFrequent_10 rfl (lv_at hl 0 rfl) ?_
      refine getF (v := .ref (qm 3)) hx hb ht hown hK hP iTX10 0 3 rfl rfl (by decide) fl_RX10_31 rfl dX10_mostFrequent_11 ?_
      refine getF (v := .ref (qms 0)) hx hb ht hown hK hP iTX8 3 0 rfl rfl (by decide) fl_RX10_98 rfl dX10_mostFrequent_14 ?_
      refine getF (v := .int (Fmh 5)) hx hb ht hown hK hP iTX3 5 5 rfl rfl (by decide) fl_RX10_159 rfl dX10_mostFrequent_17 ?_
      have zf7001 : (0 : Int) ≤ (Fmh 5).toInt ∧ (Fmh 5).toInt ≤ 7 := hImh.1 5
      refine lv_icmp_ge (tgt := 52) hx hb dX10_mostFrequent_20 (by decide) (fun c7002 => ?_) (fun c7002 => ?_)
      · have zc7002 := leK rfl rfl c7002
        refine lv_iload_n hx hb dX10_mostFrequent_52 rfl (lv_at hl 3 rfl) ?_
        exact retRi hx hb hr hlk hS dX10_mostFrequent_53 (trivial)
      · have zc7002 := nleK rfl rfl c7002
        refine lv_aload_n hx hb dX10_mostFrequent_23 rfl (lv_at hl 1 rfl) ?_
        refine lv_iload hx hb dX10_mostFrequent_24 (lv_at hl 5 rfl) ?_
        refine lv_iload_n hx hb dX10_mostFrequent_26 rfl (lv_at hl 2 rfl) ?_
        refine behR (runVP (As := [.int x8_5, .int a2]) (rest := []) ⟨hx, hb, hml, hown, ht⟩ (sX7_countOf l G cs adr qr Fr Ar Br Dr hIr x8_5 a2 ) okV_RX10_402 ⟨by decide, by decide⟩ hK hP [13, 14] rfl 13 rfl rfl hl.1 rfl (Nat.le_of_ble_eq_true rfl) dX10_mostFrequent_27 ⟨by decide, by decide⟩) hP hS (fun _ h => h) (fun r7003 H locs hr7003 hP hS => ?_)
        refine lv_istore (lv' := [(6, .int r7003), (0, .ref adm), (1, .ref adr), (2, .int a2), (3, .int x8_3), (4, .int x8_4), (5, .int x8_5)]) hx hb dX10_mostFrequent_30 hl (by decide) rfl (fun ls hl => ?_)
        refine lv_iload hx hb dX10_mostFrequent_32 (lv_at hl 0 rfl) ?_
        refine lv_iload hx hb dX10_mostFrequent_34 (lv_at hl 5 rfl) ?_
        have B46 : ∀ (x46_3 : Int32) (x46_4 : Int32) (H : Heap) (locs : List Loc) (ls : Array Slot), (-1 : Int) ≤ x46_3.toInt ∧ x46_3.toInt ≤ 6 → (0 : Int) ≤ x46_4.toInt → va_P G vwCl ((uX10 cs adm qm Fm Am Bm Dm) ++ ((uX8 cs (qm 3) qms Fms Ams Bms Dms) ++ ((uX3 cs (qms 0) qmh Fmh Amh Bmh Dmh) ++ (uX7 cs adr qr Fr Ar Br Dr)))) H → va_S (fun q => s.heap.size ≤ q) s.heap H locs → lv_has ls 7 [(0, .ref adm), (1, .ref adr), (2, .int a2), (3, .int x46_3), (4, .int x46_4), (5, .int x8_5)] → W p l e (rmk 1 0 0) s m args below meth c H locs 0 0 (MQ below (QRi (fun r : Int32 => True) s.heap.size) args s 0 0 (fun q => s.heap.size ≤ q)) (F0 m 46 ls []) := by
          intro x46_3 x46_4 H locs ls hx46_3 hx46_4 hP hS hl
          obtain ⟨v25001, ev25001⟩ : ∃ z : Int32, z = x8_5 + 1 := ⟨_, rfl⟩
          have tv25001 : v25001.toInt = x8_5.toInt + 1 := by rw [ev25001]; exact addT rfl (by decide) (by omega)
          refine lv_iinc (v := v25001) (lv' := [(5, .int v25001), (0, .ref adm), (1, .ref adr), (2, .int a2), (3, .int x46_3), (4, .int x46_4)]) hx hb dX10_mostFrequent_46 hl (k := 5) rfl (by rw [ev25001]; rfl) (by decide) rfl (fun ls hl => ?_)
          refine lv_goto (tgt := 8) hx hb dX10_mostFrequent_49 (by decide) ?_
          exact ih8 x46_3 x46_4 v25001 H locs ls (by omega) (by omega) (by omega) (by omega) hP hS (lv_sub hl [1, 2, 3, 4, 5, 0] rfl)
        refine lv_icmp_le (tgt := 46) hx hb dX10_mostFrequent_36 (by decide) (fun c7004 => ?_) (fun c7004 => ?_)
        · have zc7004 := leK rfl rfl c7004
          exact B46 x8_3 x8_4 H locs ls (by omega) (by omega) hP hS (lv_sub hl [1, 2, 3, 4, 5, 6] rfl)
        · have zc7004 := nleK rfl rfl c7004
          refine lv_iload hx hb dX10_mostFrequent_39 (lv_at hl 0 rfl) ?_
          refine lv_istore (lv' := [(4, .int r7003), (6, .int r7003), (0, .ref adm), (1, .ref adr), (2, .int a2), (3, .int x8_3), (5, .int x8_5)]) hx hb dX10_mostFrequent_41 hl (by decide) rfl (fun ls hl => ?_)
          refine lv_iload hx hb dX10_mostFrequent_43 (lv_at hl 6 rfl) ?_
          refine lv_istore_n (lv' := [(3, .int x8_5), (4, .int r7003), (6, .int r7003), (0, .ref adm), (1, .ref adr), (2, .int a2), (5, .int x8_5)]) hx hb dX10_mostFrequent_45 rfl hl (by decide) rfl (fun ls hl => ?_)
          exact B46 x8_5 r7003 H locs ls (by omega) (by omega) hP hS (lv_sub hl [3, 4, 5, 0, 1, 6] rfl)
  exact B8 _ (-1) 0 0 s.heap [] ls (Nat.lt_succ_self _) (by decide) (by decide) (by decide) hP hS (lv_sub hl [3, 4, 5, 2, 1, 0] rfl)

set_option maxRecDepth 100000 in
set_option maxHeartbeats 16000000 in
theorem sX10_foundAtOnce (l : Launch) (G : va_G) (cs : Nat → ClassId) (adm : Nat) (qm : Nat → Nat) (Fm : Nat → Int32) (Am : Nat → Nat → Int32) (Bm : Nat → Nat → Int64) (Dm : Int64) (hIm : IX10 Fm Am) (qms : Nat → Nat) (Fms : Nat → Int32) (Ams : Nat → Nat → Int32) (Bms : Nat → Nat → Int64) (Dms : Int64) (hIms : IX8 Fms Ams) (qmh : Nat → Nat) (Fmh : Nat → Int32) (Amh : Nat → Nat → Int32) (Bmh : Nat → Nat → Int64) (Dmh : Int64) (hImh : IX3 Fmh Amh) (qmn : Nat → Nat) (Fmn : Nat → Int32) (Amn : Nat → Nat → Int32) (Bmn : Nat → Nat → Int64) (Dmn : Int64) (hImn : IX5 Fmn Amn) (a1 : Int32) : ∀ sz : Nat, Met l yX10_foundAtOnce (wk yX10_foundAtOnce cX10_foundAtOnce 4 (some .int)) (rmk 3 0 0) (PreP G (TY cs) [.ref adm, .int a1] ((uX10 cs adm qm Fm Am Bm Dm) ++ ((uX8 cs (qm 3) qms Fms Ams Bms Dms) ++ ((uX3 cs (qms 0) qmh Fmh Amh Bmh Dmh) ++ (uX5 cs (qm 6) qmn Fmn Amn Bmn Dmn)))) sz) (QRi (fun r : Int32 => True) sz) 0 0 (fun q => sz ≤ q) := by
  refine mkP (Qc := QRi (fun r : Int32 => True)) (by decide) (by simp [lg_sl, Value.category]) ?_
  intro p e s m args below meth c ls hx hb hml hr hlk hown ht hK hP hS hl
  have hl : lv_has ls 4 [(0, .ref adm), (1, .int a1)] := hl
  refine lv_iconst (v := 0) hx hb dX10_foundAtOnce_0 (by decide) ?_
  refine lv_istore_n (lv' := [(2, .int 0), (0, .ref adm), (1, .int a1)]) hx hb dX10_foundAtOnce_1 rfl hl (by decide) rfl (fun ls hl => ?_)
  refine lv_iconst (v := 0) hx hb dX10_foundAtOnce_2 (by decide) ?_
  refine lv_istore_n (lv' := [(3, .int 0), (2, .int 0), (0, .ref adm), (1, .int a1)]) hx hb dX10_foundAtOnce_3 rfl hl (by decide) rfl (fun ls hl => ?_)
  have B4 : ∀ (n : Nat) (x4_2 : Int32) (x4_3 : Int32) (H : Heap) (locs : List Loc) (ls : Array Slot), (7 - x4_3.toInt).toNat < n → (0 : Int) ≤ x4_3.toInt ∧ x4_3.toInt ≤ 7 → va_P G vwCl ((uX10 cs adm qm Fm Am Bm Dm) ++ ((uX8 cs (qm 3) qms Fms Ams Bms Dms) ++ ((uX3 cs (qms 0) qmh Fmh Amh Bmh Dmh) ++ (uX5 cs (qm 6) qmn Fmn Amn Bmn Dmn)))) H → va_S (fun q => s.heap.size ≤ q) s.heap H locs → lv_has ls 4 [(0, .ref adm), (1, .int a1), (2, .int x4_2), (3, .int x4_3)] → W p l e (rmk 3 0 0) s m args below meth c H locs 0 0 (MQ below (QRi (fun r : Int32 => True) s.heap.size) args s 0 0 (fun q => s.heap.size ≤ q)) (F0 m 4 ls []) := by
    intro n
    induction n with
    | zero => intro x4_2 x4_3 H locs ls hmeas hx4_3 hP hS hl; exact absurd hmeas (Nat.not_lt_zero _)
    | succ n ih4 =>
      intro x4_2 x4_3 H locs ls hmeas hx4_3 hP hS hl
      refine lv_iload_n hx hb dX10_foundAtOnce_4 rfl (lv_at hl 3 rfl) ?_
      refine lv_aload_n hx hb dX10_foundAtOnce_5 rfl (lv_at hl 0 rfl) ?_
      refine getF (v := .ref (qm 3)) hx hb ht hown hK hP iTX10 0 3 rfl rfl (by decide) fl_RX10_31 rfl dX10_foundAtOnce_6 ?_
      refine getF (v := .ref (qms 0)) hx hb ht hown hK hP iTX8 3 0 rfl rfl (by decide) fl_RX10_98 rfl dX10_foundAtOnce_9 ?_
      refine getF (v := .int (Fmh 5)) hx hb ht hown hK hP iTX3 5 5 rfl rfl (by decide) fl_RX10_159 rfl dX10_foundAtOnce_12 ?_
      have zf5001 : (0 : Int) ≤ (Fmh 5).toInt ∧ (Fmh 5).toInt ≤ 7 := hImh.1 5
      refine lv_icmp_ge (tgt := 51) hx hb dX10_foundAtOnce_15 (by decide) (fun c5002 => ?_) (fun c5002 => ?_)
      · have zc5002 := leK rfl rfl c5002
        refine lv_iload_n hx hb dX10_foundAtOnce_51 rfl (lv_at hl 2 rfl) ?_
        exact retRi hx hb hr hlk hS dX10_foundAtOnce_52 (trivial)
      · have zc5002 := nleK rfl rfl c5002
        refine lv_iload_n hx hb dX10_foundAtOnce_18 rfl (lv_at hl 1 rfl) ?_
        refine lv_iload_n hx hb dX10_foundAtOnce_19 rfl (lv_at hl 3 rfl) ?_
        refine lv_ishr hx hb dX10_foundAtOnce_20 ?_
        refine lv_topi (fun v5003 ev5003 => ?_)
        refine lv_iconst (v := 1) hx hb dX10_foundAtOnce_21 (by decide) ?_
        refine lv_iand hx hb dX10_foundAtOnce_22 ?_
        refine lv_topi (fun v5004 ev5004 => ?_)
        have tv5004 : 0 ≤ v5004.toInt ∧ v5004.toInt ≤ 1 := by rw [ev5004]; exact andT 1 (by decide) (by decide) (by decide)
        have B45 : ∀ (x45_2 : Int32) (H : Heap) (locs : List Loc) (ls : Array Slot), va_P G vwCl ((uX10 cs adm qm Fm Am Bm Dm) ++ ((uX8 cs (qm 3) qms Fms Ams Bms Dms) ++ ((uX3 cs (qms 0) qmh Fmh Amh Bmh Dmh) ++ (uX5 cs (qm 6) qmn Fmn Amn Bmn Dmn)))) H → va_S (fun q => s.heap.size ≤ q) s.heap H locs → lv_has ls 4 [(0, .ref adm), (1, .int a1), (2, .int x45_2), (3, .int x4_3)] → W p l e (rmk 3 0 0) s m args below meth c H locs 0 0 (MQ below (QRi (fun r : Int32 => True) s.heap.size) args s 0 0 (fun q => s.heap.size ≤ q)) (F0 m 45 ls []) := by
          intro x45_2 H locs ls hP hS hl
          obtain ⟨v28001, ev28001⟩ : ∃ z : Int32, z = x4_3 + 1 := ⟨_, rfl⟩
          have tv28001 : v28001.toInt = x4_3.toInt + 1 := by rw [ev28001]; exact addT rfl (by decide) (by omega)
          refine lv_iinc (v := v28001) (lv' := [(3, .int v28001), (0, .ref adm), (1, .int a1), (2, .int x45_2)]) hx hb dX10_foundAtOnce_45 hl (k := 3) rfl (by rw [ev28001]; rfl) (by decide) rfl (fun ls hl => ?_)
          refine lv_goto (tgt := 4) hx hb dX10_foundAtOnce_48 (by decide) ?_
          exact ih4 x45_2 v28001 H locs ls (by omega) (by omega) hP hS (lv_sub hl [1, 2, 3, 0] rfl)
        refine lv_if_eq (tgt := 45) hx hb dX10_foundAtOnce_23 (by decide) (fun c5005 => ?_) (fun c5005 => ?_)
        · have zc5005 := eqK rfl (show (0 : Int32).toInt = 0 by decide) c5005
          exact B45 x4_2 H locs ls hP hS (lv_sub hl [0, 1, 2, 3] rfl)
        · have zc5005 := neK rfl (show (0 : Int32).toInt = 0 by decide) c5005
          refine lv_iload_n hx hb dX10_foundAtOnce_26 rfl (lv_at hl 2 rfl) ?_
          refine lv_aload_n hx hb dX10_foundAtOnce_27 rfl (lv_at hl 0 rfl) ?_
          refine getF (v := .ref (qm 6)) hx hb ht hown hK hP iTX10 0 6 rfl rfl (by decide) fl_RX10_48 rfl dX10_foundAtOnce_28 ?_
          refine lv_aload_n hx hb dX10_foundAtOnce_31 rfl (lv_at hl 0 rfl) ?_
          refine getF (v := .ref (qm 3)) hx hb ht hown hK hP iTX10 0 3 rfl rfl (by decide) fl_RX10_31 rfl dX10_foundAtOnce_32 ?_
          refine getF (v := .ref (qms 0)) hx hb ht hown hK hP iTX8 3 0 rfl rfl (by decide) fl_RX10_98 rfl dX10_foundAtOnce_35 ?_
          refine lv_iload_n hx hb dX10_foundAtOnce_38 rfl (lv_at hl 3 rfl) ?_
          refine lv_iconst (v := 0) hx hb dX10_foundAtOnce_39 (by decide) ?_
          refine behR (runVP (As := [.ref (qms 0), .int x4_3, .int 0]) (rest := [.int x4_2]) ⟨hx, hb, hml, hown, ht⟩ (sX5_audible l G cs (qm 6) qmn Fmn Amn Bmn Dmn hImn (qms 0) qmh Fmh Amh Bmh Dmh hImh x4_3 0 (by decide)) okV_RX10_399 ⟨by decide, by decide⟩ hK hP [13, 14, 15, 5, 6, 7, 8, 9, 10, 11, 12] rfl 13 rfl rfl hl.1 rfl (Nat.le_of_ble_eq_true rfl) dX10_foundAtOnce_40 ⟨by decide, by decide⟩) hP hS (fun _ h => h) (fun r5006 H locs hr5006 hP hS => ?_)
          have kk5007 : (0 : Int32).toInt = 0 := by decide
          have hr5006 : r5006.toInt = 0 ∨ (0 ≤ x4_3.toInt ∧ x4_3.toInt ≤ 6) := hr5006
          refine lv_iadd hx hb dX10_foundAtOnce_43 ?_
          refine lv_topi (fun v5008 ev5008 => ?_)
          refine lv_istore_n (lv' := [(2, .int v5008), (0, .ref adm), (1, .int a1), (3, .int x4_3)]) hx hb dX10_foundAtOnce_44 rfl hl (by decide) rfl (fun ls hl => ?_)
          exact B45 v5008 H locs ls hP hS (lv_sub hl [1, 2, 0, 3] rfl)
  exact B4 _ 0 0 s.heap [] ls (Nat.lt_succ_self _) (by decide) hP hS (lv_sub hl [2, 3, 1, 0] rfl)

set_option maxRecDepth 100000 in
set_option maxHeartbeats 16000000 in
theorem sX10_peopleOf (l : Launch) (G : va_G) (cs : Nat → ClassId) (adm : Nat) (qm : Nat → Nat) (Fm : Nat → Int32) (Am : Nat → Nat → Int32) (Bm : Nat → Nat → Int64) (Dm : Int64) (hIm : IX10 Fm Am) (qms : Nat → Nat) (Fms : Nat → Int32) (Ams : Nat → Nat → Int32) (Bms : Nat → Nat → Int64) (Dms : Int64) (hIms : IX8 Fms Ams) (qmh : Nat → Nat) (Fmh : Nat → Int32) (Amh : Nat → Nat → Int32) (Bmh : Nat → Nat → Int64) (Dmh : Int64) (hImh : IX3 Fmh Amh) (a1 : Int32) : ∀ sz : Nat, Met l yX10_peopleOf (wk yX10_peopleOf cX10_peopleOf 4 (some .int)) (rmk 0 0 0) (PreP G (TY cs) [.ref adm, .int a1] ((uX10 cs adm qm Fm Am Bm Dm) ++ ((uX8 cs (qm 3) qms Fms Ams Bms Dms) ++ (uX3 cs (qms 0) qmh Fmh Amh Bmh Dmh))) sz) (QRi (fun r : Int32 => True) sz) 0 0 (fun q => sz ≤ q) := by
  refine mkP (Qc := QRi (fun r : Int32 => True)) (by decide) (by simp [lg_sl, Value.category]) ?_
  intro p e s m args below meth c ls hx hb hml hr hlk hown ht hK hP hS hl
  have hl : lv_has ls 4 [(0, .ref adm), (1, .int a1)] := hl
  refine lv_iconst (v := 0) hx hb dX10_peopleOf_0 (by decide) ?_
  refine lv_istore_n (lv' := [(2, .int 0), (0, .ref adm), (1, .int a1)]) hx hb dX10_peopleOf_1 rfl hl (by decide) rfl (fun ls hl => ?_)
  refine lv_iconst (v := 0) hx hb dX10_peopleOf_2 (by decide) ?_
  refine lv_istore_n (lv' := [(3, .int 0), (2, .int 0), (0, .ref adm), (1, .int a1)]) hx hb dX10_peopleOf_3 rfl hl (by decide) rfl (fun ls hl => ?_)
  have B4 : ∀ (n : Nat) (x4_2 : Int32) (x4_3 : Int32) (H : Heap) (locs : List Loc) (ls : Array Slot), (7 - x4_3.toInt).toNat < n → (0 : Int) ≤ x4_3.toInt ∧ x4_3.toInt ≤ 7 → va_P G vwCl ((uX10 cs adm qm Fm Am Bm Dm) ++ ((uX8 cs (qm 3) qms Fms Ams Bms Dms) ++ (uX3 cs (qms 0) qmh Fmh Amh Bmh Dmh))) H → va_S (fun q => s.heap.size ≤ q) s.heap H locs → lv_has ls 4 [(0, .ref adm), (1, .int a1), (2, .int x4_2), (3, .int x4_3)] → W p l e (rmk 0 0 0) s m args below meth c H locs 0 0 (MQ below (QRi (fun r : Int32 => True) s.heap.size) args s 0 0 (fun q => s.heap.size ≤ q)) (F0 m 4 ls []) := by
    intro n
    induction n with
    | zero => intro x4_2 x4_3 H locs ls hmeas hx4_3 hP hS hl; exact absurd hmeas (Nat.not_lt_zero _)
    | succ n ih4 =>
      intro x4_2 x4_3 H locs ls hmeas hx4_3 hP hS hl
      refine lv_iload_n hx hb dX10_peopleOf_4 rfl (lv_at hl 3 rfl) ?_
      refine lv_aload_n hx hb dX10_peopleOf_5 rfl (lv_at hl 0 rfl) ?_
      refine getF (v := .ref (qm 3)) hx hb ht hown hK hP iTX10 0 3 rfl rfl (by decide) fl_RX10_31 rfl dX10_peopleOf_6 ?_
      refine getF (v := .ref (qms 0)) hx hb ht hown hK hP iTX8 3 0 rfl rfl (by decide) fl_RX10_98 rfl dX10_peopleOf_9 ?_
      refine getF (v := .int (Fmh 5)) hx hb ht hown hK hP iTX3 5 5 rfl rfl (by decide) fl_RX10_159 rfl dX10_peopleOf_12 ?_
      have zf5001 : (0 : Int) ≤ (Fmh 5).toInt ∧ (Fmh 5).toInt ≤ 7 := hImh.1 5
      refine lv_icmp_ge (tgt := 47) hx hb dX10_peopleOf_15 (by decide) (fun c5002 => ?_) (fun c5002 => ?_)
      · have zc5002 := leK rfl rfl c5002
        refine lv_iload_n hx hb dX10_peopleOf_47 rfl (lv_at hl 2 rfl) ?_
        exact retRi hx hb hr hlk hS dX10_peopleOf_48 (trivial)
      · have zc5002 := nleK rfl rfl c5002
        refine lv_iload_n hx hb dX10_peopleOf_18 rfl (lv_at hl 1 rfl) ?_
        refine lv_iload_n hx hb dX10_peopleOf_19 rfl (lv_at hl 3 rfl) ?_
        refine lv_ishr hx hb dX10_peopleOf_20 ?_
        refine lv_topi (fun v5003 ev5003 => ?_)
        refine lv_iconst (v := 1) hx hb dX10_peopleOf_21 (by decide) ?_
        refine lv_iand hx hb dX10_peopleOf_22 ?_
        refine lv_topi (fun v5004 ev5004 => ?_)
        have tv5004 : 0 ≤ v5004.toInt ∧ v5004.toInt ≤ 1 := by rw [ev5004]; exact andT 1 (by decide) (by decide) (by decide)
        have B41 : ∀ (x41_2 : Int32) (H : Heap) (locs : List Loc) (ls : Array Slot), va_P G vwCl ((uX10 cs adm qm Fm Am Bm Dm) ++ ((uX8 cs (qm 3) qms Fms Ams Bms Dms) ++ (uX3 cs (qms 0) qmh Fmh Amh Bmh Dmh))) H → va_S (fun q => s.heap.size ≤ q) s.heap H locs → lv_has ls 4 [(0, .ref adm), (1, .int a1), (2, .int x41_2), (3, .int x4_3)] → W p l e (rmk 0 0 0) s m args below meth c H locs 0 0 (MQ below (QRi (fun r : Int32 => True) s.heap.size) args s 0 0 (fun q => s.heap.size ≤ q)) (F0 m 41 ls []) := by
          intro x41_2 H locs ls hP hS hl
          obtain ⟨v26001, ev26001⟩ : ∃ z : Int32, z = x4_3 + 1 := ⟨_, rfl⟩
          have tv26001 : v26001.toInt = x4_3.toInt + 1 := by rw [ev26001]; exact addT rfl (by decide) (by omega)
          refine lv_iinc (v := v26001) (lv' := [(3, .int v26001), (0, .ref adm), (1, .int a1), (2, .int x41_2)]) hx hb dX10_peopleOf_41 hl (k := 3) rfl (by rw [ev26001]; rfl) (by decide) rfl (fun ls hl => ?_)
          refine lv_goto (tgt := 4) hx hb dX10_peopleOf_44 (by decide) ?_
          exact ih4 x41_2 v26001 H locs ls (by omega) (by omega) hP hS (lv_sub hl [1, 2, 3, 0] rfl)
        refine lv_if_eq (tgt := 41) hx hb dX10_peopleOf_23 (by decide) (fun c5005 => ?_) (fun c5005 => ?_)
        · have zc5005 := eqK rfl (show (0 : Int32).toInt = 0 by decide) c5005
          exact B41 x4_2 H locs ls hP hS (lv_sub hl [0, 1, 2, 3] rfl)
        · have zc5005 := neK rfl (show (0 : Int32).toInt = 0 by decide) c5005
          refine lv_iload_n hx hb dX10_peopleOf_26 rfl (lv_at hl 2 rfl) ?_
          refine lv_aload_n hx hb dX10_peopleOf_27 rfl (lv_at hl 0 rfl) ?_
          refine getF (v := .ref (qm 3)) hx hb ht hown hK hP iTX10 0 3 rfl rfl (by decide) fl_RX10_31 rfl dX10_peopleOf_28 ?_
          refine getF (v := .ref (qms 0)) hx hb ht hown hK hP iTX8 3 0 rfl rfl (by decide) fl_RX10_98 rfl dX10_peopleOf_31 ?_
          refine getF (v := .ref (qmh 7)) hx hb ht hown hK hP iTX3 5 7 rfl rfl (by decide) fl_RX10_198 rfl dX10_peopleOf_34 ?_
          refine lv_iload_n hx hb dX10_peopleOf_37 rfl (lv_at hl 3 rfl) ?_
          refine va_iald hx hb hK.1 hP 6 0 rfl rfl (inK rfl (by omega) (by decide)) dX10_peopleOf_38 ?_
          refine lv_topi (fun v5006 ev5006 => ?_)
          refine lv_iadd hx hb dX10_peopleOf_39 ?_
          refine lv_topi (fun v5007 ev5007 => ?_)
          refine lv_istore_n (lv' := [(2, .int v5007), (0, .ref adm), (1, .int a1), (3, .int x4_3)]) hx hb dX10_peopleOf_40 rfl hl (by decide) rfl (fun ls hl => ?_)
          exact B41 v5007 H locs ls hP hS (lv_sub hl [1, 2, 0, 3] rfl)
  exact B4 _ 0 0 s.heap [] ls (Nat.lt_succ_self _) (by decide) hP hS (lv_sub hl [2, 3, 1, 0] rfl)

set_option maxRecDepth 100000 in
set_option maxHeartbeats 16000000 in
theorem sX10_quietestSet (l : Launch) (G : va_G) (cs : Nat → ClassId) (adm : Nat) (qm : Nat → Nat) (Fm : Nat → Int32) (Am : Nat → Nat → Int32) (Bm : Nat → Nat → Int64) (Dm : Int64) (hIm : IX10 Fm Am) (qms : Nat → Nat) (Fms : Nat → Int32) (Ams : Nat → Nat → Int32) (Bms : Nat → Nat → Int64) (Dms : Int64) (hIms : IX8 Fms Ams) (qmh : Nat → Nat) (Fmh : Nat → Int32) (Amh : Nat → Nat → Int32) (Bmh : Nat → Nat → Int64) (Dmh : Int64) (hImh : IX3 Fmh Amh) (qmn : Nat → Nat) (Fmn : Nat → Int32) (Amn : Nat → Nat → Int32) (Bmn : Nat → Nat → Int64) (Dmn : Int64) (hImn : IX5 Fmn Amn) (a1 : Int32) : ∀ sz : Nat, Met l yX10_quietestSet (wk yX10_quietestSet cX10_quietestSet 6 (some .int)) (rmk 4 0 0) (PreP G (TY cs) [.ref adm, .int a1] ((uX10 cs adm qm Fm Am Bm Dm) ++ ((uX8 cs (qm 3) qms Fms Ams Bms Dms) ++ ((uX3 cs (qms 0) qmh Fmh Amh Bmh Dmh) ++ (uX5 cs (qm 6) qmn Fmn Amn Bmn Dmn)))) sz) (QRi (fun r : Int32 => True) sz) 0 0 (fun q => sz ≤ q) := by
  refine mkP (Qc := QRi (fun r : Int32 => True)) (by decide) (by simp [lg_sl, Value.category]) ?_
  intro p e s m args below meth c ls hx hb hml hr hlk hown ht hK hP hS hl
  have hl : lv_has ls 6 [(0, .ref adm), (1, .int a1)] := hl
  refine lv_iconst (v := (-1)) hx hb dX10_quietestSet_0 (by decide) ?_
  refine lv_istore_n (lv' := [(2, .int (-1)), (0, .ref adm), (1, .int a1)]) hx hb dX10_quietestSet_1 rfl hl (by decide) rfl (fun ls hl => ?_)
  refine lv_iconst (v := 0) hx hb dX10_quietestSet_2 (by decide) ?_
  refine lv_istore_n (lv' := [(3, .int 0), (2, .int (-1)), (0, .ref adm), (1, .int a1)]) hx hb dX10_quietestSet_3 rfl hl (by decide) rfl (fun ls hl => ?_)
  refine lv_iconst (v := 0) hx hb dX10_quietestSet_4 (by decide) ?_
  refine lv_istore (lv' := [(4, .int 0), (3, .int 0), (2, .int (-1)), (0, .ref adm), (1, .int a1)]) hx hb dX10_quietestSet_5 hl (by decide) rfl (fun ls hl => ?_)
  have B7 : ∀ (n : Nat) (x7_2 : Int32) (x7_3 : Int32) (x7_4 : Int32) (H : Heap) (locs : List Loc) (ls : Array Slot), (128 - x7_4.toInt).toNat < n → (-1 : Int) ≤ x7_2.toInt → (0 : Int) ≤ x7_4.toInt ∧ x7_4.toInt ≤ 128 → va_P G vwCl ((uX10 cs adm qm Fm Am Bm Dm) ++ ((uX8 cs (qm 3) qms Fms Ams Bms Dms) ++ ((uX3 cs (qms 0) qmh Fmh Amh Bmh Dmh) ++ (uX5 cs (qm 6) qmn Fmn Amn Bmn Dmn)))) H → va_S (fun q => s.heap.size ≤ q) s.heap H locs → lv_has ls 6 [(0, .ref adm), (1, .int a1), (2, .int x7_2), (3, .int x7_3), (4, .int x7_4)] → W p l e (rmk 4 0 0) s m args below meth c H locs 0 0 (MQ below (QRi (fun r : Int32 => True) s.heap.size) args s 0 0 (fun q => s.heap.size ≤ q)) (F0 m 7 ls []) := by
    intro n
    induction n with
    | zero => intro x7_2 x7_3 x7_4 H locs ls hmeas hx7_2 hx7_4 hP hS hl; exact absurd hmeas (Nat.not_lt_zero _)
    | succ n ih7 =>
      intro x7_2 x7_3 x7_4 H locs ls hmeas hx7_2 hx7_4 hP hS hl
      refine lv_iload hx hb dX10_quietestSet_7 (lv_at hl 4 rfl) ?_
      refine lv_aload_n hx hb dX10_quietestSet_9 rfl (lv_at hl 0 rfl) ?_
      refine getF (v := .ref (qm 3)) hx hb ht hown hK hP iTX10 0 3 rfl rfl (by decide) fl_RX10_31 rfl dX10_quietestSet_10 ?_
      refine getF (v := .ref (qms 0)) hx hb ht hown hK hP iTX8 3 0 rfl rfl (by decide) fl_RX10_98 rfl dX10_quietestSet_13 ?_
      refine behR (runVP (As := []) (rest := [.int x7_4]) ⟨hx, hb, hml, hown, ht⟩ (sX3_allRooms l G cs (qms 0) qmh Fmh Amh Bmh Dmh hImh ) okV_RX10_238 ⟨by decide, by decide⟩ hK hP [5, 6, 7, 8, 9, 10, 11, 12] rfl 5 rfl rfl hl.1 rfl (Nat.le_of_ble_eq_true rfl) dX10_quietestSet_16 ⟨by decide, by decide⟩) hP hS (fun _ h => h) (fun r7001 H locs hr7001 hP hS => ?_)
      have hr7001 : (0 : Int) ≤ r7001.toInt ∧ r7001.toInt ≤ 127 := hr7001
      refine lv_icmp_gt (tgt := 63) hx hb dX10_quietestSet_19 (by decide) (fun c7002 => ?_) (fun c7002 => ?_)
      · have zc7002 := ltK rfl rfl c7002
        refine lv_iload_n hx hb dX10_quietestSet_63 rfl (lv_at hl 2 rfl) ?_
        exact retRi hx hb hr hlk hS dX10_quietestSet_64 (trivial)
      · have zc7002 := nltK rfl rfl c7002
        refine lv_aload_n hx hb dX10_quietestSet_22 rfl (lv_at hl 0 rfl) ?_
        refine lv_iload hx hb dX10_quietestSet_23 (lv_at hl 4 rfl) ?_
        refine behR (runVP (As := [.int x7_4]) (rest := []) ⟨hx, hb, hml, hown, ht⟩ (sX10_foundAtOnce l G cs adm qm Fm Am Bm Dm hIm qms Fms Ams Bms Dms hIms qmh Fmh Amh Bmh Dmh hImh qmn Fmn Amn Bmn Dmn hImn x7_4 ) okV_RX10_241 ⟨by decide, by decide⟩ hK hP [0, 1, 2, 3, 4, 5, 6, 7, 8, 9, 10, 11, 12, 13, 14, 15] rfl 0 rfl rfl hl.1 rfl (Nat.le_of_ble_eq_true rfl) dX10_quietestSet_25 ⟨by decide, by decide⟩) hP hS (fun _ h => h) (fun r7003 H locs hr7003 hP hS => ?_)
        refine lv_iload_n hx hb dX10_quietestSet_28 rfl (lv_at hl 1 rfl) ?_
        have B57 : ∀ (x57_2 : Int32) (x57_3 : Int32) (H : Heap) (locs : List Loc) (ls : Array Slot), (-1 : Int) ≤ x57_2.toInt → va_P G vwCl ((uX10 cs adm qm Fm Am Bm Dm) ++ ((uX8 cs (qm 3) qms Fms Ams Bms Dms) ++ ((uX3 cs (qms 0) qmh Fmh Amh Bmh Dmh) ++ (uX5 cs (qm 6) qmn Fmn Amn Bmn Dmn)))) H → va_S (fun q => s.heap.size ≤ q) s.heap H locs → lv_has ls 6 [(0, .ref adm), (1, .int a1), (2, .int x57_2), (3, .int x57_3), (4, .int x7_4)] → W p l e (rmk 4 0 0) s m args below meth c H locs 0 0 (MQ below (QRi (fun r : Int32 => True) s.heap.size) args s 0 0 (fun q => s.heap.size ≤ q)) (F0 m 57 ls []) := by
          intro x57_2 x57_3 H locs ls hx57_2 hP hS hl
          obtain ⟨v32001, ev32001⟩ : ∃ z : Int32, z = x7_4 + 1 := ⟨_, rfl⟩
          have tv32001 : v32001.toInt = x7_4.toInt + 1 := by rw [ev32001]; exact addT rfl (by decide) (by omega)
          refine lv_iinc (v := v32001) (lv' := [(4, .int v32001), (0, .ref adm), (1, .int a1), (2, .int x57_2), (3, .int x57_3)]) hx hb dX10_quietestSet_57 hl (k := 4) rfl (by rw [ev32001]; rfl) (by decide) rfl (fun ls hl => ?_)
          refine lv_goto (tgt := 7) hx hb dX10_quietestSet_60 (by decide) ?_
          exact ih7 x57_2 x57_3 v32001 H locs ls (by omega) (by omega) (by omega) hP hS (lv_sub hl [1, 2, 3, 4, 0] rfl)
        refine lv_icmp_lt (tgt := 57) hx hb dX10_quietestSet_29 (by decide) (fun c7004 => ?_) (fun c7004 => ?_)
        · have zc7004 := ltK rfl rfl c7004
          exact B57 x7_2 x7_3 H locs ls (by omega) hP hS (lv_sub hl [0, 1, 2, 3, 4] rfl)
        · have zc7004 := nltK rfl rfl c7004
          refine lv_aload_n hx hb dX10_quietestSet_32 rfl (lv_at hl 0 rfl) ?_
          refine lv_iload hx hb dX10_quietestSet_33 (lv_at hl 4 rfl) ?_
          refine behR (runVP (As := [.int x7_4]) (rest := []) ⟨hx, hb, hml, hown, ht⟩ (sX10_peopleOf l G cs adm qm Fm Am Bm Dm hIm qms Fms Ams Bms Dms hIms qmh Fmh Amh Bmh Dmh hImh x7_4 ) okV_RX10_247 ⟨by decide, by decide⟩ hK hP [0, 1, 2, 3, 4, 5, 6, 7, 8, 9, 10, 11, 12] rfl 0 rfl rfl hl.1 rfl (Nat.le_of_ble_eq_true rfl) dX10_quietestSet_35 ⟨by decide, by decide⟩) hP hS (fun _ h => h) (fun r7005 H locs hr7005 hP hS => ?_)
          refine lv_istore (lv' := [(5, .int r7005), (0, .ref adm), (1, .int a1), (2, .int x7_2), (3, .int x7_3), (4, .int x7_4)]) hx hb dX10_quietestSet_38 hl (by decide) rfl (fun ls hl => ?_)
          refine lv_iload_n hx hb dX10_quietestSet_40 rfl (lv_at hl 3 rfl) ?_
          refine lv_iconst (v := (-1)) hx hb dX10_quietestSet_41 (by decide) ?_
          have B51 : ∀ (H : Heap) (locs : List Loc) (ls : Array Slot), va_P G vwCl ((uX10 cs adm qm Fm Am Bm Dm) ++ ((uX8 cs (qm 3) qms Fms Ams Bms Dms) ++ ((uX3 cs (qms 0) qmh Fmh Amh Bmh Dmh) ++ (uX5 cs (qm 6) qmn Fmn Amn Bmn Dmn)))) H → va_S (fun q => s.heap.size ≤ q) s.heap H locs → lv_has ls 6 [(0, .ref adm), (1, .int a1), (4, .int x7_4), (5, .int r7005)] → W p l e (rmk 4 0 0) s m args below meth c H locs 0 0 (MQ below (QRi (fun r : Int32 => True) s.heap.size) args s 0 0 (fun q => s.heap.size ≤ q)) (F0 m 51 ls []) := by
            intro H locs ls hP hS hl
            refine lv_iload hx hb dX10_quietestSet_51 (lv_at hl 3 rfl) ?_
            refine lv_istore_n (lv' := [(3, .int r7005), (0, .ref adm), (1, .int a1), (4, .int x7_4), (5, .int r7005)]) hx hb dX10_quietestSet_53 rfl hl (by decide) rfl (fun ls hl => ?_)
            refine lv_iload hx hb dX10_quietestSet_54 (lv_at hl 3 rfl) ?_
            refine lv_istore_n (lv' := [(2, .int x7_4), (3, .int r7005), (0, .ref adm), (1, .int a1), (4, .int x7_4), (5, .int r7005)]) hx hb dX10_quietestSet_56 rfl hl (by decide) rfl (fun ls hl => ?_)
            exact B57 x7_4 r7005 H locs ls (by omega) hP hS (lv_sub hl [2, 3, 0, 1, 4] rfl)
          refine lv_icmp_eq (tgt := 51) hx hb dX10_quietestSet_42 (by decide) (fun c7006 => ?_) (fun c7006 => ?_)
          · have zc7006 := eqK rfl (show (-1 : Int32).toInt = (-1) by decide) c7006
            exact B51 H locs ls hP hS (lv_sub hl [1, 2, 5, 0] rfl)
          · have zc7006 := neK rfl (show (-1 : Int32).toInt = (-1) by decide) c7006
            refine lv_iload hx hb dX10_quietestSet_45 (lv_at hl 0 rfl) ?_
            refine lv_iload_n hx hb dX10_quietestSet_47 rfl (lv_at hl 4 rfl) ?_
            refine lv_icmp_ge (tgt := 57) hx hb dX10_quietestSet_48 (by decide) (fun c7007 => ?_) (fun c7007 => ?_)
            · have zc7007 := leK rfl rfl c7007
              exact B57 x7_2 x7_3 H locs ls (by omega) hP hS (lv_sub hl [1, 2, 3, 4, 5] rfl)
            · have zc7007 := nleK rfl rfl c7007
              exact B51 H locs ls hP hS (lv_sub hl [1, 2, 5, 0] rfl)
  exact B7 _ (-1) 0 0 s.heap [] ls (Nat.lt_succ_self _) (by decide) (by decide) hP hS (lv_sub hl [3, 4, 2, 1, 0] rfl)

set_option maxRecDepth 100000 in
set_option maxHeartbeats 16000000 in
theorem sX10_comesInto (l : Launch) (G : va_G) (cs : Nat → ClassId) (adm : Nat) (qm : Nat → Nat) (Fm : Nat → Int32) (Am : Nat → Nat → Int32) (Bm : Nat → Nat → Int64) (Dm : Int64) (hIm : IX10 Fm Am) (qms : Nat → Nat) (Fms : Nat → Int32) (Ams : Nat → Nat → Int32) (Bms : Nat → Nat → Int64) (Dms : Int64) (hIms : IX8 Fms Ams) (qmh : Nat → Nat) (Fmh : Nat → Int32) (Amh : Nat → Nat → Int32) (Bmh : Nat → Nat → Int64) (Dmh : Int64) (hImh : IX3 Fmh Amh) (qmn : Nat → Nat) (Fmn : Nat → Int32) (Amn : Nat → Nat → Int32) (Bmn : Nat → Nat → Int64) (Dmn : Int64) (hImn : IX5 Fmn Amn) (qmw : Nat → Nat) (Fmw : Nat → Int32) (Amw : Nat → Nat → Int32) (Bmw : Nat → Nat → Int64) (Dmw : Int64) (hImw : IX5 Fmw Amw) (a1 : Int32) (a2 : Int32) (ha2 : (0 : Int) ≤ a2.toInt ∧ a2.toInt ≤ 200) : ∀ sz : Nat, Met l yX10_comesInto (wk yX10_comesInto cX10_comesInto 4 (some .int)) (rmk 3 0 0) (PreD G (TY cs) [.ref adm, .int a1, .int a2] ((uX10 cs adm qm Fm Am Bm Dm) ++ ((uX8 cs (qm 3) qms Fms Ams Bms Dms) ++ ((uX3 cs (qms 0) qmh Fmh Amh Bmh Dmh) ++ ((uX5 cs (qm 6) qmn Fmn Amn Bmn Dmn) ++ (uX5 cs (qm 7) qmw Fmw Amw Bmw Dmw))))) sz) ((QDi G (fun (r : Int32) (u : Int32 × Int32 × (Nat → Int32) × (Nat → Int32)) => True) (fun u : Int32 × Int32 × (Nat → Int32) × (Nat → Int32) => ((uX10 cs adm qm Fm Am Bm Dm) ++ ((uX8 cs (qm 3) qms Fms Ams Bms Dms) ++ ((uX3 cs (qms 0) qmh Fmh Amh Bmh Dmh) ++ ((uX5 cs (qm 6) qmn Fmn Amn Bmn Dmn) ++ (wX5 cs (qm 7) qmw (upd (upd Fmw 2 u.1) 3 u.2.1) (vA (vA Amw 0 u.2.2.1) 1 u.2.2.2) Bmw Dmw))))))) (va_A ((uX10 cs adm qm Fm Am Bm Dm) ++ ((uX8 cs (qm 3) qms Fms Ams Bms Dms) ++ ((uX3 cs (qms 0) qmh Fmh Amh Bmh Dmh) ++ ((uX5 cs (qm 6) qmn Fmn Amn Bmn Dmn) ++ (uX5 cs (qm 7) qmw Fmw Amw Bmw Dmw))))) sz)) 0 0 (va_A ((uX10 cs adm qm Fm Am Bm Dm) ++ ((uX8 cs (qm 3) qms Fms Ams Bms Dms) ++ ((uX3 cs (qms 0) qmh Fmh Amh Bmh Dmh) ++ ((uX5 cs (qm 6) qmn Fmn Amn Bmn Dmn) ++ (uX5 cs (qm 7) qmw Fmw Amw Bmw Dmw))))) sz) := by
  refine mkD (Qc := (QDi G (fun (r : Int32) (u : Int32 × Int32 × (Nat → Int32) × (Nat → Int32)) => True) (fun u : Int32 × Int32 × (Nat → Int32) × (Nat → Int32) => ((uX10 cs adm qm Fm Am Bm Dm) ++ ((uX8 cs (qm 3) qms Fms Ams Bms Dms) ++ ((uX3 cs (qms 0) qmh Fmh Amh Bmh Dmh) ++ ((uX5 cs (qm 6) qmn Fmn Amn Bmn Dmn) ++ (wX5 cs (qm 7) qmw (upd (upd Fmw 2 u.1) 3 u.2.1) (vA (vA Amw 0 u.2.2.1) 1 u.2.2.2) Bmw Dmw)))))))) (by decide) (by simp [lg_sl, Value.category]) ?_
  intro p e s m args below meth c ls A0 hx hb hml hr hlk hown hmn ht hK hP hD hS hA hl
  have hl : lv_has ls 4 [(0, .ref adm), (1, .int a1), (2, .int a2)] := hl
  refine lv_aload_n hx hb dX10_comesInto_0 rfl (lv_at hl 0 rfl) ?_
  refine getF (v := .ref (qm 7)) hx hb ht hown hK hP iTX10 0 7 rfl rfl (by decide) fl_RX10_52 rfl dX10_comesInto_1 ?_
  refine lv_aload_n hx hb dX10_comesInto_4 rfl (lv_at hl 0 rfl) ?_
  refine getF (v := .ref (qm 6)) hx hb ht hown hK hP iTX10 0 6 rfl rfl (by decide) fl_RX10_48 rfl dX10_comesInto_5 ?_
  refine behDw (wr := ((uX10 cs adm qm Fm Am Bm Dm) ++ ((uX8 cs (qm 3) qms Fms Ams Bms Dms) ++ (uX3 cs (qms 0) qmh Fmh Amh Bmh Dmh)))) (runVD (As := [.ref (qm 6)]) (rest := []) ⟨hx, hb, hml, hown, ht⟩ (sX5_copyFrom l G cs (qm 7) qmw Fmw Amw Bmw Dmw hImw (qm 6) qmn Fmn Amn Bmn Dmn hImn ) okV_RX10_179 ⟨by decide, by decide⟩ hK hP hD [16, 17, 18, 13, 14, 15] rfl (by decide) rfl 16 rfl rfl hl.1 rfl (Nat.le_of_ble_eq_true rfl) dX10_comesInto_8 ⟨(Nat.le_of_ble_eq_true rfl), (Nat.le_of_ble_eq_true rfl)⟩) hP hD hS hA [16, 17, 18, 13, 14, 15] [0, 1, 2, 3, 4, 5, 6, 7, 8, 9, 10, 11, 12] rfl rfl (by decide) (by decide) (fun u H locs hu hP hD hS => ?_)
  obtain ⟨x1, x2, g3⟩ := u
  have hr4 := hu
  have hP : va_P G vwCl ((uX10 cs adm qm Fm Am Bm Dm) ++ ((uX8 cs (qm 3) qms Fms Ams Bms Dms) ++ ((uX3 cs (qms 0) qmh Fmh Amh Bmh Dmh) ++ ((uX5 cs (qm 6) qmn Fmn Amn Bmn Dmn) ++ (uX5 cs (qm 7) qmw (upv 3 x2 (upv 2 x1 Fmw)) (vB 0 g3 Amw) Bmw Dmw))))) H := hP.sub [0, 1, 2, 3, 4, 5, 6, 7, 8, 9, 10, 11, 12, 16, 17, 18, 13, 14, 15] rfl
  have hD : va_D A0 ((uX10 cs adm qm Fm Am Bm Dm) ++ ((uX8 cs (qm 3) qms Fms Ams Bms Dms) ++ ((uX3 cs (qms 0) qmh Fmh Amh Bmh Dmh) ++ ((uX5 cs (qm 6) qmn Fmn Amn Bmn Dmn) ++ (uX5 cs (qm 7) qmw (upv 3 x2 (upv 2 x1 Fmw)) (vB 0 g3 Amw) Bmw Dmw))))) := hD.sub [0, 1, 2, 3, 4, 5, 6, 7, 8, 9, 10, 11, 12, 16, 17, 18, 13, 14, 15] (by decide) rfl
  refine lv_iconst (v := 0) hx hb dX10_comesInto_11 (by decide) ?_
  refine lv_istore_n (lv' := [(3, .int 0), (0, .ref adm), (1, .int a1), (2, .int a2)]) hx hb dX10_comesInto_12 rfl hl (by decide) rfl (fun ls hl => ?_)
  have B13 : ∀ (n : Nat) (x13_3 : Int32) (amw0_13 : (Nat → Int32)) (amw1_13 : (Nat → Int32)) (H : Heap) (locs : List Loc) (ls : Array Slot), (200 - x13_3.toInt).toNat < n → (0 : Int) ≤ x13_3.toInt ∧ x13_3.toInt ≤ 200 → va_P G vwCl ((uX10 cs adm qm Fm Am Bm Dm) ++ ((uX8 cs (qm 3) qms Fms Ams Bms Dms) ++ ((uX3 cs (qms 0) qmh Fmh Amh Bmh Dmh) ++ ((uX5 cs (qm 6) qmn Fmn Amn Bmn Dmn) ++ (uX5 cs (qm 7) qmw (upv 3 x2 (upv 2 x1 Fmw)) (vB 1 amw1_13 (vB 0 amw0_13 Amw)) Bmw Dmw))))) H → va_D A0 ((uX10 cs adm qm Fm Am Bm Dm) ++ ((uX8 cs (qm 3) qms Fms Ams Bms Dms) ++ ((uX3 cs (qms 0) qmh Fmh Amh Bmh Dmh) ++ ((uX5 cs (qm 6) qmn Fmn Amn Bmn Dmn) ++ (uX5 cs (qm 7) qmw (upv 3 x2 (upv 2 x1 Fmw)) (vB 1 amw1_13 (vB 0 amw0_13 Amw)) Bmw Dmw))))) → va_S A0 s.heap H locs → lv_has ls 4 [(0, .ref adm), (1, .int a1), (2, .int a2), (3, .int x13_3)] → W p l e (rmk 3 0 0) s m args below meth c H locs 0 0 (MQ below ((QDi G (fun (r : Int32) (u : Int32 × Int32 × (Nat → Int32) × (Nat → Int32)) => True) (fun u : Int32 × Int32 × (Nat → Int32) × (Nat → Int32) => ((uX10 cs adm qm Fm Am Bm Dm) ++ ((uX8 cs (qm 3) qms Fms Ams Bms Dms) ++ ((uX3 cs (qms 0) qmh Fmh Amh Bmh Dmh) ++ ((uX5 cs (qm 6) qmn Fmn Amn Bmn Dmn) ++ (wX5 cs (qm 7) qmw (upd (upd Fmw 2 u.1) 3 u.2.1) (vA (vA Amw 0 u.2.2.1) 1 u.2.2.2) Bmw Dmw))))))) A0) args s 0 0 A0) (F0 m 13 ls []) := by
    intro n
    induction n with
    | zero => intro x13_3 amw0_13 amw1_13 H locs ls hmeas hx13_3 hP hD hS hl; exact absurd hmeas (Nat.not_lt_zero _)
    | succ n ih13 =>
      intro x13_3 amw0_13 amw1_13 H locs ls hmeas hx13_3 hP hD hS hl
      refine lv_iload_n hx hb dX10_comesInto_13 rfl (lv_at hl 3 rfl) ?_
      refine lv_iload_n hx hb dX10_comesInto_14 rfl (lv_at hl 2 rfl) ?_
      refine lv_icmp_ge (tgt := 40) hx hb dX10_comesInto_15 (by decide) (fun c8001 => ?_) (fun c8001 => ?_)
      · have zc8001 := leK rfl rfl c8001
        refine lv_aload_n hx hb dX10_comesInto_40 rfl (lv_at hl 0 rfl) ?_
        refine getF (v := .ref (qm 7)) hx hb ht hown hK hP iTX10 0 7 rfl rfl (by decide) fl_RX10_52 rfl dX10_comesInto_41 ?_
        refine lv_iload_n hx hb dX10_comesInto_44 rfl (lv_at hl 1 rfl) ?_
        refine behR (runVP (As := [.int a1]) (rest := []) ⟨hx, hb, hml, hown, ht⟩ (sX5_of l G cs (qm 7) qmw (upv 3 x2 (upv 2 x1 Fmw)) (vB 1 amw1_13 (vB 0 amw0_13 Amw)) Bmw Dmw (IB_av (k := 1) (IB_av (k := 0) (IB_pv (k := 3) (IB_pv (k := 2) hImw (i32b _)) (i32b _)) (AJ_full _)) (AJ_full _)) a1 ) okV_RX10_148 ⟨by decide, by decide⟩ hK hP [16, 17, 18] rfl 16 rfl rfl hl.1 rfl (Nat.le_of_ble_eq_true rfl) dX10_comesInto_45 ⟨by decide, by decide⟩) hP hS hA (fun r8002 H locs hr8002 hP hS => ?_)
        exact retDi (x1, x2, amw0_13, amw1_13) hx hb hr hlk hP hD hS dX10_comesInto_48 (trivial) (Nat.le_of_ble_eq_true rfl) (Nat.le_of_ble_eq_true rfl)
      · have zc8001 := nleK rfl rfl c8001
        refine lv_aload_n hx hb dX10_comesInto_18 rfl (lv_at hl 0 rfl) ?_
        refine getF (v := .ref (qm 7)) hx hb ht hown hK hP iTX10 0 7 rfl rfl (by decide) fl_RX10_52 rfl dX10_comesInto_19 ?_
        refine lv_aload_n hx hb dX10_comesInto_22 rfl (lv_at hl 0 rfl) ?_
        refine getF (v := .ref (qm 3)) hx hb ht hown hK hP iTX10 0 3 rfl rfl (by decide) fl_RX10_31 rfl dX10_comesInto_23 ?_
        refine getF (v := .ref (qms 0)) hx hb ht hown hK hP iTX8 3 0 rfl rfl (by decide) fl_RX10_98 rfl dX10_comesInto_26 ?_
        refine lv_iload_n hx hb dX10_comesInto_29 rfl (lv_at hl 1 rfl) ?_
        refine behDi (wr := ((uX10 cs adm qm Fm Am Bm Dm) ++ ((uX8 cs (qm 3) qms Fms Ams Bms Dms) ++ (uX5 cs (qm 6) qmn Fmn Amn Bmn Dmn)))) (runVD (As := [.ref (qms 0), .int a1]) (rest := []) ⟨hx, hb, hml, hown, ht⟩ (sX5_pass l G cs (qm 7) qmw (upv 3 x2 (upv 2 x1 Fmw)) (vB 1 amw1_13 (vB 0 amw0_13 Amw)) Bmw Dmw (IB_av (k := 1) (IB_av (k := 0) (IB_pv (k := 3) (IB_pv (k := 2) hImw (i32b _)) (i32b _)) (AJ_full _)) (AJ_full _)) (qms 0) qmh Fmh Amh Bmh Dmh hImh a1 ) okV_RX10_182 ⟨by decide, by decide⟩ hK hP hD [16, 17, 18, 5, 6, 7, 8, 9, 10, 11, 12] rfl (by decide) rfl 16 rfl rfl hl.1 rfl (Nat.le_of_ble_eq_true rfl) dX10_comesInto_30 ⟨(Nat.le_of_ble_eq_true rfl), (Nat.le_of_ble_eq_true rfl)⟩) hP hD hS hA [16, 17, 18, 5, 6, 7, 8, 9, 10, 11, 12] [0, 1, 2, 3, 4, 13, 14, 15] rfl rfl (by decide) (by decide) (fun r9 u H locs hu hP hD hS => ?_)
        obtain ⟨g8003, g8004⟩ := u
        obtain ⟨r8005, rfl⟩ : ∃ z, z = r9 := ⟨_, rfl⟩
        have hr8005 := hu
        have hr8005 : (0 : Int) ≤ r8005.toInt ∧ r8005.toInt ≤ 1 := hr8005
        have hP : va_P G vwCl ((uX10 cs adm qm Fm Am Bm Dm) ++ ((uX8 cs (qm 3) qms Fms Ams Bms Dms) ++ ((uX3 cs (qms 0) qmh Fmh Amh Bmh Dmh) ++ ((uX5 cs (qm 6) qmn Fmn Amn Bmn Dmn) ++ (uX5 cs (qm 7) qmw (upv 3 x2 (upv 2 x1 Fmw)) (vB 1 g8004 (vB 0 g8003 Amw)) Bmw Dmw))))) H := hP.sub [0, 1, 2, 3, 4, 11, 12, 13, 14, 15, 16, 17, 18, 5, 6, 7, 8, 9, 10] rfl
        have hD : va_D A0 ((uX10 cs adm qm Fm Am Bm Dm) ++ ((uX8 cs (qm 3) qms Fms Ams Bms Dms) ++ ((uX3 cs (qms 0) qmh Fmh Amh Bmh Dmh) ++ ((uX5 cs (qm 6) qmn Fmn Amn Bmn Dmn) ++ (uX5 cs (qm 7) qmw (upv 3 x2 (upv 2 x1 Fmw)) (vB 1 g8004 (vB 0 g8003 Amw)) Bmw Dmw))))) := hD.sub [0, 1, 2, 3, 4, 11, 12, 13, 14, 15, 16, 17, 18, 5, 6, 7, 8, 9, 10] (by decide) rfl
        refine lv_pop hx hb dX10_comesInto_33 rfl ?_
        obtain ⟨v8006, ev8006⟩ : ∃ z : Int32, z = x13_3 + 1 := ⟨_, rfl⟩
        have tv8006 : v8006.toInt = x13_3.toInt + 1 := by rw [ev8006]; exact addT rfl (by decide) (by omega)
        refine lv_iinc (v := v8006) (lv' := [(3, .int v8006), (0, .ref adm), (1, .int a1), (2, .int a2)]) hx hb dX10_comesInto_34 hl (k := 3) rfl (by rw [ev8006]; rfl) (by decide) rfl (fun ls hl => ?_)
        refine lv_goto (tgt := 13) hx hb dX10_comesInto_37 (by decide) ?_
        exact ih13 v8006 g8003 g8004 H locs ls (by omega) (by omega) hP hD hS (lv_sub hl [1, 2, 3, 0] rfl)
  exact B13 _ 0 g3 (Amw 1) H locs ls (Nat.lt_succ_self _) (by decide) hP hD hS (lv_sub hl [1, 2, 3, 0] rfl)

set_option maxRecDepth 100000 in
set_option maxHeartbeats 16000000 in
theorem sX10_countRows (l : Launch) (G : va_G) (cs : Nat → ClassId) (adm : Nat) (qm : Nat → Nat) (Fm : Nat → Int32) (Am : Nat → Nat → Int32) (Bm : Nat → Nat → Int64) (Dm : Int64) (hIm : IX10 Fm Am) (qr0 : Nat → Nat) (Fr0 : Nat → Int32) (Ar0 : Nat → Nat → Int32) (Br0 : Nat → Nat → Int64) (Dr0 : Int64) (hIr0 : IX7 Fr0 Ar0) (qr1 : Nat → Nat) (Fr1 : Nat → Int32) (Ar1 : Nat → Nat → Int32) (Br1 : Nat → Nat → Int64) (Dr1 : Int64) (hIr1 : IX7 Fr1 Ar1) (qr2 : Nat → Nat) (Fr2 : Nat → Int32) (Ar2 : Nat → Nat → Int32) (Br2 : Nat → Nat → Int64) (Dr2 : Int64) (hIr2 : IX7 Fr2 Ar2) (qr3 : Nat → Nat) (Fr3 : Nat → Int32) (Ar3 : Nat → Nat → Int32) (Br3 : Nat → Nat → Int64) (Dr3 : Int64) (hIr3 : IX7 Fr3 Ar3) : ∀ sz : Nat, Met l yX10_countRows (wk yX10_countRows cX10_countRows 3 (some .int)) (rmk 0 0 0) (PreP G (TY cs) [.ref adm] ((uX10 cs adm qm Fm Am Bm Dm) ++ ((uX7 cs (qm 20) qr0 Fr0 Ar0 Br0 Dr0) ++ ((uX7 cs (qm 21) qr1 Fr1 Ar1 Br1 Dr1) ++ ((uX7 cs (qm 22) qr2 Fr2 Ar2 Br2 Dr2) ++ (uX7 cs (qm 23) qr3 Fr3 Ar3 Br3 Dr3))))) sz) (QRi (fun r : Int32 => True) sz) 0 0 (fun q => sz ≤ q) := by
  refine mkP (Qc := QRi (fun r : Int32 => True)) (by decide) (by simp [lg_sl, Value.category]) ?_
  intro p e s m args below meth c ls hx hb hml hr hlk hown ht hK hP hS hl
  have hl : lv_has ls 3 [(0, .ref adm)] := hl
  refine lv_iconst (v := 0) hx hb dX10_countRows_0 (by decide) ?_
  refine lv_istore_n (lv' := [(1, .int 0), (0, .ref adm)]) hx hb dX10_countRows_1 rfl hl (by decide) rfl (fun ls hl => ?_)
  refine lv_iconst (v := 0) hx hb dX10_countRows_2 (by decide) ?_
  refine lv_istore_n (lv' := [(2, .int 0), (1, .int 0), (0, .ref adm)]) hx hb dX10_countRows_3 rfl hl (by decide) rfl (fun ls hl => ?_)
  refine lv_iload_n hx hb dX10_countRows_4 rfl (lv_at hl 0 rfl) ?_
  refine lv_iconst (v := 4) hx hb dX10_countRows_5 (by decide) ?_
  refine lv_icmp_ge (tgt := 30) hx hb dX10_countRows_6 (by decide) (fun c1 => False.elim (by revert c1; decide)) (fun c1 => ?_)
  refine lv_aload_n hx hb dX10_countRows_9 rfl (lv_at hl 2 rfl) ?_
  refine getF (v := .ref (qm 5)) hx hb ht hown hK hP iTX10 0 5 rfl rfl (by decide) fl_RX10_41 rfl dX10_countRows_10 ?_
  refine lv_iload_n hx hb dX10_countRows_13 rfl (lv_at hl 0 rfl) ?_
  refine va_aldq hx hb hK.1 hP 2 5 rfl rfl (show ¬ (_ ∨ _) by decide) dX10_countRows_14 ?_
  refine W.eq (g2 := F0 m 15 ls [.ref (qm 20)]) rfl ?_
  refine getF (v := .int (Fr0 1)) hx hb ht hown hK hP iTX7 3 1 rfl rfl (by decide) fl_RX10_354 rfl dX10_countRows_15 ?_
  have zf2 : (0 : Int) ≤ (Fr0 1).toInt ∧ (Fr0 1).toInt ≤ 1 := hIr0.1 1
  refine lv_if_eq (tgt := 24) hx hb dX10_countRows_18 (by decide) (fun c3 => ?_) (fun c3 => ?_)
  · have zc3 := eqK rfl (show (0 : Int32).toInt = 0 by decide) c3
    refine lv_iinc (v := 1) (lv' := [(2, .int 1), (1, .int 0), (0, .ref adm)]) hx hb dX10_countRows_24 hl (k := 0) rfl (by decide) (by decide) rfl (fun ls hl => ?_)
    refine lv_goto (tgt := 4) hx hb dX10_countRows_27 (by decide) ?_
    refine lv_iload_n hx hb dX10_countRows_4 rfl (lv_at hl 0 rfl) ?_
    refine lv_iconst (v := 4) hx hb dX10_countRows_5 (by decide) ?_
    refine lv_icmp_ge (tgt := 30) hx hb dX10_countRows_6 (by decide) (fun c4 => False.elim (by revert c4; decide)) (fun c4 => ?_)
    refine lv_aload_n hx hb dX10_countRows_9 rfl (lv_at hl 2 rfl) ?_
    refine getF (v := .ref (qm 5)) hx hb ht hown hK hP iTX10 0 5 rfl rfl (by decide) fl_RX10_41 rfl dX10_countRows_10 ?_
    refine lv_iload_n hx hb dX10_countRows_13 rfl (lv_at hl 0 rfl) ?_
    refine va_aldq hx hb hK.1 hP 2 5 rfl rfl (show ¬ (_ ∨ _) by decide) dX10_countRows_14 ?_
    refine W.eq (g2 := F0 m 15 ls [.ref (qm 21)]) rfl ?_
    refine getF (v := .int (Fr1 1)) hx hb ht hown hK hP iTX7 5 1 rfl rfl (by decide) fl_RX10_354 rfl dX10_countRows_15 ?_
    have zf5 : (0 : Int) ≤ (Fr1 1).toInt ∧ (Fr1 1).toInt ≤ 1 := hIr1.1 1
    refine lv_if_eq (tgt := 24) hx hb dX10_countRows_18 (by decide) (fun c6 => ?_) (fun c6 => ?_)
    · have zc6 := eqK rfl (show (0 : Int32).toInt = 0 by decide) c6
      refine lv_iinc (v := 2) (lv' := [(2, .int 2), (1, .int 0), (0, .ref adm)]) hx hb dX10_countRows_24 hl (k := 0) rfl (by decide) (by decide) rfl (fun ls hl => ?_)
      refine lv_goto (tgt := 4) hx hb dX10_countRows_27 (by decide) ?_
      refine lv_iload_n hx hb dX10_countRows_4 rfl (lv_at hl 0 rfl) ?_
      refine lv_iconst (v := 4) hx hb dX10_countRows_5 (by decide) ?_
      refine lv_icmp_ge (tgt := 30) hx hb dX10_countRows_6 (by decide) (fun c7 => False.elim (by revert c7; decide)) (fun c7 => ?_)
      refine lv_aload_n hx hb dX10_countRows_9 rfl (lv_at hl 2 rfl) ?_
      refine getF (v := .ref (qm 5)) hx hb ht hown hK hP iTX10 0 5 rfl rfl (by decide) fl_RX10_41 rfl dX10_countRows_10 ?_
      refine lv_iload_n hx hb dX10_countRows_13 rfl (lv_at hl 0 rfl) ?_
      refine va_aldq hx hb hK.1 hP 2 5 rfl rfl (show ¬ (_ ∨ _) by decide) dX10_countRows_14 ?_
      refine W.eq (g2 := F0 m 15 ls [.ref (qm 22)]) rfl ?_
      refine getF (v := .int (Fr2 1)) hx hb ht hown hK hP iTX7 7 1 rfl rfl (by decide) fl_RX10_354 rfl dX10_countRows_15 ?_
      have zf8 : (0 : Int) ≤ (Fr2 1).toInt ∧ (Fr2 1).toInt ≤ 1 := hIr2.1 1
      refine lv_if_eq (tgt := 24) hx hb dX10_countRows_18 (by decide) (fun c9 => ?_) (fun c9 => ?_)
      · have zc9 := eqK rfl (show (0 : Int32).toInt = 0 by decide) c9
        refine lv_iinc (v := 3) (lv' := [(2, .int 3), (1, .int 0), (0, .ref adm)]) hx hb dX10_countRows_24 hl (k := 0) rfl (by decide) (by decide) rfl (fun ls hl => ?_)
        refine lv_goto (tgt := 4) hx hb dX10_countRows_27 (by decide) ?_
        refine lv_iload_n hx hb dX10_countRows_4 rfl (lv_at hl 0 rfl) ?_
        refine lv_iconst (v := 4) hx hb dX10_countRows_5 (by decide) ?_
        refine lv_icmp_ge (tgt := 30) hx hb dX10_countRows_6 (by decide) (fun c10 => False.elim (by revert c10; decide)) (fun c10 => ?_)
        refine lv_aload_n hx hb dX10_countRows_9 rfl (lv_at hl 2 rfl) ?_
        refine getF (v := .ref (qm 5)) hx hb ht hown hK hP iTX10 0 5 rfl rfl (by decide) fl_RX10_41 rfl dX10_countRows_10 ?_
        refine lv_iload_n hx hb dX10_countRows_13 rfl (lv_at hl 0 rfl) ?_
        refine va_aldq hx hb hK.1 hP 2 5 rfl rfl (show ¬ (_ ∨ _) by decide) dX10_countRows_14 ?_
        refine W.eq (g2 := F0 m 15 ls [.ref (qm 23)]) rfl ?_
        refine getF (v := .int (Fr3 1)) hx hb ht hown hK hP iTX7 9 1 rfl rfl (by decide) fl_RX10_354 rfl dX10_countRows_15 ?_
        have zf11 : (0 : Int) ≤ (Fr3 1).toInt ∧ (Fr3 1).toInt ≤ 1 := hIr3.1 1
        refine lv_if_eq (tgt := 24) hx hb dX10_countRows_18 (by decide) (fun c12 => ?_) (fun c12 => ?_)
        · have zc12 := eqK rfl (show (0 : Int32).toInt = 0 by decide) c12
          refine lv_iinc (v := 4) (lv' := [(2, .int 4), (1, .int 0), (0, .ref adm)]) hx hb dX10_countRows_24 hl (k := 0) rfl (by decide) (by decide) rfl (fun ls hl => ?_)
          refine lv_goto (tgt := 4) hx hb dX10_countRows_27 (by decide) ?_
          refine lv_iload_n hx hb dX10_countRows_4 rfl (lv_at hl 0 rfl) ?_
          refine lv_iconst (v := 4) hx hb dX10_countRows_5 (by decide) ?_
          refine lv_icmp_ge (tgt := 30) hx hb dX10_countRows_6 (by decide) (fun c13 => ?_) (fun c13 => False.elim (by revert c13; decide))
          refine lv_iload_n hx hb dX10_countRows_30 rfl (lv_at hl 1 rfl) ?_
          exact retRi hx hb hr hlk hS dX10_countRows_31 (trivial)
        · have zc12 := neK rfl (show (0 : Int32).toInt = 0 by decide) c12
          refine lv_iinc (v := 1) (lv' := [(1, .int 1), (2, .int 3), (0, .ref adm)]) hx hb dX10_countRows_21 hl (k := 1) rfl (by decide) (by decide) rfl (fun ls hl => ?_)
          refine lv_iinc (v := 4) (lv' := [(2, .int 4), (1, .int 1), (0, .ref adm)]) hx hb dX10_countRows_24 hl (k := 1) rfl (by decide) (by decide) rfl (fun ls hl => ?_)
          refine lv_goto (tgt := 4) hx hb dX10_countRows_27 (by decide) ?_
          refine lv_iload_n hx hb dX10_countRows_4 rfl (lv_at hl 0 rfl) ?_
          refine lv_iconst (v := 4) hx hb dX10_countRows_5 (by decide) ?_
          refine lv_icmp_ge (tgt := 30) hx hb dX10_countRows_6 (by decide) (fun c14 => ?_) (fun c14 => False.elim (by revert c14; decide))
          refine lv_iload_n hx hb dX10_countRows_30 rfl (lv_at hl 1 rfl) ?_
          exact retRi hx hb hr hlk hS dX10_countRows_31 (trivial)
      · have zc9 := neK rfl (show (0 : Int32).toInt = 0 by decide) c9
        refine lv_iinc (v := 1) (lv' := [(1, .int 1), (2, .int 2), (0, .ref adm)]) hx hb dX10_countRows_21 hl (k := 1) rfl (by decide) (by decide) rfl (fun ls hl => ?_)
        refine lv_iinc (v := 3) (lv' := [(2, .int 3), (1, .int 1), (0, .ref adm)]) hx hb dX10_countRows_24 hl (k := 1) rfl (by decide) (by decide) rfl (fun ls hl => ?_)
        refine lv_goto (tgt := 4) hx hb dX10_countRows_27 (by decide) ?_
        refine lv_iload_n hx hb dX10_countRows_4 rfl (lv_at hl 0 rfl) ?_
        refine lv_iconst (v := 4) hx hb dX10_countRows_5 (by decide) ?_
        refine lv_icmp_ge (tgt := 30) hx hb dX10_countRows_6 (by decide) (fun c15 => False.elim (by revert c15; decide)) (fun c15 => ?_)
        refine lv_aload_n hx hb dX10_countRows_9 rfl (lv_at hl 2 rfl) ?_
        refine getF (v := .ref (qm 5)) hx hb ht hown hK hP iTX10 0 5 rfl rfl (by decide) fl_RX10_41 rfl dX10_countRows_10 ?_
        refine lv_iload_n hx hb dX10_countRows_13 rfl (lv_at hl 0 rfl) ?_
        refine va_aldq hx hb hK.1 hP 2 5 rfl rfl (show ¬ (_ ∨ _) by decide) dX10_countRows_14 ?_
        refine W.eq (g2 := F0 m 15 ls [.ref (qm 23)]) rfl ?_
        refine getF (v := .int (Fr3 1)) hx hb ht hown hK hP iTX7 9 1 rfl rfl (by decide) fl_RX10_354 rfl dX10_countRows_15 ?_
        have zf16 : (0 : Int) ≤ (Fr3 1).toInt ∧ (Fr3 1).toInt ≤ 1 := hIr3.1 1
        refine lv_if_eq (tgt := 24) hx hb dX10_countRows_18 (by decide) (fun c17 => ?_) (fun c17 => ?_)
        · have zc17 := eqK rfl (show (0 : Int32).toInt = 0 by decide) c17
          refine lv_iinc (v := 4) (lv' := [(2, .int 4), (1, .int 1), (0, .ref adm)]) hx hb dX10_countRows_24 hl (k := 0) rfl (by decide) (by decide) rfl (fun ls hl => ?_)
          refine lv_goto (tgt := 4) hx hb dX10_countRows_27 (by decide) ?_
          refine lv_iload_n hx hb dX10_countRows_4 rfl (lv_at hl 0 rfl) ?_
          refine lv_iconst (v := 4) hx hb dX10_countRows_5 (by decide) ?_
          refine lv_icmp_ge (tgt := 30) hx hb dX10_countRows_6 (by decide) (fun c18 => ?_) (fun c18 => False.elim (by revert c18; decide))
          refine lv_iload_n hx hb dX10_countRows_30 rfl (lv_at hl 1 rfl) ?_
          exact retRi hx hb hr hlk hS dX10_countRows_31 (trivial)
        · have zc17 := neK rfl (show (0 : Int32).toInt = 0 by decide) c17
          refine lv_iinc (v := 2) (lv' := [(1, .int 2), (2, .int 3), (0, .ref adm)]) hx hb dX10_countRows_21 hl (k := 1) rfl (by decide) (by decide) rfl (fun ls hl => ?_)
          refine lv_iinc (v := 4) (lv' := [(2, .int 4), (1, .int 2), (0, .ref adm)]) hx hb dX10_countRows_24 hl (k := 1) rfl (by decide) (by decide) rfl (fun ls hl => ?_)
          refine lv_goto (tgt := 4) hx hb dX10_countRows_27 (by decide) ?_
          refine lv_iload_n hx hb dX10_countRows_4 rfl (lv_at hl 0 rfl) ?_
          refine lv_iconst (v := 4) hx hb dX10_countRows_5 (by decide) ?_
          refine lv_icmp_ge (tgt := 30) hx hb dX10_countRows_6 (by decide) (fun c19 => ?_) (fun c19 => False.elim (by revert c19; decide))
          refine lv_iload_n hx hb dX10_countRows_30 rfl (lv_at hl 1 rfl) ?_
          exact retRi hx hb hr hlk hS dX10_countRows_31 (trivial)
    · have zc6 := neK rfl (show (0 : Int32).toInt = 0 by decide) c6
      refine lv_iinc (v := 1) (lv' := [(1, .int 1), (2, .int 1), (0, .ref adm)]) hx hb dX10_countRows_21 hl (k := 1) rfl (by decide) (by decide) rfl (fun ls hl => ?_)
      refine lv_iinc (v := 2) (lv' := [(2, .int 2), (1, .int 1), (0, .ref adm)]) hx hb dX10_countRows_24 hl (k := 1) rfl (by decide) (by decide) rfl (fun ls hl => ?_)
      refine lv_goto (tgt := 4) hx hb dX10_countRows_27 (by decide) ?_
      refine lv_iload_n hx hb dX10_countRows_4 rfl (lv_at hl 0 rfl) ?_
      refine lv_iconst (v := 4) hx hb dX10_countRows_5 (by decide) ?_
      refine lv_icmp_ge (tgt := 30) hx hb dX10_countRows_6 (by decide) (fun c20 => False.elim (by revert c20; decide)) (fun c20 => ?_)
      refine lv_aload_n hx hb dX10_countRows_9 rfl (lv_at hl 2 rfl) ?_
      refine getF (v := .ref (qm 5)) hx hb ht hown hK hP iTX10 0 5 rfl rfl (by decide) fl_RX10_41 rfl dX10_countRows_10 ?_
      refine lv_iload_n hx hb dX10_countRows_13 rfl (lv_at hl 0 rfl) ?_
      refine va_aldq hx hb hK.1 hP 2 5 rfl rfl (show ¬ (_ ∨ _) by decide) dX10_countRows_14 ?_
      refine W.eq (g2 := F0 m 15 ls [.ref (qm 22)]) rfl ?_
      refine getF (v := .int (Fr2 1)) hx hb ht hown hK hP iTX7 7 1 rfl rfl (by decide) fl_RX10_354 rfl dX10_countRows_15 ?_
      have zf21 : (0 : Int) ≤ (Fr2 1).toInt ∧ (Fr2 1).toInt ≤ 1 := hIr2.1 1
      refine lv_if_eq (tgt := 24) hx hb dX10_countRows_18 (by decide) (fun c22 => ?_) (fun c22 => ?_)
      · have zc22 := eqK rfl (show (0 : Int32).toInt = 0 by decide) c22
        refine lv_iinc (v := 3) (lv' := [(2, .int 3), (1, .int 1), (0, .ref adm)]) hx hb dX10_countRows_24 hl (k := 0) rfl (by decide) (by decide) rfl (fun ls hl => ?_)
        refine lv_goto (tgt := 4) hx hb dX10_countRows_27 (by decide) ?_
        refine lv_iload_n hx hb dX10_countRows_4 rfl (lv_at hl 0 rfl) ?_
        refine lv_iconst (v := 4) hx hb dX10_countRows_5 (by decide) ?_
        refine lv_icmp_ge (tgt := 30) hx hb dX10_countRows_6 (by decide) (fun c23 => False.elim (by revert c23; decide)) (fun c23 => ?_)
        refine lv_aload_n hx hb dX10_countRows_9 rfl (lv_at hl 2 rfl) ?_
        refine getF (v := .ref (qm 5)) hx hb ht hown hK hP iTX10 0 5 rfl rfl (by decide) fl_RX10_41 rfl dX10_countRows_10 ?_
        refine lv_iload_n hx hb dX10_countRows_13 rfl (lv_at hl 0 rfl) ?_
        refine va_aldq hx hb hK.1 hP 2 5 rfl rfl (show ¬ (_ ∨ _) by decide) dX10_countRows_14 ?_
        refine W.eq (g2 := F0 m 15 ls [.ref (qm 23)]) rfl ?_
        refine getF (v := .int (Fr3 1)) hx hb ht hown hK hP iTX7 9 1 rfl rfl (by decide) fl_RX10_354 rfl dX10_countRows_15 ?_
        have zf24 : (0 : Int) ≤ (Fr3 1).toInt ∧ (Fr3 1).toInt ≤ 1 := hIr3.1 1
        refine lv_if_eq (tgt := 24) hx hb dX10_countRows_18 (by decide) (fun c25 => ?_) (fun c25 => ?_)
        · have zc25 := eqK rfl (show (0 : Int32).toInt = 0 by decide) c25
          refine lv_iinc (v := 4) (lv' := [(2, .int 4), (1, .int 1), (0, .ref adm)]) hx hb dX10_countRows_24 hl (k := 0) rfl (by decide) (by decide) rfl (fun ls hl => ?_)
          refine lv_goto (tgt := 4) hx hb dX10_countRows_27 (by decide) ?_
          refine lv_iload_n hx hb dX10_countRows_4 rfl (lv_at hl 0 rfl) ?_
          refine lv_iconst (v := 4) hx hb dX10_countRows_5 (by decide) ?_
          refine lv_icmp_ge (tgt := 30) hx hb dX10_countRows_6 (by decide) (fun c26 => ?_) (fun c26 => False.elim (by revert c26; decide))
          refine lv_iload_n hx hb dX10_countRows_30 rfl (lv_at hl 1 rfl) ?_
          exact retRi hx hb hr hlk hS dX10_countRows_31 (trivial)
        · have zc25 := neK rfl (show (0 : Int32).toInt = 0 by decide) c25
          refine lv_iinc (v := 2) (lv' := [(1, .int 2), (2, .int 3), (0, .ref adm)]) hx hb dX10_countRows_21 hl (k := 1) rfl (by decide) (by decide) rfl (fun ls hl => ?_)
          refine lv_iinc (v := 4) (lv' := [(2, .int 4), (1, .int 2), (0, .ref adm)]) hx hb dX10_countRows_24 hl (k := 1) rfl (by decide) (by decide) rfl (fun ls hl => ?_)
          refine lv_goto (tgt := 4) hx hb dX10_countRows_27 (by decide) ?_
          refine lv_iload_n hx hb dX10_countRows_4 rfl (lv_at hl 0 rfl) ?_
          refine lv_iconst (v := 4) hx hb dX10_countRows_5 (by decide) ?_
          refine lv_icmp_ge (tgt := 30) hx hb dX10_countRows_6 (by decide) (fun c27 => ?_) (fun c27 => False.elim (by revert c27; decide))
          refine lv_iload_n hx hb dX10_countRows_30 rfl (lv_at hl 1 rfl) ?_
          exact retRi hx hb hr hlk hS dX10_countRows_31 (trivial)
      · have zc22 := neK rfl (show (0 : Int32).toInt = 0 by decide) c22
        refine lv_iinc (v := 2) (lv' := [(1, .int 2), (2, .int 2), (0, .ref adm)]) hx hb dX10_countRows_21 hl (k := 1) rfl (by decide) (by decide) rfl (fun ls hl => ?_)
        refine lv_iinc (v := 3) (lv' := [(2, .int 3), (1, .int 2), (0, .ref adm)]) hx hb dX10_countRows_24 hl (k := 1) rfl (by decide) (by decide) rfl (fun ls hl => ?_)
        refine lv_goto (tgt := 4) hx hb dX10_countRows_27 (by decide) ?_
        refine lv_iload_n hx hb dX10_countRows_4 rfl (lv_at hl 0 rfl) ?_
        refine lv_iconst (v := 4) hx hb dX10_countRows_5 (by decide) ?_
        refine lv_icmp_ge (tgt := 30) hx hb dX10_countRows_6 (by decide) (fun c28 => False.elim (by revert c28; decide)) (fun c28 => ?_)
        refine lv_aload_n hx hb dX10_countRows_9 rfl (lv_at hl 2 rfl) ?_
        refine getF (v := .ref (qm 5)) hx hb ht hown hK hP iTX10 0 5 rfl rfl (by decide) fl_RX10_41 rfl dX10_countRows_10 ?_
        refine lv_iload_n hx hb dX10_countRows_13 rfl (lv_at hl 0 rfl) ?_
        refine va_aldq hx hb hK.1 hP 2 5 rfl rfl (show ¬ (_ ∨ _) by decide) dX10_countRows_14 ?_
        refine W.eq (g2 := F0 m 15 ls [.ref (qm 23)]) rfl ?_
        refine getF (v := .int (Fr3 1)) hx hb ht hown hK hP iTX7 9 1 rfl rfl (by decide) fl_RX10_354 rfl dX10_countRows_15 ?_
        have zf29 : (0 : Int) ≤ (Fr3 1).toInt ∧ (Fr3 1).toInt ≤ 1 := hIr3.1 1
        refine lv_if_eq (tgt := 24) hx hb dX10_countRows_18 (by decide) (fun c30 => ?_) (fun c30 => ?_)
        · have zc30 := eqK rfl (show (0 : Int32).toInt = 0 by decide) c30
          refine lv_iinc (v := 4) (lv' := [(2, .int 4), (1, .int 2), (0, .ref adm)]) hx hb dX10_countRows_24 hl (k := 0) rfl (by decide) (by decide) rfl (fun ls hl => ?_)
          refine lv_goto (tgt := 4) hx hb dX10_countRows_27 (by decide) ?_
          refine lv_iload_n hx hb dX10_countRows_4 rfl (lv_at hl 0 rfl) ?_
          refine lv_iconst (v := 4) hx hb dX10_countRows_5 (by decide) ?_
          refine lv_icmp_ge (tgt := 30) hx hb dX10_countRows_6 (by decide) (fun c31 => ?_) (fun c31 => False.elim (by revert c31; decide))
          refine lv_iload_n hx hb dX10_countRows_30 rfl (lv_at hl 1 rfl) ?_
          exact retRi hx hb hr hlk hS dX10_countRows_31 (trivial)
        · have zc30 := neK rfl (show (0 : Int32).toInt = 0 by decide) c30
          refine lv_iinc (v := 3) (lv' := [(1, .int 3), (2, .int 3), (0, .ref adm)]) hx hb dX10_countRows_21 hl (k := 1) rfl (by decide) (by decide) rfl (fun ls hl => ?_)
          refine lv_iinc (v := 4) (lv' := [(2, .int 4), (1, .int 3), (0, .ref adm)]) hx hb dX10_countRows_24 hl (k := 1) rfl (by decide) (by decide) rfl (fun ls hl => ?_)
          refine lv_goto (tgt := 4) hx hb dX10_countRows_27 (by decide) ?_
          refine lv_iload_n hx hb dX10_countRows_4 rfl (lv_at hl 0 rfl) ?_
          refine lv_iconst (v := 4) hx hb dX10_countRows_5 (by decide) ?_
          refine lv_icmp_ge (tgt := 30) hx hb dX10_countRows_6 (by decide) (fun c32 => ?_) (fun c32 => False.elim (by revert c32; decide))
          refine lv_iload_n hx hb dX10_countRows_30 rfl (lv_at hl 1 rfl) ?_
          exact retRi hx hb hr hlk hS dX10_countRows_31 (trivial)
  · have zc3 := neK rfl (show (0 : Int32).toInt = 0 by decide) c3
    refine lv_iinc (v := 1) (lv' := [(1, .int 1), (2, .int 0), (0, .ref adm)]) hx hb dX10_countRows_21 hl (k := 1) rfl (by decide) (by decide) rfl (fun ls hl => ?_)
    refine lv_iinc (v := 1) (lv' := [(2, .int 1), (1, .int 1), (0, .ref adm)]) hx hb dX10_countRows_24 hl (k := 1) rfl (by decide) (by decide) rfl (fun ls hl => ?_)
    refine lv_goto (tgt := 4) hx hb dX10_countRows_27 (by decide) ?_
    refine lv_iload_n hx hb dX10_countRows_4 rfl (lv_at hl 0 rfl) ?_
    refine lv_iconst (v := 4) hx hb dX10_countRows_5 (by decide) ?_
    refine lv_icmp_ge (tgt := 30) hx hb dX10_countRows_6 (by decide) (fun c33 => False.elim (by revert c33; decide)) (fun c33 => ?_)
    refine lv_aload_n hx hb dX10_countRows_9 rfl (lv_at hl 2 rfl) ?_
    refine getF (v := .ref (qm 5)) hx hb ht hown hK hP iTX10 0 5 rfl rfl (by decide) fl_RX10_41 rfl dX10_countRows_10 ?_
    refine lv_iload_n hx hb dX10_countRows_13 rfl (lv_at hl 0 rfl) ?_
    refine va_aldq hx hb hK.1 hP 2 5 rfl rfl (show ¬ (_ ∨ _) by decide) dX10_countRows_14 ?_
    refine W.eq (g2 := F0 m 15 ls [.ref (qm 21)]) rfl ?_
    refine getF (v := .int (Fr1 1)) hx hb ht hown hK hP iTX7 5 1 rfl rfl (by decide) fl_RX10_354 rfl dX10_countRows_15 ?_
    have zf34 : (0 : Int) ≤ (Fr1 1).toInt ∧ (Fr1 1).toInt ≤ 1 := hIr1.1 1
    refine lv_if_eq (tgt := 24) hx hb dX10_countRows_18 (by decide) (fun c35 => ?_) (fun c35 => ?_)
    · have zc35 := eqK rfl (show (0 : Int32).toInt = 0 by decide) c35
      refine lv_iinc (v := 2) (lv' := [(2, .int 2), (1, .int 1), (0, .ref adm)]) hx hb dX10_countRows_24 hl (k := 0) rfl (by decide) (by decide) rfl (fun ls hl => ?_)
      refine lv_goto (tgt := 4) hx hb dX10_countRows_27 (by decide) ?_
      refine lv_iload_n hx hb dX10_countRows_4 rfl (lv_at hl 0 rfl) ?_
      refine lv_iconst (v := 4) hx hb dX10_countRows_5 (by decide) ?_
      refine lv_icmp_ge (tgt := 30) hx hb dX10_countRows_6 (by decide) (fun c36 => False.elim (by revert c36; decide)) (fun c36 => ?_)
      refine lv_aload_n hx hb dX10_countRows_9 rfl (lv_at hl 2 rfl) ?_
      refine getF (v := .ref (qm 5)) hx hb ht hown hK hP iTX10 0 5 rfl rfl (by decide) fl_RX10_41 rfl dX10_countRows_10 ?_
      refine lv_iload_n hx hb dX10_countRows_13 rfl (lv_at hl 0 rfl) ?_
      refine va_aldq hx hb hK.1 hP 2 5 rfl rfl (show ¬ (_ ∨ _) by decide) dX10_countRows_14 ?_
      refine W.eq (g2 := F0 m 15 ls [.ref (qm 22)]) rfl ?_
      refine getF (v := .int (Fr2 1)) hx hb ht hown hK hP iTX7 7 1 rfl rfl (by decide) fl_RX10_354 rfl dX10_countRows_15 ?_
      have zf37 : (0 : Int) ≤ (Fr2 1).toInt ∧ (Fr2 1).toInt ≤ 1 := hIr2.1 1
      refine lv_if_eq (tgt := 24) hx hb dX10_countRows_18 (by decide) (fun c38 => ?_) (fun c38 => ?_)
      · have zc38 := eqK rfl (show (0 : Int32).toInt = 0 by decide) c38
        refine lv_iinc (v := 3) (lv' := [(2, .int 3), (1, .int 1), (0, .ref adm)]) hx hb dX10_countRows_24 hl (k := 0) rfl (by decide) (by decide) rfl (fun ls hl => ?_)
        refine lv_goto (tgt := 4) hx hb dX10_countRows_27 (by decide) ?_
        refine lv_iload_n hx hb dX10_countRows_4 rfl (lv_at hl 0 rfl) ?_
        refine lv_iconst (v := 4) hx hb dX10_countRows_5 (by decide) ?_
        refine lv_icmp_ge (tgt := 30) hx hb dX10_countRows_6 (by decide) (fun c39 => False.elim (by revert c39; decide)) (fun c39 => ?_)
        refine lv_aload_n hx hb dX10_countRows_9 rfl (lv_at hl 2 rfl) ?_
        refine getF (v := .ref (qm 5)) hx hb ht hown hK hP iTX10 0 5 rfl rfl (by decide) fl_RX10_41 rfl dX10_countRows_10 ?_
        refine lv_iload_n hx hb dX10_countRows_13 rfl (lv_at hl 0 rfl) ?_
        refine va_aldq hx hb hK.1 hP 2 5 rfl rfl (show ¬ (_ ∨ _) by decide) dX10_countRows_14 ?_
        refine W.eq (g2 := F0 m 15 ls [.ref (qm 23)]) rfl ?_
        refine getF (v := .int (Fr3 1)) hx hb ht hown hK hP iTX7 9 1 rfl rfl (by decide) fl_RX10_354 rfl dX10_countRows_15 ?_
        have zf40 : (0 : Int) ≤ (Fr3 1).toInt ∧ (Fr3 1).toInt ≤ 1 := hIr3.1 1
        refine lv_if_eq (tgt := 24) hx hb dX10_countRows_18 (by decide) (fun c41 => ?_) (fun c41 => ?_)
        · have zc41 := eqK rfl (show (0 : Int32).toInt = 0 by decide) c41
          refine lv_iinc (v := 4) (lv' := [(2, .int 4), (1, .int 1), (0, .ref adm)]) hx hb dX10_countRows_24 hl (k := 0) rfl (by decide) (by decide) rfl (fun ls hl => ?_)
          refine lv_goto (tgt := 4) hx hb dX10_countRows_27 (by decide) ?_
          refine lv_iload_n hx hb dX10_countRows_4 rfl (lv_at hl 0 rfl) ?_
          refine lv_iconst (v := 4) hx hb dX10_countRows_5 (by decide) ?_
          refine lv_icmp_ge (tgt := 30) hx hb dX10_countRows_6 (by decide) (fun c42 => ?_) (fun c42 => False.elim (by revert c42; decide))
          refine lv_iload_n hx hb dX10_countRows_30 rfl (lv_at hl 1 rfl) ?_
          exact retRi hx hb hr hlk hS dX10_countRows_31 (trivial)
        · have zc41 := neK rfl (show (0 : Int32).toInt = 0 by decide) c41
          refine lv_iinc (v := 2) (lv' := [(1, .int 2), (2, .int 3), (0, .ref adm)]) hx hb dX10_countRows_21 hl (k := 1) rfl (by decide) (by decide) rfl (fun ls hl => ?_)
          refine lv_iinc (v := 4) (lv' := [(2, .int 4), (1, .int 2), (0, .ref adm)]) hx hb dX10_countRows_24 hl (k := 1) rfl (by decide) (by decide) rfl (fun ls hl => ?_)
          refine lv_goto (tgt := 4) hx hb dX10_countRows_27 (by decide) ?_
          refine lv_iload_n hx hb dX10_countRows_4 rfl (lv_at hl 0 rfl) ?_
          refine lv_iconst (v := 4) hx hb dX10_countRows_5 (by decide) ?_
          refine lv_icmp_ge (tgt := 30) hx hb dX10_countRows_6 (by decide) (fun c43 => ?_) (fun c43 => False.elim (by revert c43; decide))
          refine lv_iload_n hx hb dX10_countRows_30 rfl (lv_at hl 1 rfl) ?_
          exact retRi hx hb hr hlk hS dX10_countRows_31 (trivial)
      · have zc38 := neK rfl (show (0 : Int32).toInt = 0 by decide) c38
        refine lv_iinc (v := 2) (lv' := [(1, .int 2), (2, .int 2), (0, .ref adm)]) hx hb dX10_countRows_21 hl (k := 1) rfl (by decide) (by decide) rfl (fun ls hl => ?_)
        refine lv_iinc (v := 3) (lv' := [(2, .int 3), (1, .int 2), (0, .ref adm)]) hx hb dX10_countRows_24 hl (k := 1) rfl (by decide) (by decide) rfl (fun ls hl => ?_)
        refine lv_goto (tgt := 4) hx hb dX10_countRows_27 (by decide) ?_
        refine lv_iload_n hx hb dX10_countRows_4 rfl (lv_at hl 0 rfl) ?_
        refine lv_iconst (v := 4) hx hb dX10_countRows_5 (by decide) ?_
        refine lv_icmp_ge (tgt := 30) hx hb dX10_countRows_6 (by decide) (fun c44 => False.elim (by revert c44; decide)) (fun c44 => ?_)
        refine lv_aload_n hx hb dX10_countRows_9 rfl (lv_at hl 2 rfl) ?_
        refine getF (v := .ref (qm 5)) hx hb ht hown hK hP iTX10 0 5 rfl rfl (by decide) fl_RX10_41 rfl dX10_countRows_10 ?_
        refine lv_iload_n hx hb dX10_countRows_13 rfl (lv_at hl 0 rfl) ?_
        refine va_aldq hx hb hK.1 hP 2 5 rfl rfl (show ¬ (_ ∨ _) by decide) dX10_countRows_14 ?_
        refine W.eq (g2 := F0 m 15 ls [.ref (qm 23)]) rfl ?_
        refine getF (v := .int (Fr3 1)) hx hb ht hown hK hP iTX7 9 1 rfl rfl (by decide) fl_RX10_354 rfl dX10_countRows_15 ?_
        have zf45 : (0 : Int) ≤ (Fr3 1).toInt ∧ (Fr3 1).toInt ≤ 1 := hIr3.1 1
        refine lv_if_eq (tgt := 24) hx hb dX10_countRows_18 (by decide) (fun c46 => ?_) (fun c46 => ?_)
        · have zc46 := eqK rfl (show (0 : Int32).toInt = 0 by decide) c46
          refine lv_iinc (v := 4) (lv' := [(2, .int 4), (1, .int 2), (0, .ref adm)]) hx hb dX10_countRows_24 hl (k := 0) rfl (by decide) (by decide) rfl (fun ls hl => ?_)
          refine lv_goto (tgt := 4) hx hb dX10_countRows_27 (by decide) ?_
          refine lv_iload_n hx hb dX10_countRows_4 rfl (lv_at hl 0 rfl) ?_
          refine lv_iconst (v := 4) hx hb dX10_countRows_5 (by decide) ?_
          refine lv_icmp_ge (tgt := 30) hx hb dX10_countRows_6 (by decide) (fun c47 => ?_) (fun c47 => False.elim (by revert c47; decide))
          refine lv_iload_n hx hb dX10_countRows_30 rfl (lv_at hl 1 rfl) ?_
          exact retRi hx hb hr hlk hS dX10_countRows_31 (trivial)
        · have zc46 := neK rfl (show (0 : Int32).toInt = 0 by decide) c46
          refine lv_iinc (v := 3) (lv' := [(1, .int 3), (2, .int 3), (0, .ref adm)]) hx hb dX10_countRows_21 hl (k := 1) rfl (by decide) (by decide) rfl (fun ls hl => ?_)
          refine lv_iinc (v := 4) (lv' := [(2, .int 4), (1, .int 3), (0, .ref adm)]) hx hb dX10_countRows_24 hl (k := 1) rfl (by decide) (by decide) rfl (fun ls hl => ?_)
          refine lv_goto (tgt := 4) hx hb dX10_countRows_27 (by decide) ?_
          refine lv_iload_n hx hb dX10_countRows_4 rfl (lv_at hl 0 rfl) ?_
          refine lv_iconst (v := 4) hx hb dX10_countRows_5 (by decide) ?_
          refine lv_icmp_ge (tgt := 30) hx hb dX10_countRows_6 (by decide) (fun c48 => ?_) (fun c48 => False.elim (by revert c48; decide))
          refine lv_iload_n hx hb dX10_countRows_30 rfl (lv_at hl 1 rfl) ?_
          exact retRi hx hb hr hlk hS dX10_countRows_31 (trivial)
    · have zc35 := neK rfl (show (0 : Int32).toInt = 0 by decide) c35
      refine lv_iinc (v := 2) (lv' := [(1, .int 2), (2, .int 1), (0, .ref adm)]) hx hb dX10_countRows_21 hl (k := 1) rfl (by decide) (by decide) rfl (fun ls hl => ?_)
      refine lv_iinc (v := 2) (lv' := [(2, .int 2), (1, .int 2), (0, .ref adm)]) hx hb dX10_countRows_24 hl (k := 1) rfl (by decide) (by decide) rfl (fun ls hl => ?_)
      refine lv_goto (tgt := 4) hx hb dX10_countRows_27 (by decide) ?_
      refine lv_iload_n hx hb dX10_countRows_4 rfl (lv_at hl 0 rfl) ?_
      refine lv_iconst (v := 4) hx hb dX10_countRows_5 (by decide) ?_
      refine lv_icmp_ge (tgt := 30) hx hb dX10_countRows_6 (by decide) (fun c49 => False.elim (by revert c49; decide)) (fun c49 => ?_)
      refine lv_aload_n hx hb dX10_countRows_9 rfl (lv_at hl 2 rfl) ?_
      refine getF (v := .ref (qm 5)) hx hb ht hown hK hP iTX10 0 5 rfl rfl (by decide) fl_RX10_41 rfl dX10_countRows_10 ?_
      refine lv_iload_n hx hb dX10_countRows_13 rfl (lv_at hl 0 rfl) ?_
      refine va_aldq hx hb hK.1 hP 2 5 rfl rfl (show ¬ (_ ∨ _) by decide) dX10_countRows_14 ?_
      refine W.eq (g2 := F0 m 15 ls [.ref (qm 22)]) rfl ?_
      refine getF (v := .int (Fr2 1)) hx hb ht hown hK hP iTX7 7 1 rfl rfl (by decide) fl_RX10_354 rfl dX10_countRows_15 ?_
      have zf50 : (0 : Int) ≤ (Fr2 1).toInt ∧ (Fr2 1).toInt ≤ 1 := hIr2.1 1
      refine lv_if_eq (tgt := 24) hx hb dX10_countRows_18 (by decide) (fun c51 => ?_) (fun c51 => ?_)
      · have zc51 := eqK rfl (show (0 : Int32).toInt = 0 by decide) c51
        refine lv_iinc (v := 3) (lv' := [(2, .int 3), (1, .int 2), (0, .ref adm)]) hx hb dX10_countRows_24 hl (k := 0) rfl (by decide) (by decide) rfl (fun ls hl => ?_)
        refine lv_goto (tgt := 4) hx hb dX10_countRows_27 (by decide) ?_
        refine lv_iload_n hx hb dX10_countRows_4 rfl (lv_at hl 0 rfl) ?_
        refine lv_iconst (v := 4) hx hb dX10_countRows_5 (by decide) ?_
        refine lv_icmp_ge (tgt := 30) hx hb dX10_countRows_6 (by decide) (fun c52 => False.elim (by revert c52; decide)) (fun c52 => ?_)
        refine lv_aload_n hx hb dX10_countRows_9 rfl (lv_at hl 2 rfl) ?_
        refine getF (v := .ref (qm 5)) hx hb ht hown hK hP iTX10 0 5 rfl rfl (by decide) fl_RX10_41 rfl dX10_countRows_10 ?_
        refine lv_iload_n hx hb dX10_countRows_13 rfl (lv_at hl 0 rfl) ?_
        refine va_aldq hx hb hK.1 hP 2 5 rfl rfl (show ¬ (_ ∨ _) by decide) dX10_countRows_14 ?_
        refine W.eq (g2 := F0 m 15 ls [.ref (qm 23)]) rfl ?_
        refine getF (v := .int (Fr3 1)) hx hb ht hown hK hP iTX7 9 1 rfl rfl (by decide) fl_RX10_354 rfl dX10_countRows_15 ?_
        have zf53 : (0 : Int) ≤ (Fr3 1).toInt ∧ (Fr3 1).toInt ≤ 1 := hIr3.1 1
        refine lv_if_eq (tgt := 24) hx hb dX10_countRows_18 (by decide) (fun c54 => ?_) (fun c54 => ?_)
        · have zc54 := eqK rfl (show (0 : Int32).toInt = 0 by decide) c54
          refine lv_iinc (v := 4) (lv' := [(2, .int 4), (1, .int 2), (0, .ref adm)]) hx hb dX10_countRows_24 hl (k := 0) rfl (by decide) (by decide) rfl (fun ls hl => ?_)
          refine lv_goto (tgt := 4) hx hb dX10_countRows_27 (by decide) ?_
          refine lv_iload_n hx hb dX10_countRows_4 rfl (lv_at hl 0 rfl) ?_
          refine lv_iconst (v := 4) hx hb dX10_countRows_5 (by decide) ?_
          refine lv_icmp_ge (tgt := 30) hx hb dX10_countRows_6 (by decide) (fun c55 => ?_) (fun c55 => False.elim (by revert c55; decide))
          refine lv_iload_n hx hb dX10_countRows_30 rfl (lv_at hl 1 rfl) ?_
          exact retRi hx hb hr hlk hS dX10_countRows_31 (trivial)
        · have zc54 := neK rfl (show (0 : Int32).toInt = 0 by decide) c54
          refine lv_iinc (v := 3) (lv' := [(1, .int 3), (2, .int 3), (0, .ref adm)]) hx hb dX10_countRows_21 hl (k := 1) rfl (by decide) (by decide) rfl (fun ls hl => ?_)
          refine lv_iinc (v := 4) (lv' := [(2, .int 4), (1, .int 3), (0, .ref adm)]) hx hb dX10_countRows_24 hl (k := 1) rfl (by decide) (by decide) rfl (fun ls hl => ?_)
          refine lv_goto (tgt := 4) hx hb dX10_countRows_27 (by decide) ?_
          refine lv_iload_n hx hb dX10_countRows_4 rfl (lv_at hl 0 rfl) ?_
          refine lv_iconst (v := 4) hx hb dX10_countRows_5 (by decide) ?_
          refine lv_icmp_ge (tgt := 30) hx hb dX10_countRows_6 (by decide) (fun c56 => ?_) (fun c56 => False.elim (by revert c56; decide))
          refine lv_iload_n hx hb dX10_countRows_30 rfl (lv_at hl 1 rfl) ?_
          exact retRi hx hb hr hlk hS dX10_countRows_31 (trivial)
      · have zc51 := neK rfl (show (0 : Int32).toInt = 0 by decide) c51
        refine lv_iinc (v := 3) (lv' := [(1, .int 3), (2, .int 2), (0, .ref adm)]) hx hb dX10_countRows_21 hl (k := 1) rfl (by decide) (by decide) rfl (fun ls hl => ?_)
        refine lv_iinc (v := 3) (lv' := [(2, .int 3), (1, .int 3), (0, .ref adm)]) hx hb dX10_countRows_24 hl (k := 1) rfl (by decide) (by decide) rfl (fun ls hl => ?_)
        refine lv_goto (tgt := 4) hx hb dX10_countRows_27 (by decide) ?_
        refine lv_iload_n hx hb dX10_countRows_4 rfl (lv_at hl 0 rfl) ?_
        refine lv_iconst (v := 4) hx hb dX10_countRows_5 (by decide) ?_
        refine lv_icmp_ge (tgt := 30) hx hb dX10_countRows_6 (by decide) (fun c57 => False.elim (by revert c57; decide)) (fun c57 => ?_)
        refine lv_aload_n hx hb dX10_countRows_9 rfl (lv_at hl 2 rfl) ?_
        refine getF (v := .ref (qm 5)) hx hb ht hown hK hP iTX10 0 5 rfl rfl (by decide) fl_RX10_41 rfl dX10_countRows_10 ?_
        refine lv_iload_n hx hb dX10_countRows_13 rfl (lv_at hl 0 rfl) ?_
        refine va_aldq hx hb hK.1 hP 2 5 rfl rfl (show ¬ (_ ∨ _) by decide) dX10_countRows_14 ?_
        refine W.eq (g2 := F0 m 15 ls [.ref (qm 23)]) rfl ?_
        refine getF (v := .int (Fr3 1)) hx hb ht hown hK hP iTX7 9 1 rfl rfl (by decide) fl_RX10_354 rfl dX10_countRows_15 ?_
        have zf58 : (0 : Int) ≤ (Fr3 1).toInt ∧ (Fr3 1).toInt ≤ 1 := hIr3.1 1
        refine lv_if_eq (tgt := 24) hx hb dX10_countRows_18 (by decide) (fun c59 => ?_) (fun c59 => ?_)
        · have zc59 := eqK rfl (show (0 : Int32).toInt = 0 by decide) c59
          refine lv_iinc (v := 4) (lv' := [(2, .int 4), (1, .int 3), (0, .ref adm)]) hx hb dX10_countRows_24 hl (k := 0) rfl (by decide) (by decide) rfl (fun ls hl => ?_)
          refine lv_goto (tgt := 4) hx hb dX10_countRows_27 (by decide) ?_
          refine lv_iload_n hx hb dX10_countRows_4 rfl (lv_at hl 0 rfl) ?_
          refine lv_iconst (v := 4) hx hb dX10_countRows_5 (by decide) ?_
          refine lv_icmp_ge (tgt := 30) hx hb dX10_countRows_6 (by decide) (fun c60 => ?_) (fun c60 => False.elim (by revert c60; decide))
          refine lv_iload_n hx hb dX10_countRows_30 rfl (lv_at hl 1 rfl) ?_
          exact retRi hx hb hr hlk hS dX10_countRows_31 (trivial)
        · have zc59 := neK rfl (show (0 : Int32).toInt = 0 by decide) c59
          refine lv_iinc (v := 4) (lv' := [(1, .int 4), (2, .int 3), (0, .ref adm)]) hx hb dX10_countRows_21 hl (k := 1) rfl (by decide) (by decide) rfl (fun ls hl => ?_)
          refine lv_iinc (v := 4) (lv' := [(2, .int 4), (1, .int 4), (0, .ref adm)]) hx hb dX10_countRows_24 hl (k := 1) rfl (by decide) (by decide) rfl (fun ls hl => ?_)
          refine lv_goto (tgt := 4) hx hb dX10_countRows_27 (by decide) ?_
          refine lv_iload_n hx hb dX10_countRows_4 rfl (lv_at hl 0 rfl) ?_
          refine lv_iconst (v := 4) hx hb dX10_countRows_5 (by decide) ?_
          refine lv_icmp_ge (tgt := 30) hx hb dX10_countRows_6 (by decide) (fun c61 => ?_) (fun c61 => False.elim (by revert c61; decide))
          refine lv_iload_n hx hb dX10_countRows_30 rfl (lv_at hl 1 rfl) ?_
          exact retRi hx hb hr hlk hS dX10_countRows_31 (trivial)

