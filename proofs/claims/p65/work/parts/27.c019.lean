set_option maxRecDepth 100000 in
set_option maxHeartbeats 16000000 in
theorem sX3_column_0 (l : Launch) (G : va_G) (cs : Nat → ClassId) (adt : Nat) (qt : Nat → Nat) (Ft : Nat → Int32) (At : Nat → Nat → Int32) (Bt : Nat → Nat → Int64) (Dt : Int64) (hIt : IX3 Ft At) : ∀ sz : Nat, Met l yX3_column (wk yX3_column cX3_column 2 (some (.array .int))) (rmk 0 0 0) (PreP G (TY cs) [.ref adt, .int 0] (uX3 cs adt qt Ft At Bt Dt) sz) (QRr (qt 7) sz) 0 0 (fun q => sz ≤ q) := by
  refine mkP (Qc := QRr (qt 7)) (by decide) (by simp [lg_sl, Value.category]) ?_
  intro p e s m args below meth c ls hx hb hml hr hlk hown ht hK hP hS hl
  have hl : lv_has ls 2 [(0, .ref adt), (1, .int 0)] := hl
  refine lv_iload_n hx hb dX3_column_0 rfl (lv_at hl 1 rfl) ?_
  refine lv_tableIn (off := 27) (tgt := 28) hx hb dX3_column_1 (by decide) (by decide) (by decide) (by decide) ?_
  refine lv_aload_n hx hb dX3_column_28 rfl (lv_at hl 0 rfl) ?_
  refine getF (v := .ref (qt 7)) hx hb ht hown hK hP iTX3 0 7 rfl rfl (by decide) fl_RX3_9 rfl dX3_column_29 ?_
  exact retRr hx hb hr hlk hS dX3_column_32

set_option maxRecDepth 100000 in
set_option maxHeartbeats 16000000 in
theorem sX3_column_1 (l : Launch) (G : va_G) (cs : Nat → ClassId) (adt : Nat) (qt : Nat → Nat) (Ft : Nat → Int32) (At : Nat → Nat → Int32) (Bt : Nat → Nat → Int64) (Dt : Int64) (hIt : IX3 Ft At) : ∀ sz : Nat, Met l yX3_column (wk yX3_column cX3_column 2 (some (.array .int))) (rmk 0 0 0) (PreP G (TY cs) [.ref adt, .int 1] (uX3 cs adt qt Ft At Bt Dt) sz) (QRr (qt 8) sz) 0 0 (fun q => sz ≤ q) := by
  refine mkP (Qc := QRr (qt 8)) (by decide) (by simp [lg_sl, Value.category]) ?_
  intro p e s m args below meth c ls hx hb hml hr hlk hown ht hK hP hS hl
  have hl : lv_has ls 2 [(0, .ref adt), (1, .int 1)] := hl
  refine lv_iload_n hx hb dX3_column_0 rfl (lv_at hl 1 rfl) ?_
  refine lv_tableIn (off := 32) (tgt := 33) hx hb dX3_column_1 (by decide) (by decide) (by decide) (by decide) ?_
  refine lv_aload_n hx hb dX3_column_33 rfl (lv_at hl 0 rfl) ?_
  refine getF (v := .ref (qt 8)) hx hb ht hown hK hP iTX3 0 8 rfl rfl (by decide) fl_RX3_15 rfl dX3_column_34 ?_
  exact retRr hx hb hr hlk hS dX3_column_37

set_option maxRecDepth 100000 in
set_option maxHeartbeats 16000000 in
theorem sX3_column_2 (l : Launch) (G : va_G) (cs : Nat → ClassId) (adt : Nat) (qt : Nat → Nat) (Ft : Nat → Int32) (At : Nat → Nat → Int32) (Bt : Nat → Nat → Int64) (Dt : Int64) (hIt : IX3 Ft At) : ∀ sz : Nat, Met l yX3_column (wk yX3_column cX3_column 2 (some (.array .int))) (rmk 0 0 0) (PreP G (TY cs) [.ref adt, .int 2] (uX3 cs adt qt Ft At Bt Dt) sz) (QRr (qt 9) sz) 0 0 (fun q => sz ≤ q) := by
  refine mkP (Qc := QRr (qt 9)) (by decide) (by simp [lg_sl, Value.category]) ?_
  intro p e s m args below meth c ls hx hb hml hr hlk hown ht hK hP hS hl
  have hl : lv_has ls 2 [(0, .ref adt), (1, .int 2)] := hl
  refine lv_iload_n hx hb dX3_column_0 rfl (lv_at hl 1 rfl) ?_
  refine lv_tableIn (off := 37) (tgt := 38) hx hb dX3_column_1 (by decide) (by decide) (by decide) (by decide) ?_
  refine lv_aload_n hx hb dX3_column_38 rfl (lv_at hl 0 rfl) ?_
  refine getF (v := .ref (qt 9)) hx hb ht hown hK hP iTX3 0 9 rfl rfl (by decide) fl_RX3_18 rfl dX3_column_39 ?_
  exact retRr hx hb hr hlk hS dX3_column_42

set_option maxRecDepth 100000 in
set_option maxHeartbeats 16000000 in
theorem sX3_column_3 (l : Launch) (G : va_G) (cs : Nat → ClassId) (adt : Nat) (qt : Nat → Nat) (Ft : Nat → Int32) (At : Nat → Nat → Int32) (Bt : Nat → Nat → Int64) (Dt : Int64) (hIt : IX3 Ft At) : ∀ sz : Nat, Met l yX3_column (wk yX3_column cX3_column 2 (some (.array .int))) (rmk 0 0 0) (PreP G (TY cs) [.ref adt, .int 3] (uX3 cs adt qt Ft At Bt Dt) sz) (QRr (qt 10) sz) 0 0 (fun q => sz ≤ q) := by
  refine mkP (Qc := QRr (qt 10)) (by decide) (by simp [lg_sl, Value.category]) ?_
  intro p e s m args below meth c ls hx hb hml hr hlk hown ht hK hP hS hl
  have hl : lv_has ls 2 [(0, .ref adt), (1, .int 3)] := hl
  refine lv_iload_n hx hb dX3_column_0 rfl (lv_at hl 1 rfl) ?_
  refine lv_tableOut (tgt := 43) hx hb dX3_column_1 (by decide) (by decide) ?_
  refine lv_aload_n hx hb dX3_column_43 rfl (lv_at hl 0 rfl) ?_
  refine getF (v := .ref (qt 10)) hx hb ht hown hK hP iTX3 0 10 rfl rfl (by decide) fl_RX3_21 rfl dX3_column_44 ?_
  exact retRr hx hb hr hlk hS dX3_column_47

set_option maxRecDepth 100000 in
set_option maxHeartbeats 16000000 in
theorem sX0_stepAt (l : Launch) (G : va_G) (cs : Nat → ClassId) (adt : Nat) (qt : Nat → Nat) (Ft : Nat → Int32) (At : Nat → Nat → Int32) (Bt : Nat → Nat → Int64) (Dt : Int64) (hIt : IX0 Ft At) (a1 : Int32) : ∀ sz : Nat, Met l yX0_stepAt (wk yX0_stepAt cX0_stepAt 2 (some .int)) (rmk 0 0 0) (PreP G (TY cs) [.ref adt, .int a1] (uX0 cs adt qt Ft At Bt Dt) sz) (QRi (fun r : Int32 => True) sz) 0 0 (fun q => sz ≤ q) := by
  refine mkP (Qc := QRi (fun r : Int32 => True)) (by decide) (by simp [lg_sl, Value.category]) ?_
  intro p e s m args below meth c ls hx hb hml hr hlk hown ht hK hP hS hl
  have hl : lv_has ls 2 [(0, .ref adt), (1, .int a1)] := hl
  refine lv_iload_n hx hb dX0_stepAt_0 rfl (lv_at hl 1 rfl) ?_
  refine lv_if_lt (tgt := 20) hx hb dX0_stepAt_1 (by decide) (fun c1 => ?_) (fun c1 => ?_)
  · have zc1 := ltK rfl (show (0 : Int32).toInt = 0 by decide) c1
    refine lv_iconst (v := (-1)) hx hb dX0_stepAt_20 (by decide) ?_
    exact retRi hx hb hr hlk hS dX0_stepAt_21 (trivial)
  · have zc1 := nltK rfl (show (0 : Int32).toInt = 0 by decide) c1
    refine lv_iload_n hx hb dX0_stepAt_4 rfl (lv_at hl 1 rfl) ?_
    refine lv_iconst (v := 5) hx hb dX0_stepAt_5 (by decide) ?_
    refine lv_icmp_ge (tgt := 20) hx hb dX0_stepAt_6 (by decide) (fun c2 => ?_) (fun c2 => ?_)
    · have zc2 := leK (show (5 : Int32).toInt = 5 by decide) rfl c2
      refine lv_iconst (v := (-1)) hx hb dX0_stepAt_20 (by decide) ?_
      exact retRi hx hb hr hlk hS dX0_stepAt_21 (trivial)
    · have zc2 := nleK (show (5 : Int32).toInt = 5 by decide) rfl c2
      refine lv_aload_n hx hb dX0_stepAt_9 rfl (lv_at hl 0 rfl) ?_
      refine getF (v := .ref (qt 1)) hx hb ht hown hK hP iTX0 0 1 rfl rfl (by decide) fl_RX0_19 rfl dX0_stepAt_10 ?_
      refine lv_iconst (v := 0) hx hb dX0_stepAt_13 (by decide) ?_
      refine va_ald2 hx hb hK.1 hP 2 7 rfl rfl (show ¬ (_ ∨ _) by decide) dX0_stepAt_14 ?_
      refine W.eq (g2 := F0 m 15 ls [.ref (qt 20)]) rfl ?_
      refine lv_iload_n hx hb dX0_stepAt_15 rfl (lv_at hl 1 rfl) ?_
      refine va_iald hx hb hK.1 hP 4 0 rfl rfl (inK rfl (by omega) (by decide)) dX0_stepAt_16 ?_
      refine lv_topi (fun v3 ev3 => ?_)
      refine lv_goto (tgt := 21) hx hb dX0_stepAt_17 (by decide) ?_
      exact retRi hx hb hr hlk hS dX0_stepAt_21 (trivial)

set_option maxRecDepth 100000 in
set_option maxHeartbeats 16000000 in
theorem sX0_keepWay_0 (l : Launch) (G : va_G) (cs : Nat → ClassId) (adt : Nat) (qt : Nat → Nat) (Ft : Nat → Int32) (At : Nat → Nat → Int32) (Bt : Nat → Nat → Int64) (Dt : Int64) (hIt : IX0 Ft At) (a2 : Int32) : ∀ sz : Nat, Met l yX0_keepWay (wk yX0_keepWay cX0_keepWay 4 none) (rmk 0 0 0) (PreD G (TY cs) [.ref adt, .int 0, .int a2] (uX0 cs adt qt Ft At Bt Dt) sz) ((QDw G (fun u : (Nat → Int32) => True) (fun u : (Nat → Int32) => (wX0 cs adt qt Ft (vA At 20 u) Bt Dt))) (va_A (uX0 cs adt qt Ft At Bt Dt) sz)) 0 0 (va_A (uX0 cs adt qt Ft At Bt Dt) sz) := by
  refine mkD (Qc := (QDw G (fun u : (Nat → Int32) => True) (fun u : (Nat → Int32) => (wX0 cs adt qt Ft (vA At 20 u) Bt Dt)))) (by decide) (by simp [lg_sl, Value.category]) ?_
  intro p e s m args below meth c ls A0 hx hb hml hr hlk hown hmn ht hK hP hD hS hA hl
  have hl : lv_has ls 4 [(0, .ref adt), (1, .int 0), (2, .int a2)] := hl
  refine lv_aload_n hx hb dX0_keepWay_0 rfl (lv_at hl 0 rfl) ?_
  refine getF (v := .ref (qt 1)) hx hb ht hown hK hP iTX0 0 1 rfl rfl (by decide) fl_RX0_19 rfl dX0_keepWay_1 ?_
  refine lv_iload_n hx hb dX0_keepWay_4 rfl (lv_at hl 1 rfl) ?_
  refine va_ald2 hx hb hK.1 hP 2 7 rfl rfl (show ¬ (_ ∨ _) by decide) dX0_keepWay_5 ?_
  refine W.eq (g2 := F0 m 6 ls [.ref (qt 20)]) rfl ?_
  refine lv_iload_n hx hb dX0_keepWay_6 rfl (lv_at hl 1 rfl) ?_
  refine lv_iload_n hx hb dX0_keepWay_7 rfl (lv_at hl 2 rfl) ?_
  refine va_iast hx hb hK.1 hP hD hS 4 0 rfl rfl (show ¬ (_ ∨ _) by decide) dX0_keepWay_8 (fun H locs hP hD hS => ?_)
  obtain ⟨g1, hP, hD⟩ : ∃ g1 : Nat → Int32, va_P G vwCl (uX0 cs adt qt Ft (vB 20 g1 At) Bt Dt) H ∧ va_D A0 (uX0 cs adt qt Ft (vB 20 g1 At) Bt Dt) := ⟨upd (At 20) (0 : Int32).toNatClampNeg a2, hP, hD⟩
  refine lv_iload_n hx hb dX0_keepWay_9 rfl (lv_at hl 1 rfl) ?_
  refine lv_iconst (v := 1) hx hb dX0_keepWay_10 (by decide) ?_
  refine lv_iadd hx hb dX0_keepWay_11 ?_
  refine lv_topi (fun v2 ev2 => ?_)
  obtain rfl : v2 = 1 := ev2.trans (by decide)
  refine lv_istore_n (lv' := [(3, .int 1), (0, .ref adt), (1, .int 0), (2, .int a2)]) hx hb dX0_keepWay_12 rfl hl (by decide) rfl (fun ls hl => ?_)
  have B13 : ∀ (n : Nat) (x13_3 : Int32) (at20_13 : (Nat → Int32)) (H : Heap) (locs : List Loc) (ls : Array Slot), (5 - x13_3.toInt).toNat < n → (1 : Int) ≤ x13_3.toInt ∧ x13_3.toInt ≤ 5 → va_P G vwCl (uX0 cs adt qt Ft (vB 20 at20_13 At) Bt Dt) H → va_D A0 (uX0 cs adt qt Ft (vB 20 at20_13 At) Bt Dt) → va_S A0 s.heap H locs → lv_has ls 4 [(0, .ref adt), (1, .int 0), (3, .int x13_3)] → W p l e (rmk 0 0 0) s m args below meth c H locs 0 0 (MQ below ((QDw G (fun u : (Nat → Int32) => True) (fun u : (Nat → Int32) => (wX0 cs adt qt Ft (vA At 20 u) Bt Dt))) A0) args s 0 0 A0) (F0 m 13 ls []) := by
    intro n
    induction n with
    | zero => intro x13_3 at20_13 H locs ls hmeas hx13_3 hP hD hS hl; exact absurd hmeas (Nat.not_lt_zero _)
    | succ n ih13 =>
      intro x13_3 at20_13 H locs ls hmeas hx13_3 hP hD hS hl
      refine lv_iload_n hx hb dX0_keepWay_13 rfl (lv_at hl 2 rfl) ?_
      refine lv_iconst (v := 5) hx hb dX0_keepWay_14 (by decide) ?_
      refine lv_icmp_ge (tgt := 42) hx hb dX0_keepWay_15 (by decide) (fun c12001 => ?_) (fun c12001 => ?_)
      · have zc12001 := leK (show (5 : Int32).toInt = 5 by decide) rfl c12001
        exact retDw at20_13 hx hb hr hlk hP hD hS dX0_keepWay_42 (trivial) (Nat.le_of_ble_eq_true rfl) (Nat.le_of_ble_eq_true rfl)
      · have zc12001 := nleK (show (5 : Int32).toInt = 5 by decide) rfl c12001
        refine lv_aload_n hx hb dX0_keepWay_18 rfl (lv_at hl 0 rfl) ?_
        refine getF (v := .ref (qt 1)) hx hb ht hown hK hP iTX0 0 1 rfl rfl (by decide) fl_RX0_19 rfl dX0_keepWay_19 ?_
        refine lv_iload_n hx hb dX0_keepWay_22 rfl (lv_at hl 1 rfl) ?_
        refine va_ald2 hx hb hK.1 hP 2 7 rfl rfl (show ¬ (_ ∨ _) by decide) dX0_keepWay_23 ?_
        refine W.eq (g2 := F0 m 24 ls [.ref (qt 20)]) rfl ?_
        refine lv_iload_n hx hb dX0_keepWay_24 rfl (lv_at hl 2 rfl) ?_
        refine lv_aload_n hx hb dX0_keepWay_25 rfl (lv_at hl 0 rfl) ?_
        refine getF (v := .ref (qt 1)) hx hb ht hown hK hP iTX0 0 1 rfl rfl (by decide) fl_RX0_19 rfl dX0_keepWay_26 ?_
        refine lv_iload_n hx hb dX0_keepWay_29 rfl (lv_at hl 1 rfl) ?_
        refine lv_iconst (v := 1) hx hb dX0_keepWay_30 (by decide) ?_
        refine lv_iadd hx hb dX0_keepWay_31 ?_
        refine lv_topi (fun v12002 ev12002 => ?_)
        obtain rfl : v12002 = 1 := ev12002.trans (by decide)
        refine va_ald2 hx hb hK.1 hP 2 7 rfl rfl (show ¬ (_ ∨ _) by decide) dX0_keepWay_32 ?_
        refine W.eq (g2 := F0 m 33 ls [.ref (qt 21), .int x13_3, .ref (qt 20)]) rfl ?_
        refine lv_iload_n hx hb dX0_keepWay_33 rfl (lv_at hl 2 rfl) ?_
        refine va_iald hx hb hK.1 hP 5 0 rfl rfl (inK rfl (by omega) (by decide)) dX0_keepWay_34 ?_
        refine lv_topi (fun v12003 ev12003 => ?_)
        refine va_iast hx hb hK.1 hP hD hS 4 0 rfl rfl (inK rfl (by omega) (by decide)) dX0_keepWay_35 (fun H locs hP hD hS => ?_)
        obtain ⟨g12004, hP, hD⟩ : ∃ g12004 : Nat → Int32, va_P G vwCl (uX0 cs adt qt Ft (vB 20 g12004 At) Bt Dt) H ∧ va_D A0 (uX0 cs adt qt Ft (vB 20 g12004 At) Bt Dt) := ⟨upd at20_13 x13_3.toNatClampNeg v12003, hP, hD⟩
        obtain ⟨v12005, ev12005⟩ : ∃ z : Int32, z = x13_3 + 1 := ⟨_, rfl⟩
        have tv12005 : v12005.toInt = x13_3.toInt + 1 := by rw [ev12005]; exact addT rfl (by decide) (by omega)
        refine lv_iinc (v := v12005) (lv' := [(3, .int v12005), (0, .ref adt), (1, .int 0)]) hx hb dX0_keepWay_36 hl (k := 2) rfl (by rw [ev12005]; rfl) (by decide) rfl (fun ls hl => ?_)
        refine lv_goto (tgt := 13) hx hb dX0_keepWay_39 (by decide) ?_
        exact ih13 v12005 g12004 H locs ls (by omega) (by omega) hP hD hS (lv_sub hl [1, 2, 0] rfl)
  exact B13 _ 1 g1 H locs ls (Nat.lt_succ_self _) (by decide) hP hD hS (lv_sub hl [1, 2, 0] rfl)

