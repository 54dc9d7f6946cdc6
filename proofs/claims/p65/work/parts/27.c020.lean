set_option maxRecDepth 100000 in
set_option maxHeartbeats 16000000 in
theorem sX0_keepWay_1 (l : Launch) (G : va_G) (cs : Nat → ClassId) (adt : Nat) (qt : Nat → Nat) (Ft : Nat → Int32) (At : Nat → Nat → Int32) (Bt : Nat → Nat → Int64) (Dt : Int64) (hIt : IX0 Ft At) (a2 : Int32) : ∀ sz : Nat, Met l yX0_keepWay (wk yX0_keepWay cX0_keepWay 4 none) (rmk 0 0 0) (PreD G (TY cs) [.ref adt, .int 1, .int a2] (uX0 cs adt qt Ft At Bt Dt) sz) ((QDw G (fun u : (Nat → Int32) => True) (fun u : (Nat → Int32) => (wX0 cs adt qt Ft (vA At 21 u) Bt Dt))) (va_A (uX0 cs adt qt Ft At Bt Dt) sz)) 0 0 (va_A (uX0 cs adt qt Ft At Bt Dt) sz) := by
  refine mkD (Qc := (QDw G (fun u : (Nat → Int32) => True) (fun u : (Nat → Int32) => (wX0 cs adt qt Ft (vA At 21 u) Bt Dt)))) (by decide) (by simp [lg_sl, Value.category]) ?_
  intro p e s m args below meth c ls A0 hx hb hml hr hlk hown hmn ht hK hP hD hS hA hl
  have hl : lv_has ls 4 [(0, .ref adt), (1, .int 1), (2, .int a2)] := hl
  refine lv_aload_n hx hb dX0_keepWay_0 rfl (lv_at hl 0 rfl) ?_
  refine getF (v := .ref (qt 1)) hx hb ht hown hK hP iTX0 0 1 rfl rfl (by decide) fl_RX0_19 rfl dX0_keepWay_1 ?_
  refine lv_iload_n hx hb dX0_keepWay_4 rfl (lv_at hl 1 rfl) ?_
  refine va_ald2 hx hb hK.1 hP 2 7 rfl rfl (show ¬ (_ ∨ _) by decide) dX0_keepWay_5 ?_
  refine W.eq (g2 := F0 m 6 ls [.ref (qt 21)]) rfl ?_
  refine lv_iload_n hx hb dX0_keepWay_6 rfl (lv_at hl 1 rfl) ?_
  refine lv_iload_n hx hb dX0_keepWay_7 rfl (lv_at hl 2 rfl) ?_
  refine va_iast hx hb hK.1 hP hD hS 5 0 rfl rfl (show ¬ (_ ∨ _) by decide) dX0_keepWay_8 (fun H locs hP hD hS => ?_)
  obtain ⟨g1, hP, hD⟩ : ∃ g1 : Nat → Int32, va_P G vwCl (uX0 cs adt qt Ft (vB 21 g1 At) Bt Dt) H ∧ va_D A0 (uX0 cs adt qt Ft (vB 21 g1 At) Bt Dt) := ⟨upd (At 21) (1 : Int32).toNatClampNeg a2, hP, hD⟩
  refine lv_iload_n hx hb dX0_keepWay_9 rfl (lv_at hl 1 rfl) ?_
  refine lv_iconst (v := 1) hx hb dX0_keepWay_10 (by decide) ?_
  refine lv_iadd hx hb dX0_keepWay_11 ?_
  refine lv_topi (fun v2 ev2 => ?_)
  obtain rfl : v2 = 2 := ev2.trans (by decide)
  refine lv_istore_n (lv' := [(3, .int 2), (0, .ref adt), (1, .int 1), (2, .int a2)]) hx hb dX0_keepWay_12 rfl hl (by decide) rfl (fun ls hl => ?_)
  have B13 : ∀ (n : Nat) (x13_3 : Int32) (at21_13 : (Nat → Int32)) (H : Heap) (locs : List Loc) (ls : Array Slot), (5 - x13_3.toInt).toNat < n → (2 : Int) ≤ x13_3.toInt ∧ x13_3.toInt ≤ 5 → va_P G vwCl (uX0 cs adt qt Ft (vB 21 at21_13 At) Bt Dt) H → va_D A0 (uX0 cs adt qt Ft (vB 21 at21_13 At) Bt Dt) → va_S A0 s.heap H locs → lv_has ls 4 [(0, .ref adt), (1, .int 1), (3, .int x13_3)] → W p l e (rmk 0 0 0) s m args below meth c H locs 0 0 (MQ below ((QDw G (fun u : (Nat → Int32) => True) (fun u : (Nat → Int32) => (wX0 cs adt qt Ft (vA At 21 u) Bt Dt))) A0) args s 0 0 A0) (F0 m 13 ls []) := by
    intro n
    induction n with
    | zero => intro x13_3 at21_13 H locs ls hmeas hx13_3 hP hD hS hl; exact absurd hmeas (Nat.not_lt_zero _)
    | succ n ih13 =>
      intro x13_3 at21_13 H locs ls hmeas hx13_3 hP hD hS hl
      refine lv_iload_n hx hb dX0_keepWay_13 rfl (lv_at hl 2 rfl) ?_
      refine lv_iconst (v := 5) hx hb dX0_keepWay_14 (by decide) ?_
      refine lv_icmp_ge (tgt := 42) hx hb dX0_keepWay_15 (by decide) (fun c12001 => ?_) (fun c12001 => ?_)
      · have zc12001 := leK (show (5 : Int32).toInt = 5 by decide) rfl c12001
        exact retDw at21_13 hx hb hr hlk hP hD hS dX0_keepWay_42 (trivial) (Nat.le_of_ble_eq_true rfl) (Nat.le_of_ble_eq_true rfl)
      · have zc12001 := nleK (show (5 : Int32).toInt = 5 by decide) rfl c12001
        refine lv_aload_n hx hb dX0_keepWay_18 rfl (lv_at hl 0 rfl) ?_
        refine getF (v := .ref (qt 1)) hx hb ht hown hK hP iTX0 0 1 rfl rfl (by decide) fl_RX0_19 rfl dX0_keepWay_19 ?_
        refine lv_iload_n hx hb dX0_keepWay_22 rfl (lv_at hl 1 rfl) ?_
        refine va_ald2 hx hb hK.1 hP 2 7 rfl rfl (show ¬ (_ ∨ _) by decide) dX0_keepWay_23 ?_
        refine W.eq (g2 := F0 m 24 ls [.ref (qt 21)]) rfl ?_
        refine lv_iload_n hx hb dX0_keepWay_24 rfl (lv_at hl 2 rfl) ?_
        refine lv_aload_n hx hb dX0_keepWay_25 rfl (lv_at hl 0 rfl) ?_
        refine getF (v := .ref (qt 1)) hx hb ht hown hK hP iTX0 0 1 rfl rfl (by decide) fl_RX0_19 rfl dX0_keepWay_26 ?_
        refine lv_iload_n hx hb dX0_keepWay_29 rfl (lv_at hl 1 rfl) ?_
        refine lv_iconst (v := 1) hx hb dX0_keepWay_30 (by decide) ?_
        refine lv_iadd hx hb dX0_keepWay_31 ?_
        refine lv_topi (fun v12002 ev12002 => ?_)
        obtain rfl : v12002 = 2 := ev12002.trans (by decide)
        refine va_ald2 hx hb hK.1 hP 2 7 rfl rfl (show ¬ (_ ∨ _) by decide) dX0_keepWay_32 ?_
        refine W.eq (g2 := F0 m 33 ls [.ref (qt 22), .int x13_3, .ref (qt 21)]) rfl ?_
        refine lv_iload_n hx hb dX0_keepWay_33 rfl (lv_at hl 2 rfl) ?_
        refine va_iald hx hb hK.1 hP 6 0 rfl rfl (inK rfl (by omega) (by decide)) dX0_keepWay_34 ?_
        refine lv_topi (fun v12003 ev12003 => ?_)
        refine va_iast hx hb hK.1 hP hD hS 5 0 rfl rfl (inK rfl (by omega) (by decide)) dX0_keepWay_35 (fun H locs hP hD hS => ?_)
        obtain ⟨g12004, hP, hD⟩ : ∃ g12004 : Nat → Int32, va_P G vwCl (uX0 cs adt qt Ft (vB 21 g12004 At) Bt Dt) H ∧ va_D A0 (uX0 cs adt qt Ft (vB 21 g12004 At) Bt Dt) := ⟨upd at21_13 x13_3.toNatClampNeg v12003, hP, hD⟩
        obtain ⟨v12005, ev12005⟩ : ∃ z : Int32, z = x13_3 + 1 := ⟨_, rfl⟩
        have tv12005 : v12005.toInt = x13_3.toInt + 1 := by rw [ev12005]; exact addT rfl (by decide) (by omega)
        refine lv_iinc (v := v12005) (lv' := [(3, .int v12005), (0, .ref adt), (1, .int 1)]) hx hb dX0_keepWay_36 hl (k := 2) rfl (by rw [ev12005]; rfl) (by decide) rfl (fun ls hl => ?_)
        refine lv_goto (tgt := 13) hx hb dX0_keepWay_39 (by decide) ?_
        exact ih13 v12005 g12004 H locs ls (by omega) (by omega) hP hD hS (lv_sub hl [1, 2, 0] rfl)
  exact B13 _ 2 g1 H locs ls (Nat.lt_succ_self _) (by decide) hP hD hS (lv_sub hl [1, 2, 0] rfl)

set_option maxRecDepth 100000 in
set_option maxHeartbeats 16000000 in
theorem sX0_keepWay_2 (l : Launch) (G : va_G) (cs : Nat → ClassId) (adt : Nat) (qt : Nat → Nat) (Ft : Nat → Int32) (At : Nat → Nat → Int32) (Bt : Nat → Nat → Int64) (Dt : Int64) (hIt : IX0 Ft At) (a2 : Int32) : ∀ sz : Nat, Met l yX0_keepWay (wk yX0_keepWay cX0_keepWay 4 none) (rmk 0 0 0) (PreD G (TY cs) [.ref adt, .int 2, .int a2] (uX0 cs adt qt Ft At Bt Dt) sz) ((QDw G (fun u : (Nat → Int32) => True) (fun u : (Nat → Int32) => (wX0 cs adt qt Ft (vA At 22 u) Bt Dt))) (va_A (uX0 cs adt qt Ft At Bt Dt) sz)) 0 0 (va_A (uX0 cs adt qt Ft At Bt Dt) sz) := by
  refine mkD (Qc := (QDw G (fun u : (Nat → Int32) => True) (fun u : (Nat → Int32) => (wX0 cs adt qt Ft (vA At 22 u) Bt Dt)))) (by decide) (by simp [lg_sl, Value.category]) ?_
  intro p e s m args below meth c ls A0 hx hb hml hr hlk hown hmn ht hK hP hD hS hA hl
  have hl : lv_has ls 4 [(0, .ref adt), (1, .int 2), (2, .int a2)] := hl
  refine lv_aload_n hx hb dX0_keepWay_0 rfl (lv_at hl 0 rfl) ?_
  refine getF (v := .ref (qt 1)) hx hb ht hown hK hP iTX0 0 1 rfl rfl (by decide) fl_RX0_19 rfl dX0_keepWay_1 ?_
  refine lv_iload_n hx hb dX0_keepWay_4 rfl (lv_at hl 1 rfl) ?_
  refine va_ald2 hx hb hK.1 hP 2 7 rfl rfl (show ¬ (_ ∨ _) by decide) dX0_keepWay_5 ?_
  refine W.eq (g2 := F0 m 6 ls [.ref (qt 22)]) rfl ?_
  refine lv_iload_n hx hb dX0_keepWay_6 rfl (lv_at hl 1 rfl) ?_
  refine lv_iload_n hx hb dX0_keepWay_7 rfl (lv_at hl 2 rfl) ?_
  refine va_iast hx hb hK.1 hP hD hS 6 0 rfl rfl (show ¬ (_ ∨ _) by decide) dX0_keepWay_8 (fun H locs hP hD hS => ?_)
  obtain ⟨g1, hP, hD⟩ : ∃ g1 : Nat → Int32, va_P G vwCl (uX0 cs adt qt Ft (vB 22 g1 At) Bt Dt) H ∧ va_D A0 (uX0 cs adt qt Ft (vB 22 g1 At) Bt Dt) := ⟨upd (At 22) (2 : Int32).toNatClampNeg a2, hP, hD⟩
  refine lv_iload_n hx hb dX0_keepWay_9 rfl (lv_at hl 1 rfl) ?_
  refine lv_iconst (v := 1) hx hb dX0_keepWay_10 (by decide) ?_
  refine lv_iadd hx hb dX0_keepWay_11 ?_
  refine lv_topi (fun v2 ev2 => ?_)
  obtain rfl : v2 = 3 := ev2.trans (by decide)
  refine lv_istore_n (lv' := [(3, .int 3), (0, .ref adt), (1, .int 2), (2, .int a2)]) hx hb dX0_keepWay_12 rfl hl (by decide) rfl (fun ls hl => ?_)
  have B13 : ∀ (n : Nat) (x13_3 : Int32) (at22_13 : (Nat → Int32)) (H : Heap) (locs : List Loc) (ls : Array Slot), (5 - x13_3.toInt).toNat < n → (3 : Int) ≤ x13_3.toInt ∧ x13_3.toInt ≤ 5 → va_P G vwCl (uX0 cs adt qt Ft (vB 22 at22_13 At) Bt Dt) H → va_D A0 (uX0 cs adt qt Ft (vB 22 at22_13 At) Bt Dt) → va_S A0 s.heap H locs → lv_has ls 4 [(0, .ref adt), (1, .int 2), (3, .int x13_3)] → W p l e (rmk 0 0 0) s m args below meth c H locs 0 0 (MQ below ((QDw G (fun u : (Nat → Int32) => True) (fun u : (Nat → Int32) => (wX0 cs adt qt Ft (vA At 22 u) Bt Dt))) A0) args s 0 0 A0) (F0 m 13 ls []) := by
    intro n
    induction n with
    | zero => intro x13_3 at22_13 H locs ls hmeas hx13_3 hP hD hS hl; exact absurd hmeas (Nat.not_lt_zero _)
    | succ n ih13 =>
      intro x13_3 at22_13 H locs ls hmeas hx13_3 hP hD hS hl
      refine lv_iload_n hx hb dX0_keepWay_13 rfl (lv_at hl 2 rfl) ?_
      refine lv_iconst (v := 5) hx hb dX0_keepWay_14 (by decide) ?_
      refine lv_icmp_ge (tgt := 42) hx hb dX0_keepWay_15 (by decide) (fun c12001 => ?_) (fun c12001 => ?_)
      · have zc12001 := leK (show (5 : Int32).toInt = 5 by decide) rfl c12001
        exact retDw at22_13 hx hb hr hlk hP hD hS dX0_keepWay_42 (trivial) (Nat.le_of_ble_eq_true rfl) (Nat.le_of_ble_eq_true rfl)
      · have zc12001 := nleK (show (5 : Int32).toInt = 5 by decide) rfl c12001
        refine lv_aload_n hx hb dX0_keepWay_18 rfl (lv_at hl 0 rfl) ?_
        refine getF (v := .ref (qt 1)) hx hb ht hown hK hP iTX0 0 1 rfl rfl (by decide) fl_RX0_19 rfl dX0_keepWay_19 ?_
        refine lv_iload_n hx hb dX0_keepWay_22 rfl (lv_at hl 1 rfl) ?_
        refine va_ald2 hx hb hK.1 hP 2 7 rfl rfl (show ¬ (_ ∨ _) by decide) dX0_keepWay_23 ?_
        refine W.eq (g2 := F0 m 24 ls [.ref (qt 22)]) rfl ?_
        refine lv_iload_n hx hb dX0_keepWay_24 rfl (lv_at hl 2 rfl) ?_
        refine lv_aload_n hx hb dX0_keepWay_25 rfl (lv_at hl 0 rfl) ?_
        refine getF (v := .ref (qt 1)) hx hb ht hown hK hP iTX0 0 1 rfl rfl (by decide) fl_RX0_19 rfl dX0_keepWay_26 ?_
        refine lv_iload_n hx hb dX0_keepWay_29 rfl (lv_at hl 1 rfl) ?_
        refine lv_iconst (v := 1) hx hb dX0_keepWay_30 (by decide) ?_
        refine lv_iadd hx hb dX0_keepWay_31 ?_
        refine lv_topi (fun v12002 ev12002 => ?_)
        obtain rfl : v12002 = 3 := ev12002.trans (by decide)
        refine va_ald2 hx hb hK.1 hP 2 7 rfl rfl (show ¬ (_ ∨ _) by decide) dX0_keepWay_32 ?_
        refine W.eq (g2 := F0 m 33 ls [.ref (qt 23), .int x13_3, .ref (qt 22)]) rfl ?_
        refine lv_iload_n hx hb dX0_keepWay_33 rfl (lv_at hl 2 rfl) ?_
        refine va_iald hx hb hK.1 hP 7 0 rfl rfl (inK rfl (by omega) (by decide)) dX0_keepWay_34 ?_
        refine lv_topi (fun v12003 ev12003 => ?_)
        refine va_iast hx hb hK.1 hP hD hS 6 0 rfl rfl (inK rfl (by omega) (by decide)) dX0_keepWay_35 (fun H locs hP hD hS => ?_)
        obtain ⟨g12004, hP, hD⟩ : ∃ g12004 : Nat → Int32, va_P G vwCl (uX0 cs adt qt Ft (vB 22 g12004 At) Bt Dt) H ∧ va_D A0 (uX0 cs adt qt Ft (vB 22 g12004 At) Bt Dt) := ⟨upd at22_13 x13_3.toNatClampNeg v12003, hP, hD⟩
        obtain ⟨v12005, ev12005⟩ : ∃ z : Int32, z = x13_3 + 1 := ⟨_, rfl⟩
        have tv12005 : v12005.toInt = x13_3.toInt + 1 := by rw [ev12005]; exact addT rfl (by decide) (by omega)
        refine lv_iinc (v := v12005) (lv' := [(3, .int v12005), (0, .ref adt), (1, .int 2)]) hx hb dX0_keepWay_36 hl (k := 2) rfl (by rw [ev12005]; rfl) (by decide) rfl (fun ls hl => ?_)
        refine lv_goto (tgt := 13) hx hb dX0_keepWay_39 (by decide) ?_
        exact ih13 v12005 g12004 H locs ls (by omega) (by omega) hP hD hS (lv_sub hl [1, 2, 0] rfl)
  exact B13 _ 3 g1 H locs ls (Nat.lt_succ_self _) (by decide) hP hD hS (lv_sub hl [1, 2, 0] rfl)

set_option maxRecDepth 100000 in
set_option maxHeartbeats 16000000 in
theorem sX0_keepWay_3 (l : Launch) (G : va_G) (cs : Nat → ClassId) (adt : Nat) (qt : Nat → Nat) (Ft : Nat → Int32) (At : Nat → Nat → Int32) (Bt : Nat → Nat → Int64) (Dt : Int64) (hIt : IX0 Ft At) (a2 : Int32) : ∀ sz : Nat, Met l yX0_keepWay (wk yX0_keepWay cX0_keepWay 4 none) (rmk 0 0 0) (PreD G (TY cs) [.ref adt, .int 3, .int a2] (uX0 cs adt qt Ft At Bt Dt) sz) ((QDw G (fun u : (Nat → Int32) => True) (fun u : (Nat → Int32) => (wX0 cs adt qt Ft (vA At 23 u) Bt Dt))) (va_A (uX0 cs adt qt Ft At Bt Dt) sz)) 0 0 (va_A (uX0 cs adt qt Ft At Bt Dt) sz) := by
  refine mkD (Qc := (QDw G (fun u : (Nat → Int32) => True) (fun u : (Nat → Int32) => (wX0 cs adt qt Ft (vA At 23 u) Bt Dt)))) (by decide) (by simp [lg_sl, Value.category]) ?_
  intro p e s m args below meth c ls A0 hx hb hml hr hlk hown hmn ht hK hP hD hS hA hl
  have hl : lv_has ls 4 [(0, .ref adt), (1, .int 3), (2, .int a2)] := hl
  refine lv_aload_n hx hb dX0_keepWay_0 rfl (lv_at hl 0 rfl) ?_
  refine getF (v := .ref (qt 1)) hx hb ht hown hK hP iTX0 0 1 rfl rfl (by decide) fl_RX0_19 rfl dX0_keepWay_1 ?_
  refine lv_iload_n hx hb dX0_keepWay_4 rfl (lv_at hl 1 rfl) ?_
  refine va_ald2 hx hb hK.1 hP 2 7 rfl rfl (show ¬ (_ ∨ _) by decide) dX0_keepWay_5 ?_
  refine W.eq (g2 := F0 m 6 ls [.ref (qt 23)]) rfl ?_
  refine lv_iload_n hx hb dX0_keepWay_6 rfl (lv_at hl 1 rfl) ?_
  refine lv_iload_n hx hb dX0_keepWay_7 rfl (lv_at hl 2 rfl) ?_
  refine va_iast hx hb hK.1 hP hD hS 7 0 rfl rfl (show ¬ (_ ∨ _) by decide) dX0_keepWay_8 (fun H locs hP hD hS => ?_)
  obtain ⟨g1, hP, hD⟩ : ∃ g1 : Nat → Int32, va_P G vwCl (uX0 cs adt qt Ft (vB 23 g1 At) Bt Dt) H ∧ va_D A0 (uX0 cs adt qt Ft (vB 23 g1 At) Bt Dt) := ⟨upd (At 23) (3 : Int32).toNatClampNeg a2, hP, hD⟩
  refine lv_iload_n hx hb dX0_keepWay_9 rfl (lv_at hl 1 rfl) ?_
  refine lv_iconst (v := 1) hx hb dX0_keepWay_10 (by decide) ?_
  refine lv_iadd hx hb dX0_keepWay_11 ?_
  refine lv_topi (fun v2 ev2 => ?_)
  obtain rfl : v2 = 4 := ev2.trans (by decide)
  refine lv_istore_n (lv' := [(3, .int 4), (0, .ref adt), (1, .int 3), (2, .int a2)]) hx hb dX0_keepWay_12 rfl hl (by decide) rfl (fun ls hl => ?_)
  have B13 : ∀ (n : Nat) (x13_3 : Int32) (at23_13 : (Nat → Int32)) (H : Heap) (locs : List Loc) (ls : Array Slot), (5 - x13_3.toInt).toNat < n → (4 : Int) ≤ x13_3.toInt ∧ x13_3.toInt ≤ 5 → va_P G vwCl (uX0 cs adt qt Ft (vB 23 at23_13 At) Bt Dt) H → va_D A0 (uX0 cs adt qt Ft (vB 23 at23_13 At) Bt Dt) → va_S A0 s.heap H locs → lv_has ls 4 [(0, .ref adt), (1, .int 3), (3, .int x13_3)] → W p l e (rmk 0 0 0) s m args below meth c H locs 0 0 (MQ below ((QDw G (fun u : (Nat → Int32) => True) (fun u : (Nat → Int32) => (wX0 cs adt qt Ft (vA At 23 u) Bt Dt))) A0) args s 0 0 A0) (F0 m 13 ls []) := by
    intro n
    induction n with
    | zero => intro x13_3 at23_13 H locs ls hmeas hx13_3 hP hD hS hl; exact absurd hmeas (Nat.not_lt_zero _)
    | succ n ih13 =>
      intro x13_3 at23_13 H locs ls hmeas hx13_3 hP hD hS hl
      refine lv_iload_n hx hb dX0_keepWay_13 rfl (lv_at hl 2 rfl) ?_
      refine lv_iconst (v := 5) hx hb dX0_keepWay_14 (by decide) ?_
      refine lv_icmp_ge (tgt := 42) hx hb dX0_keepWay_15 (by decide) (fun c12001 => ?_) (fun c12001 => ?_)
      · have zc12001 := leK (show (5 : Int32).toInt = 5 by decide) rfl c12001
        exact retDw at23_13 hx hb hr hlk hP hD hS dX0_keepWay_42 (trivial) (Nat.le_of_ble_eq_true rfl) (Nat.le_of_ble_eq_true rfl)
      · have zc12001 := nleK (show (5 : Int32).toInt = 5 by decide) rfl c12001
        refine lv_aload_n hx hb dX0_keepWay_18 rfl (lv_at hl 0 rfl) ?_
        refine getF (v := .ref (qt 1)) hx hb ht hown hK hP iTX0 0 1 rfl rfl (by decide) fl_RX0_19 rfl dX0_keepWay_19 ?_
        refine lv_iload_n hx hb dX0_keepWay_22 rfl (lv_at hl 1 rfl) ?_
        refine va_ald2 hx hb hK.1 hP 2 7 rfl rfl (show ¬ (_ ∨ _) by decide) dX0_keepWay_23 ?_
        refine W.eq (g2 := F0 m 24 ls [.ref (qt 23)]) rfl ?_
        refine lv_iload_n hx hb dX0_keepWay_24 rfl (lv_at hl 2 rfl) ?_
        refine lv_aload_n hx hb dX0_keepWay_25 rfl (lv_at hl 0 rfl) ?_
        refine getF (v := .ref (qt 1)) hx hb ht hown hK hP iTX0 0 1 rfl rfl (by decide) fl_RX0_19 rfl dX0_keepWay_26 ?_
        refine lv_iload_n hx hb dX0_keepWay_29 rfl (lv_at hl 1 rfl) ?_
        refine lv_iconst (v := 1) hx hb dX0_keepWay_30 (by decide) ?_
        refine lv_iadd hx hb dX0_keepWay_31 ?_
        refine lv_topi (fun v12002 ev12002 => ?_)
        obtain rfl : v12002 = 4 := ev12002.trans (by decide)
        refine va_ald2 hx hb hK.1 hP 2 7 rfl rfl (show ¬ (_ ∨ _) by decide) dX0_keepWay_32 ?_
        refine W.eq (g2 := F0 m 33 ls [.ref (qt 24), .int x13_3, .ref (qt 23)]) rfl ?_
        refine lv_iload_n hx hb dX0_keepWay_33 rfl (lv_at hl 2 rfl) ?_
        refine va_iald hx hb hK.1 hP 8 0 rfl rfl (inK rfl (by omega) (by decide)) dX0_keepWay_34 ?_
        refine lv_topi (fun v12003 ev12003 => ?_)
        refine va_iast hx hb hK.1 hP hD hS 7 0 rfl rfl (inK rfl (by omega) (by decide)) dX0_keepWay_35 (fun H locs hP hD hS => ?_)
        obtain ⟨g12004, hP, hD⟩ : ∃ g12004 : Nat → Int32, va_P G vwCl (uX0 cs adt qt Ft (vB 23 g12004 At) Bt Dt) H ∧ va_D A0 (uX0 cs adt qt Ft (vB 23 g12004 At) Bt Dt) := ⟨upd at23_13 x13_3.toNatClampNeg v12003, hP, hD⟩
        obtain ⟨v12005, ev12005⟩ : ∃ z : Int32, z = x13_3 + 1 := ⟨_, rfl⟩
        have tv12005 : v12005.toInt = x13_3.toInt + 1 := by rw [ev12005]; exact addT rfl (by decide) (by omega)
        refine lv_iinc (v := v12005) (lv' := [(3, .int v12005), (0, .ref adt), (1, .int 3)]) hx hb dX0_keepWay_36 hl (k := 2) rfl (by rw [ev12005]; rfl) (by decide) rfl (fun ls hl => ?_)
        refine lv_goto (tgt := 13) hx hb dX0_keepWay_39 (by decide) ?_
        exact ih13 v12005 g12004 H locs ls (by omega) (by omega) hP hD hS (lv_sub hl [1, 2, 0] rfl)
  exact B13 _ 4 g1 H locs ls (Nat.lt_succ_self _) (by decide) hP hD hS (lv_sub hl [1, 2, 0] rfl)

set_option maxRecDepth 100000 in
set_option maxHeartbeats 16000000 in
theorem sX0_keepWay_4 (l : Launch) (G : va_G) (cs : Nat → ClassId) (adt : Nat) (qt : Nat → Nat) (Ft : Nat → Int32) (At : Nat → Nat → Int32) (Bt : Nat → Nat → Int64) (Dt : Int64) (hIt : IX0 Ft At) (a2 : Int32) : ∀ sz : Nat, Met l yX0_keepWay (wk yX0_keepWay cX0_keepWay 4 none) (rmk 0 0 0) (PreD G (TY cs) [.ref adt, .int 4, .int a2] (uX0 cs adt qt Ft At Bt Dt) sz) ((QDw G (fun u : (Nat → Int32) => True) (fun u : (Nat → Int32) => (wX0 cs adt qt Ft (vA At 24 u) Bt Dt))) (va_A (uX0 cs adt qt Ft At Bt Dt) sz)) 0 0 (va_A (uX0 cs adt qt Ft At Bt Dt) sz) := by
  refine mkD (Qc := (QDw G (fun u : (Nat → Int32) => True) (fun u : (Nat → Int32) => (wX0 cs adt qt Ft (vA At 24 u) Bt Dt)))) (by decide) (by simp [lg_sl, Value.category]) ?_
  intro p e s m args below meth c ls A0 hx hb hml hr hlk hown hmn ht hK hP hD hS hA hl
  have hl : lv_has ls 4 [(0, .ref adt), (1, .int 4), (2, .int a2)] := hl
  refine lv_aload_n hx hb dX0_keepWay_0 rfl (lv_at hl 0 rfl) ?_
  refine getF (v := .ref (qt 1)) hx hb ht hown hK hP iTX0 0 1 rfl rfl (by decide) fl_RX0_19 rfl dX0_keepWay_1 ?_
  refine lv_iload_n hx hb dX0_keepWay_4 rfl (lv_at hl 1 rfl) ?_
  refine va_ald2 hx hb hK.1 hP 2 7 rfl rfl (show ¬ (_ ∨ _) by decide) dX0_keepWay_5 ?_
  refine W.eq (g2 := F0 m 6 ls [.ref (qt 24)]) rfl ?_
  refine lv_iload_n hx hb dX0_keepWay_6 rfl (lv_at hl 1 rfl) ?_
  refine lv_iload_n hx hb dX0_keepWay_7 rfl (lv_at hl 2 rfl) ?_
  refine va_iast hx hb hK.1 hP hD hS 8 0 rfl rfl (show ¬ (_ ∨ _) by decide) dX0_keepWay_8 (fun H locs hP hD hS => ?_)
  obtain ⟨g1, hP, hD⟩ : ∃ g1 : Nat → Int32, va_P G vwCl (uX0 cs adt qt Ft (vB 24 g1 At) Bt Dt) H ∧ va_D A0 (uX0 cs adt qt Ft (vB 24 g1 At) Bt Dt) := ⟨upd (At 24) (4 : Int32).toNatClampNeg a2, hP, hD⟩
  refine lv_iload_n hx hb dX0_keepWay_9 rfl (lv_at hl 1 rfl) ?_
  refine lv_iconst (v := 1) hx hb dX0_keepWay_10 (by decide) ?_
  refine lv_iadd hx hb dX0_keepWay_11 ?_
  refine lv_topi (fun v2 ev2 => ?_)
  obtain rfl : v2 = 5 := ev2.trans (by decide)
  refine lv_istore_n (lv' := [(3, .int 5), (0, .ref adt), (1, .int 4), (2, .int a2)]) hx hb dX0_keepWay_12 rfl hl (by decide) rfl (fun ls hl => ?_)
  have B13 : ∀ (n : Nat) (x13_3 : Int32) (H : Heap) (locs : List Loc) (ls : Array Slot), (5 - x13_3.toInt).toNat < n → (5 : Int) ≤ x13_3.toInt ∧ x13_3.toInt ≤ 5 → va_P G vwCl (uX0 cs adt qt Ft (vB 24 g1 At) Bt Dt) H → va_D A0 (uX0 cs adt qt Ft (vB 24 g1 At) Bt Dt) → va_S A0 s.heap H locs → lv_has ls 4 [(0, .ref adt), (1, .int 4), (3, .int x13_3)] → W p l e (rmk 0 0 0) s m args below meth c H locs 0 0 (MQ below ((QDw G (fun u : (Nat → Int32) => True) (fun u : (Nat → Int32) => (wX0 cs adt qt Ft (vA At 24 u) Bt Dt))) A0) args s 0 0 A0) (F0 m 13 ls []) := by
    intro n
    induction n with
    | zero => intro x13_3 H locs ls hmeas hx13_3 hP hD hS hl; exact absurd hmeas (Nat.not_lt_zero _)
    | succ n ih13 =>
      intro x13_3 H locs ls hmeas hx13_3 hP hD hS hl
      refine lv_iload_n hx hb dX0_keepWay_13 rfl (lv_at hl 2 rfl) ?_
      refine lv_iconst (v := 5) hx hb dX0_keepWay_14 (by decide) ?_
      refine lv_icmp_ge (tgt := 42) hx hb dX0_keepWay_15 (by decide) (fun c12001 => ?_) (fun c12001 => False.elim (by have zz := nleK (show (5 : Int32).toInt = 5 by decide) rfl c12001; omega))
      exact retDw g1 hx hb hr hlk hP hD hS dX0_keepWay_42 (trivial) (Nat.le_of_ble_eq_true rfl) (Nat.le_of_ble_eq_true rfl)
  exact B13 _ 5 H locs ls (Nat.lt_succ_self _) (by decide) hP hD hS (lv_sub hl [1, 2, 0] rfl)

set_option maxRecDepth 100000 in
set_option maxHeartbeats 16000000 in
theorem sX0_calling_4 (l : Launch) (G : va_G) (cs : Nat → ClassId) (adt : Nat) (qt : Nat → Nat) (Ft : Nat → Int32) (At : Nat → Nat → Int32) (Bt : Nat → Nat → Int64) (Dt : Int64) (hIt : IX0 Ft At) (ql0 : Nat → Nat) (Fl0 : Nat → Int32) (Al0 : Nat → Nat → Int32) (Bl0 : Nat → Nat → Int64) (Dl0 : Int64) (hIl0 : IX5 Fl0 Al0) (ql1 : Nat → Nat) (Fl1 : Nat → Int32) (Al1 : Nat → Nat → Int32) (Bl1 : Nat → Nat → Int64) (Dl1 : Int64) (hIl1 : IX5 Fl1 Al1) (ql2 : Nat → Nat) (Fl2 : Nat → Int32) (Al2 : Nat → Nat → Int32) (Bl2 : Nat → Nat → Int64) (Dl2 : Int64) (hIl2 : IX5 Fl2 Al2) (ql3 : Nat → Nat) (Fl3 : Nat → Int32) (Al3 : Nat → Nat → Int32) (Bl3 : Nat → Nat → Int64) (Dl3 : Int64) (hIl3 : IX5 Fl3 Al3) (ql4 : Nat → Nat) (Fl4 : Nat → Int32) (Al4 : Nat → Nat → Int32) (Bl4 : Nat → Nat → Int64) (Dl4 : Int64) (hIl4 : IX5 Fl4 Al4) (adh : Nat) (qh : Nat → Nat) (Fh : Nat → Int32) (Ah : Nat → Nat → Int32) (Bh : Nat → Nat → Int64) (Dh : Int64) (hIh : IX3 Fh Ah) (a2 : Int32) (a4 : Int32) (ha2 : (0 : Int) ≤ a2.toInt ∧ a2.toInt ≤ 6) (ha4 : (0 : Int) ≤ a4.toInt ∧ a4.toInt ≤ 5) : ∀ sz : Nat, Met l yX0_calling (wk yX0_calling cX0_calling 7 (some .int)) (rmk 3 0 0) (PreD G (TY cs) [.ref adt, .ref adh, .int a2, .int 4, .int a4] ((uX0 cs adt qt Ft At Bt Dt) ++ ((uX5 cs (qt 10) ql0 Fl0 Al0 Bl0 Dl0) ++ ((uX5 cs (qt 11) ql1 Fl1 Al1 Bl1 Dl1) ++ ((uX5 cs (qt 12) ql2 Fl2 Al2 Bl2 Dl2) ++ ((uX5 cs (qt 13) ql3 Fl3 Al3 Bl3 Dl3) ++ ((uX5 cs (qt 14) ql4 Fl4 Al4 Bl4 Dl4) ++ (uX3 cs adh qh Fh Ah Bh Dh))))))) sz) ((QDi G (fun (r : Int32) (u : Unit) => True) (fun u : Unit => ((uX0 cs adt qt Ft At Bt Dt) ++ ((uX5 cs (qt 10) ql0 Fl0 Al0 Bl0 Dl0) ++ ((uX5 cs (qt 11) ql1 Fl1 Al1 Bl1 Dl1) ++ ((uX5 cs (qt 12) ql2 Fl2 Al2 Bl2 Dl2) ++ ((uX5 cs (qt 13) ql3 Fl3 Al3 Bl3 Dl3) ++ ((uX5 cs (qt 14) ql4 Fl4 Al4 Bl4 Dl4) ++ (uX3 cs adh qh Fh Ah Bh Dh))))))))) (va_A ((uX0 cs adt qt Ft At Bt Dt) ++ ((uX5 cs (qt 10) ql0 Fl0 Al0 Bl0 Dl0) ++ ((uX5 cs (qt 11) ql1 Fl1 Al1 Bl1 Dl1) ++ ((uX5 cs (qt 12) ql2 Fl2 Al2 Bl2 Dl2) ++ ((uX5 cs (qt 13) ql3 Fl3 Al3 Bl3 Dl3) ++ ((uX5 cs (qt 14) ql4 Fl4 Al4 Bl4 Dl4) ++ (uX3 cs adh qh Fh Ah Bh Dh))))))) sz)) 0 0 (va_A ((uX0 cs adt qt Ft At Bt Dt) ++ ((uX5 cs (qt 10) ql0 Fl0 Al0 Bl0 Dl0) ++ ((uX5 cs (qt 11) ql1 Fl1 Al1 Bl1 Dl1) ++ ((uX5 cs (qt 12) ql2 Fl2 Al2 Bl2 Dl2) ++ ((uX5 cs (qt 13) ql3 Fl3 Al3 Bl3 Dl3) ++ ((uX5 cs (qt 14) ql4 Fl4 Al4 Bl4 Dl4) ++ (uX3 cs adh qh Fh Ah Bh Dh))))))) sz) := by
  refine mkD (Qc := (QDi G (fun (r : Int32) (u : Unit) => True) (fun u : Unit => ((uX0 cs adt qt Ft At Bt Dt) ++ ((uX5 cs (qt 10) ql0 Fl0 Al0 Bl0 Dl0) ++ ((uX5 cs (qt 11) ql1 Fl1 Al1 Bl1 Dl1) ++ ((uX5 cs (qt 12) ql2 Fl2 Al2 Bl2 Dl2) ++ ((uX5 cs (qt 13) ql3 Fl3 Al3 Bl3 Dl3) ++ ((uX5 cs (qt 14) ql4 Fl4 Al4 Bl4 Dl4) ++ (uX3 cs adh qh Fh Ah Bh Dh)))))))))) (by decide) (by simp [lg_sl, Value.category]) ?_
  intro p e s m args below meth c ls A0 hx hb hml hr hlk hown hmn ht hK hP hD hS hA hl
  have hl : lv_has ls 7 [(0, .ref adt), (1, .ref adh), (2, .int a2), (3, .int 4), (4, .int a4)] := hl
  refine lv_iload_n hx hb dX0_calling_0 rfl (lv_at hl 3 rfl) ?_
  refine lv_iconst (v := 1) hx hb dX0_calling_1 (by decide) ?_
  refine lv_iadd hx hb dX0_calling_2 ?_
  refine lv_topi (fun v1 ev1 => ?_)
  obtain rfl : v1 = 5 := ev1.trans (by decide)
  refine lv_iload hx hb dX0_calling_3 (lv_at hl 4 rfl) ?_
  have B15 : ∀ (H : Heap) (locs : List Loc) (ls : Array Slot), va_P G vwCl ((uX0 cs adt qt Ft At Bt Dt) ++ ((uX5 cs (qt 10) ql0 Fl0 Al0 Bl0 Dl0) ++ ((uX5 cs (qt 11) ql1 Fl1 Al1 Bl1 Dl1) ++ ((uX5 cs (qt 12) ql2 Fl2 Al2 Bl2 Dl2) ++ ((uX5 cs (qt 13) ql3 Fl3 Al3 Bl3 Dl3) ++ ((uX5 cs (qt 14) ql4 Fl4 Al4 Bl4 Dl4) ++ (uX3 cs adh qh Fh Ah Bh Dh))))))) H → va_D A0 ((uX0 cs adt qt Ft At Bt Dt) ++ ((uX5 cs (qt 10) ql0 Fl0 Al0 Bl0 Dl0) ++ ((uX5 cs (qt 11) ql1 Fl1 Al1 Bl1 Dl1) ++ ((uX5 cs (qt 12) ql2 Fl2 Al2 Bl2 Dl2) ++ ((uX5 cs (qt 13) ql3 Fl3 Al3 Bl3 Dl3) ++ ((uX5 cs (qt 14) ql4 Fl4 Al4 Bl4 Dl4) ++ (uX3 cs adh qh Fh Ah Bh Dh))))))) → va_S A0 s.heap H locs → lv_has ls 7 [(0, .ref adt), (1, .ref adh), (2, .int a2), (3, .int 4)] → W p l e (rmk 3 0 0) s m args below meth c H locs 0 0 (MQ below ((QDi G (fun (r : Int32) (u : Unit) => True) (fun u : Unit => ((uX0 cs adt qt Ft At Bt Dt) ++ ((uX5 cs (qt 10) ql0 Fl0 Al0 Bl0 Dl0) ++ ((uX5 cs (qt 11) ql1 Fl1 Al1 Bl1 Dl1) ++ ((uX5 cs (qt 12) ql2 Fl2 Al2 Bl2 Dl2) ++ ((uX5 cs (qt 13) ql3 Fl3 Al3 Bl3 Dl3) ++ ((uX5 cs (qt 14) ql4 Fl4 Al4 Bl4 Dl4) ++ (uX3 cs adh qh Fh Ah Bh Dh))))))))) A0) args s 0 0 A0) (F0 m 15 ls []) := by
    intro H locs ls hP hD hS hl
    refine lv_aload_n hx hb dX0_calling_15 rfl (lv_at hl 0 rfl) ?_
    refine getF (v := .ref (qt 0)) hx hb ht hown hK hP iTX0 0 0 rfl rfl (by decide) fl_RX0_11 rfl dX0_calling_16 ?_
    refine lv_iload_n hx hb dX0_calling_19 rfl (lv_at hl 3 rfl) ?_
    refine va_aldq hx hb hK.1 hP 1 6 rfl rfl (show ¬ (_ ∨ _) by decide) dX0_calling_20 ?_
    refine W.eq (g2 := F0 m 21 ls [.ref (qt 14)]) rfl ?_
    refine lv_aload_n hx hb dX0_calling_21 rfl (lv_at hl 1 rfl) ?_
    refine lv_iload_n hx hb dX0_calling_22 rfl (lv_at hl 2 rfl) ?_
    refine lv_iconst (v := 0) hx hb dX0_calling_23 (by decide) ?_
    refine behR (runVP (As := [.ref adh, .int a2, .int 0]) (rest := []) ⟨hx, hb, hml, hown, ht⟩ (sX5_audible l G cs (qt 14) ql4 Fl4 Al4 Bl4 Dl4 hIl4 adh qh Fh Ah Bh Dh hIh a2 0 (by decide)) okV_RX0_52 ⟨by decide, by decide⟩ hK hP [21, 22, 23, 24, 25, 26, 27, 28, 29, 30, 31] rfl 21 rfl rfl hl.1 rfl (Nat.le_of_ble_eq_true rfl) dX0_calling_24 ⟨by decide, by decide⟩) hP hS hA (fun r41001 H locs hr41001 hP hS => ?_)
    have kk41002 : (0 : Int32).toInt = 0 := by decide
    have hr41001 : r41001.toInt = 0 ∨ (0 ≤ a2.toInt ∧ a2.toInt ≤ 6) := hr41001
    exact retDi () hx hb hr hlk hP hD hS dX0_calling_27 (trivial) (Nat.le_of_ble_eq_true rfl) (Nat.le_of_ble_eq_true rfl)
  refine lv_icmp_ge (tgt := 15) hx hb dX0_calling_5 (by decide) (fun c2 => ?_) (fun c2 => False.elim (by have zz := nleK rfl (show (5 : Int32).toInt = 5 by decide) c2; omega))
  exact B15 s.heap [] ls hP hD hS (lv_sub hl [0, 1, 2, 3] rfl)

set_option maxRecDepth 100000 in
set_option maxHeartbeats 16000000 in
theorem sX0_seek_4 (l : Launch) (G : va_G) (cs : Nat → ClassId) (adt : Nat) (qt : Nat → Nat) (Ft : Nat → Int32) (At : Nat → Nat → Int32) (Bt : Nat → Nat → Int64) (Dt : Int64) (hIt : IX0 Ft At) (ql0 : Nat → Nat) (Fl0 : Nat → Int32) (Al0 : Nat → Nat → Int32) (Bl0 : Nat → Nat → Int64) (Dl0 : Int64) (hIl0 : IX5 Fl0 Al0) (ql1 : Nat → Nat) (Fl1 : Nat → Int32) (Al1 : Nat → Nat → Int32) (Bl1 : Nat → Nat → Int64) (Dl1 : Int64) (hIl1 : IX5 Fl1 Al1) (ql2 : Nat → Nat) (Fl2 : Nat → Int32) (Al2 : Nat → Nat → Int32) (Bl2 : Nat → Nat → Int64) (Dl2 : Int64) (hIl2 : IX5 Fl2 Al2) (ql3 : Nat → Nat) (Fl3 : Nat → Int32) (Al3 : Nat → Nat → Int32) (Bl3 : Nat → Nat → Int64) (Dl3 : Int64) (hIl3 : IX5 Fl3 Al3) (ql4 : Nat → Nat) (Fl4 : Nat → Int32) (Al4 : Nat → Nat → Int32) (Bl4 : Nat → Nat → Int64) (Dl4 : Int64) (hIl4 : IX5 Fl4 Al4) (adh : Nat) (qh : Nat → Nat) (Fh : Nat → Int32) (Ah : Nat → Nat → Int32) (Bh : Nat → Nat → Int64) (Dh : Int64) (hIh : IX3 Fh Ah) (a2 : Int32) (a4 : Int32) (ha2 : (0 : Int) ≤ a2.toInt ∧ a2.toInt ≤ 6) (ha4 : (0 : Int) ≤ a4.toInt ∧ a4.toInt ≤ 5) : ∀ sz : Nat, Met l yX0_seek (wk yX0_seek cX0_seek 8 (some .int)) (rmk 4 0 0) (PreD G (TY cs) [.ref adt, .ref adh, .int a2, .int 4, .int a4] ((uX0 cs adt qt Ft At Bt Dt) ++ ((uX5 cs (qt 10) ql0 Fl0 Al0 Bl0 Dl0) ++ ((uX5 cs (qt 11) ql1 Fl1 Al1 Bl1 Dl1) ++ ((uX5 cs (qt 12) ql2 Fl2 Al2 Bl2 Dl2) ++ ((uX5 cs (qt 13) ql3 Fl3 Al3 Bl3 Dl3) ++ ((uX5 cs (qt 14) ql4 Fl4 Al4 Bl4 Dl4) ++ (uX3 cs adh qh Fh Ah Bh Dh))))))) sz) ((QDi G (fun (r : Int32) (u : (Nat → Int32)) => True) (fun u : (Nat → Int32) => ((wX0 cs adt qt Ft (vA At 24 u) Bt Dt) ++ ((uX5 cs (qt 10) ql0 Fl0 Al0 Bl0 Dl0) ++ ((uX5 cs (qt 11) ql1 Fl1 Al1 Bl1 Dl1) ++ ((uX5 cs (qt 12) ql2 Fl2 Al2 Bl2 Dl2) ++ ((uX5 cs (qt 13) ql3 Fl3 Al3 Bl3 Dl3) ++ ((uX5 cs (qt 14) ql4 Fl4 Al4 Bl4 Dl4) ++ (uX3 cs adh qh Fh Ah Bh Dh))))))))) (va_A ((uX0 cs adt qt Ft At Bt Dt) ++ ((uX5 cs (qt 10) ql0 Fl0 Al0 Bl0 Dl0) ++ ((uX5 cs (qt 11) ql1 Fl1 Al1 Bl1 Dl1) ++ ((uX5 cs (qt 12) ql2 Fl2 Al2 Bl2 Dl2) ++ ((uX5 cs (qt 13) ql3 Fl3 Al3 Bl3 Dl3) ++ ((uX5 cs (qt 14) ql4 Fl4 Al4 Bl4 Dl4) ++ (uX3 cs adh qh Fh Ah Bh Dh))))))) sz)) 0 0 (va_A ((uX0 cs adt qt Ft At Bt Dt) ++ ((uX5 cs (qt 10) ql0 Fl0 Al0 Bl0 Dl0) ++ ((uX5 cs (qt 11) ql1 Fl1 Al1 Bl1 Dl1) ++ ((uX5 cs (qt 12) ql2 Fl2 Al2 Bl2 Dl2) ++ ((uX5 cs (qt 13) ql3 Fl3 Al3 Bl3 Dl3) ++ ((uX5 cs (qt 14) ql4 Fl4 Al4 Bl4 Dl4) ++ (uX3 cs adh qh Fh Ah Bh Dh))))))) sz) := by
  refine mkD (Qc := (QDi G (fun (r : Int32) (u : (Nat → Int32)) => True) (fun u : (Nat → Int32) => ((wX0 cs adt qt Ft (vA At 24 u) Bt Dt) ++ ((uX5 cs (qt 10) ql0 Fl0 Al0 Bl0 Dl0) ++ ((uX5 cs (qt 11) ql1 Fl1 Al1 Bl1 Dl1) ++ ((uX5 cs (qt 12) ql2 Fl2 Al2 Bl2 Dl2) ++ ((uX5 cs (qt 13) ql3 Fl3 Al3 Bl3 Dl3) ++ ((uX5 cs (qt 14) ql4 Fl4 Al4 Bl4 Dl4) ++ (uX3 cs adh qh Fh Ah Bh Dh)))))))))) (by decide) (by simp [lg_sl, Value.category]) ?_
  intro p e s m args below meth c ls A0 hx hb hml hr hlk hown hmn ht hK hP hD hS hA hl
  have hl : lv_has ls 8 [(0, .ref adt), (1, .ref adh), (2, .int a2), (3, .int 4), (4, .int a4)] := hl
  refine lv_iload_n hx hb dX0_seek_0 rfl (lv_at hl 3 rfl) ?_
  refine lv_iload hx hb dX0_seek_1 (lv_at hl 4 rfl) ?_
  refine lv_icmp_ge (tgt := 11) hx hb dX0_seek_3 (by decide) (fun c1 => ?_) (fun c1 => ?_)
  · have zc1 := leK rfl (show (4 : Int32).toInt = 4 by decide) c1
    refine lv_iconst (v := 0) hx hb dX0_seek_11 (by decide) ?_
    exact retDi (At 24) hx hb hr hlk hP hD hS dX0_seek_12 (trivial) (Nat.le_of_ble_eq_true rfl) (Nat.le_of_ble_eq_true rfl)
  · have zc1 := nleK rfl (show (4 : Int32).toInt = 4 by decide) c1
    refine lv_iload_n hx hb dX0_seek_6 rfl (lv_at hl 3 rfl) ?_
    refine lv_iconst (v := 5) hx hb dX0_seek_7 (by decide) ?_
    refine lv_icmp_lt (tgt := 13) hx hb dX0_seek_8 (by decide) (fun c2 => ?_) (fun c2 => False.elim (by revert c2; decide))
    refine lv_iconst (v := (-1)) hx hb dX0_seek_13 (by decide) ?_
    refine lv_istore (lv' := [(5, .int (-1)), (0, .ref adt), (1, .ref adh), (2, .int a2), (3, .int 4), (4, .int a4)]) hx hb dX0_seek_14 hl (by decide) rfl (fun ls hl => ?_)
    refine lv_iconst (v := 0) hx hb dX0_seek_16 (by decide) ?_
    refine lv_istore (lv' := [(6, .int 0), (5, .int (-1)), (0, .ref adt), (1, .ref adh), (2, .int a2), (3, .int 4), (4, .int a4)]) hx hb dX0_seek_17 hl (by decide) rfl (fun ls hl => ?_)
    have B19 : ∀ (n : Nat) (x19_5 : Int32) (x19_6 : Int32) (at24_19 : (Nat → Int32)) (H : Heap) (locs : List Loc) (ls : Array Slot), (7 - x19_6.toInt).toNat < n → (-1 : Int) ≤ x19_5.toInt → (0 : Int) ≤ x19_6.toInt ∧ x19_6.toInt ≤ 7 → va_P G vwCl ((uX0 cs adt qt Ft (vB 24 at24_19 At) Bt Dt) ++ ((uX5 cs (qt 10) ql0 Fl0 Al0 Bl0 Dl0) ++ ((uX5 cs (qt 11) ql1 Fl1 Al1 Bl1 Dl1) ++ ((uX5 cs (qt 12) ql2 Fl2 Al2 Bl2 Dl2) ++ ((uX5 cs (qt 13) ql3 Fl3 Al3 Bl3 Dl3) ++ ((uX5 cs (qt 14) ql4 Fl4 Al4 Bl4 Dl4) ++ (uX3 cs adh qh Fh Ah Bh Dh))))))) H → va_D A0 ((uX0 cs adt qt Ft (vB 24 at24_19 At) Bt Dt) ++ ((uX5 cs (qt 10) ql0 Fl0 Al0 Bl0 Dl0) ++ ((uX5 cs (qt 11) ql1 Fl1 Al1 Bl1 Dl1) ++ ((uX5 cs (qt 12) ql2 Fl2 Al2 Bl2 Dl2) ++ ((uX5 cs (qt 13) ql3 Fl3 Al3 Bl3 Dl3) ++ ((uX5 cs (qt 14) ql4 Fl4 Al4 Bl4 Dl4) ++ (uX3 cs adh qh Fh Ah Bh Dh))))))) → va_S A0 s.heap H locs → lv_has ls 8 [(0, .ref adt), (1, .ref adh), (2, .int a2), (3, .int 4), (4, .int a4), (5, .int x19_5), (6, .int x19_6)] → W p l e (rmk 4 0 0) s m args below meth c H locs 0 0 (MQ below ((QDi G (fun (r : Int32) (u : (Nat → Int32)) => True) (fun u : (Nat → Int32) => ((wX0 cs adt qt Ft (vA At 24 u) Bt Dt) ++ ((uX5 cs (qt 10) ql0 Fl0 Al0 Bl0 Dl0) ++ ((uX5 cs (qt 11) ql1 Fl1 Al1 Bl1 Dl1) ++ ((uX5 cs (qt 12) ql2 Fl2 Al2 Bl2 Dl2) ++ ((uX5 cs (qt 13) ql3 Fl3 Al3 Bl3 Dl3) ++ ((uX5 cs (qt 14) ql4 Fl4 Al4 Bl4 Dl4) ++ (uX3 cs adh qh Fh Ah Bh Dh))))))))) A0) args s 0 0 A0) (F0 m 19 ls []) := by
      intro n
      induction n with
      | zero => intro x19_5 x19_6 at24_19 H locs ls hmeas hx19_5 hx19_6 hP hD hS hl; exact absurd hmeas (Nat.not_lt_zero _)
      | succ n ih19 =>
        intro x19_5 x19_6 at24_19 H locs ls hmeas hx19_5 hx19_6 hP hD hS hl
        refine lv_iload hx hb dX0_seek_19 (lv_at hl 6 rfl) ?_
        refine lv_aload_n hx hb dX0_seek_21 rfl (lv_at hl 1 rfl) ?_
        refine getF (v := .int (Fh 5)) hx hb ht hown hK hP iTX3 24 5 rfl rfl (by decide) fl_RX0_35 rfl dX0_seek_22 ?_
        have zf11001 : (0 : Int) ≤ (Fh 5).toInt ∧ (Fh 5).toInt ≤ 7 := hIh.1 5
        refine lv_icmp_ge (tgt := 74) hx hb dX0_seek_25 (by decide) (fun c11002 => ?_) (fun c11002 => ?_)
        · have zc11002 := leK rfl rfl c11002
          refine lv_iload hx hb dX0_seek_74 (lv_at hl 5 rfl) ?_
          exact retDi at24_19 hx hb hr hlk hP hD hS dX0_seek_76 (trivial) (Nat.le_of_ble_eq_true rfl) (Nat.le_of_ble_eq_true rfl)
        · have zc11002 := nleK rfl rfl c11002
          refine lv_aload_n hx hb dX0_seek_28 rfl (lv_at hl 1 rfl) ?_
          refine lv_iload_n hx hb dX0_seek_29 rfl (lv_at hl 2 rfl) ?_
          refine lv_iload hx hb dX0_seek_30 (lv_at hl 6 rfl) ?_
          refine behR (runVP (As := [.int a2, .int x19_6]) (rest := []) ⟨hx, hb, hml, hown, ht⟩ (sX3_isStep l G cs adh qh Fh Ah Bh Dh hIh a2 x19_6 ) okV_RX0_44 ⟨by decide, by decide⟩ hK hP [24, 25, 26, 27, 28, 29, 30, 31] rfl 24 rfl rfl hl.1 rfl (Nat.le_of_ble_eq_true rfl) dX0_seek_32 ⟨by decide, by decide⟩) hP hS hA (fun r11003 H locs hr11003 hP hS => ?_)
          have hr11003 : (0 : Int) ≤ r11003.toInt ∧ r11003.toInt ≤ 1 := hr11003
          have B68 : ∀ (x68_5 : Int32) (at24_68 : (Nat → Int32)) (H : Heap) (locs : List Loc) (ls : Array Slot), (-1 : Int) ≤ x68_5.toInt → va_P G vwCl ((uX0 cs adt qt Ft (vB 24 at24_68 At) Bt Dt) ++ ((uX5 cs (qt 10) ql0 Fl0 Al0 Bl0 Dl0) ++ ((uX5 cs (qt 11) ql1 Fl1 Al1 Bl1 Dl1) ++ ((uX5 cs (qt 12) ql2 Fl2 Al2 Bl2 Dl2) ++ ((uX5 cs (qt 13) ql3 Fl3 Al3 Bl3 Dl3) ++ ((uX5 cs (qt 14) ql4 Fl4 Al4 Bl4 Dl4) ++ (uX3 cs adh qh Fh Ah Bh Dh))))))) H → va_D A0 ((uX0 cs adt qt Ft (vB 24 at24_68 At) Bt Dt) ++ ((uX5 cs (qt 10) ql0 Fl0 Al0 Bl0 Dl0) ++ ((uX5 cs (qt 11) ql1 Fl1 Al1 Bl1 Dl1) ++ ((uX5 cs (qt 12) ql2 Fl2 Al2 Bl2 Dl2) ++ ((uX5 cs (qt 13) ql3 Fl3 Al3 Bl3 Dl3) ++ ((uX5 cs (qt 14) ql4 Fl4 Al4 Bl4 Dl4) ++ (uX3 cs adh qh Fh Ah Bh Dh))))))) → va_S A0 s.heap H locs → lv_has ls 8 [(0, .ref adt), (1, .ref adh), (2, .int a2), (3, .int 4), (4, .int a4), (5, .int x68_5), (6, .int x19_6)] → W p l e (rmk 4 0 0) s m args below meth c H locs 0 0 (MQ below ((QDi G (fun (r : Int32) (u : (Nat → Int32)) => True) (fun u : (Nat → Int32) => ((wX0 cs adt qt Ft (vA At 24 u) Bt Dt) ++ ((uX5 cs (qt 10) ql0 Fl0 Al0 Bl0 Dl0) ++ ((uX5 cs (qt 11) ql1 Fl1 Al1 Bl1 Dl1) ++ ((uX5 cs (qt 12) ql2 Fl2 Al2 Bl2 Dl2) ++ ((uX5 cs (qt 13) ql3 Fl3 Al3 Bl3 Dl3) ++ ((uX5 cs (qt 14) ql4 Fl4 Al4 Bl4 Dl4) ++ (uX3 cs adh qh Fh Ah Bh Dh))))))))) A0) args s 0 0 A0) (F0 m 68 ls []) := by
            intro x68_5 at24_68 H locs ls hx68_5 hP hD hS hl
            obtain ⟨v36001, ev36001⟩ : ∃ z : Int32, z = x19_6 + 1 := ⟨_, rfl⟩
            have tv36001 : v36001.toInt = x19_6.toInt + 1 := by rw [ev36001]; exact addT rfl (by decide) (by omega)
            refine lv_iinc (v := v36001) (lv' := [(6, .int v36001), (0, .ref adt), (1, .ref adh), (2, .int a2), (3, .int 4), (4, .int a4), (5, .int x68_5)]) hx hb dX0_seek_68 hl (k := 6) rfl (by rw [ev36001]; rfl) (by decide) rfl (fun ls hl => ?_)
            refine lv_goto (tgt := 19) hx hb dX0_seek_71 (by decide) ?_
            exact ih19 x68_5 v36001 at24_68 H locs ls (by omega) (by omega) (by omega) hP hD hS (lv_sub hl [1, 2, 3, 4, 5, 6, 0] rfl)
          refine lv_if_eq (tgt := 68) hx hb dX0_seek_35 (by decide) (fun c11004 => ?_) (fun c11004 => ?_)
          · have zc11004 := eqK rfl (show (0 : Int32).toInt = 0 by decide) c11004
            exact B68 x19_5 at24_19 H locs ls (by omega) hP hD hS (lv_sub hl [0, 1, 2, 3, 4, 5, 6] rfl)
          · have zc11004 := neK rfl (show (0 : Int32).toInt = 0 by decide) c11004
            refine lv_aload_n hx hb dX0_seek_38 rfl (lv_at hl 0 rfl) ?_
            refine lv_aload_n hx hb dX0_seek_39 rfl (lv_at hl 1 rfl) ?_
            refine lv_iload hx hb dX0_seek_40 (lv_at hl 6 rfl) ?_
            refine lv_iload_n hx hb dX0_seek_42 rfl (lv_at hl 3 rfl) ?_
            refine lv_iload hx hb dX0_seek_43 (lv_at hl 4 rfl) ?_
            refine behDi (wr := ([] : va_W)) (runVD (As := [.ref adh, .int x19_6, .int 4, .int a4]) (rest := []) ⟨hx, hb, hml, hown, ht⟩ (sX0_calling_4 l G cs adt qt Ft (vB 24 at24_19 At) Bt Dt (IB_av (k := 24) hIt (AJ_full _)) ql0 Fl0 Al0 Bl0 Dl0 hIl0 ql1 Fl1 Al1 Bl1 Dl1 hIl1 ql2 Fl2 Al2 Bl2 Dl2 hIl2 ql3 Fl3 Al3 Bl3 Dl3 hIl3 ql4 Fl4 Al4 Bl4 Dl4 hIl4 adh qh Fh Ah Bh Dh hIh x19_6 a4 (by omega) (by omega)) okV_RX0_41 ⟨by decide, by decide⟩ hK hP hD [0, 1, 2, 3, 4, 5, 6, 7, 8, 9, 10, 11, 12, 13, 14, 15, 16, 17, 18, 19, 20, 21, 22, 23, 24, 25, 26, 27, 28, 29, 30, 31] rfl (by decide) rfl 0 rfl rfl hl.1 rfl (Nat.le_of_ble_eq_true rfl) dX0_seek_45 ⟨(Nat.le_of_ble_eq_true rfl), (Nat.le_of_ble_eq_true rfl)⟩) hP hD hS hA [0, 1, 2, 3, 4, 5, 6, 7, 8, 9, 10, 11, 12, 13, 14, 15, 16, 17, 18, 19, 20, 21, 22, 23, 24, 25, 26, 27, 28, 29, 30, 31] [] rfl rfl (by decide) (by decide) (fun r9 u H locs hu hP hD hS => ?_)
            obtain ⟨r11005, rfl⟩ : ∃ z, z = r9 := ⟨_, rfl⟩
            have hr11005 := hu
            have hP : va_P G vwCl ((uX0 cs adt qt Ft (vB 24 at24_19 At) Bt Dt) ++ ((uX5 cs (qt 10) ql0 Fl0 Al0 Bl0 Dl0) ++ ((uX5 cs (qt 11) ql1 Fl1 Al1 Bl1 Dl1) ++ ((uX5 cs (qt 12) ql2 Fl2 Al2 Bl2 Dl2) ++ ((uX5 cs (qt 13) ql3 Fl3 Al3 Bl3 Dl3) ++ ((uX5 cs (qt 14) ql4 Fl4 Al4 Bl4 Dl4) ++ (uX3 cs adh qh Fh Ah Bh Dh))))))) H := hP.sub [0, 1, 2, 3, 4, 5, 6, 7, 8, 9, 10, 11, 12, 13, 14, 15, 16, 17, 18, 19, 20, 21, 22, 23, 24, 25, 26, 27, 28, 29, 30, 31] rfl
            have hD : va_D A0 ((uX0 cs adt qt Ft (vB 24 at24_19 At) Bt Dt) ++ ((uX5 cs (qt 10) ql0 Fl0 Al0 Bl0 Dl0) ++ ((uX5 cs (qt 11) ql1 Fl1 Al1 Bl1 Dl1) ++ ((uX5 cs (qt 12) ql2 Fl2 Al2 Bl2 Dl2) ++ ((uX5 cs (qt 13) ql3 Fl3 Al3 Bl3 Dl3) ++ ((uX5 cs (qt 14) ql4 Fl4 Al4 Bl4 Dl4) ++ (uX3 cs adh qh Fh Ah Bh Dh))))))) := hD.sub [0, 1, 2, 3, 4, 5, 6, 7, 8, 9, 10, 11, 12, 13, 14, 15, 16, 17, 18, 19, 20, 21, 22, 23, 24, 25, 26, 27, 28, 29, 30, 31] (by decide) rfl
            refine lv_istore (lv' := [(7, .int r11005), (0, .ref adt), (1, .ref adh), (2, .int a2), (3, .int 4), (4, .int a4), (5, .int x19_5), (6, .int x19_6)]) hx hb dX0_seek_48 hl (by decide) rfl (fun ls hl => ?_)
            refine lv_iload hx hb dX0_seek_50 (lv_at hl 0 rfl) ?_
            refine lv_iload hx hb dX0_seek_52 (lv_at hl 6 rfl) ?_
            refine lv_icmp_le (tgt := 68) hx hb dX0_seek_54 (by decide) (fun c11006 => ?_) (fun c11006 => ?_)
            · have zc11006 := leK rfl rfl c11006
              exact B68 x19_5 at24_19 H locs ls (by omega) hP hD hS (lv_sub hl [1, 2, 3, 4, 5, 6, 7] rfl)
            · have zc11006 := nleK rfl rfl c11006
              refine lv_iload hx hb dX0_seek_57 (lv_at hl 0 rfl) ?_
              refine lv_istore (lv' := [(5, .int r11005), (7, .int r11005), (0, .ref adt), (1, .ref adh), (2, .int a2), (3, .int 4), (4, .int a4), (6, .int x19_6)]) hx hb dX0_seek_59 hl (by decide) rfl (fun ls hl => ?_)
              refine lv_aload_n hx hb dX0_seek_61 rfl (lv_at hl 2 rfl) ?_
              refine lv_iload_n hx hb dX0_seek_62 rfl (lv_at hl 5 rfl) ?_
              refine lv_iload hx hb dX0_seek_63 (lv_at hl 7 rfl) ?_
              refine behDw (wr := ((uX5 cs (qt 10) ql0 Fl0 Al0 Bl0 Dl0) ++ ((uX5 cs (qt 11) ql1 Fl1 Al1 Bl1 Dl1) ++ ((uX5 cs (qt 12) ql2 Fl2 Al2 Bl2 Dl2) ++ ((uX5 cs (qt 13) ql3 Fl3 Al3 Bl3 Dl3) ++ ((uX5 cs (qt 14) ql4 Fl4 Al4 Bl4 Dl4) ++ (uX3 cs adh qh Fh Ah Bh Dh))))))) (runVD (As := [.int 4, .int x19_6]) (rest := []) ⟨hx, hb, hml, hown, ht⟩ (sX0_keepWay_4 l G cs adt qt Ft (vB 24 at24_19 At) Bt Dt (IB_av (k := 24) hIt (AJ_full _)) x19_6 ) okV_RX0_48 ⟨by decide, by decide⟩ hK hP hD [0, 1, 2, 3, 4, 5, 6, 7, 8] rfl (by decide) rfl 0 rfl rfl hl.1 rfl (Nat.le_of_ble_eq_true rfl) dX0_seek_65 ⟨(Nat.le_of_ble_eq_true rfl), (Nat.le_of_ble_eq_true rfl)⟩) hP hD hS hA [0, 1, 2, 3, 4, 5, 6, 7, 8] [9, 10, 11, 12, 13, 14, 15, 16, 17, 18, 19, 20, 21, 22, 23, 24, 25, 26, 27, 28, 29, 30, 31] rfl rfl (by decide) (by decide) (fun u H locs hu hP hD hS => ?_)
              obtain ⟨g11007, rfl⟩ : ∃ z, z = u := ⟨_, rfl⟩
              have hr11008 := hu
              have hP : va_P G vwCl ((uX0 cs adt qt Ft (vB 24 g11007 At) Bt Dt) ++ ((uX5 cs (qt 10) ql0 Fl0 Al0 Bl0 Dl0) ++ ((uX5 cs (qt 11) ql1 Fl1 Al1 Bl1 Dl1) ++ ((uX5 cs (qt 12) ql2 Fl2 Al2 Bl2 Dl2) ++ ((uX5 cs (qt 13) ql3 Fl3 Al3 Bl3 Dl3) ++ ((uX5 cs (qt 14) ql4 Fl4 Al4 Bl4 Dl4) ++ (uX3 cs adh qh Fh Ah Bh Dh))))))) H := hP.sub [23, 24, 25, 26, 27, 28, 29, 30, 31, 0, 1, 2, 3, 4, 5, 6, 7, 8, 9, 10, 11, 12, 13, 14, 15, 16, 17, 18, 19, 20, 21, 22] rfl
              have hD : va_D A0 ((uX0 cs adt qt Ft (vB 24 g11007 At) Bt Dt) ++ ((uX5 cs (qt 10) ql0 Fl0 Al0 Bl0 Dl0) ++ ((uX5 cs (qt 11) ql1 Fl1 Al1 Bl1 Dl1) ++ ((uX5 cs (qt 12) ql2 Fl2 Al2 Bl2 Dl2) ++ ((uX5 cs (qt 13) ql3 Fl3 Al3 Bl3 Dl3) ++ ((uX5 cs (qt 14) ql4 Fl4 Al4 Bl4 Dl4) ++ (uX3 cs adh qh Fh Ah Bh Dh))))))) := hD.sub [23, 24, 25, 26, 27, 28, 29, 30, 31, 0, 1, 2, 3, 4, 5, 6, 7, 8, 9, 10, 11, 12, 13, 14, 15, 16, 17, 18, 19, 20, 21, 22] (by decide) rfl
              exact B68 r11005 g11007 H locs ls (by omega) hP hD hS (lv_sub hl [2, 3, 4, 5, 6, 0, 7] rfl)
    exact B19 _ (-1) 0 (At 24) s.heap [] ls (Nat.lt_succ_self _) (by decide) (by decide) hP hD hS (lv_sub hl [2, 3, 4, 5, 6, 1, 0] rfl)

