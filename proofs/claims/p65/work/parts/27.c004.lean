set_option maxRecDepth 100000 in
set_option maxHeartbeats 16000000 in
theorem sX7_roomAt (l : Launch) (G : va_G) (cs : Nat → ClassId) (adt : Nat) (qt : Nat → Nat) (Ft : Nat → Int32) (At : Nat → Nat → Int32) (Bt : Nat → Nat → Int64) (Dt : Int64) (hIt : IX7 Ft At) (a1 : Int32) : ∀ sz : Nat, Met l yX7_roomAt (wk yX7_roomAt cX7_roomAt 2 (some .int)) (rmk 0 0 0) (PreP G (TY cs) [.ref adt, .int a1] (uX7 cs adt qt Ft At Bt Dt) sz) (QRi (fun r : Int32 => RAt r a1 (Bt 0) (Ft 3).toInt) sz) 0 0 (fun q => sz ≤ q) := by
  refine mkP (Qc := QRi (fun r : Int32 => RAt r a1 (Bt 0) (Ft 3).toInt)) (by decide) (by simp [lg_sl, Value.category]) ?_
  intro p e s m args below meth c ls hx hb hml hr hlk hown ht hK hP hS hl
  have hl : lv_has ls 2 [(0, .ref adt), (1, .int a1)] := hl
  refine lv_iload_n hx hb dX7_roomAt_0 rfl (lv_at hl 1 rfl) ?_
  refine lv_if_lt (tgt := 22) hx hb dX7_roomAt_1 (by decide) (fun c1 => ?_) (fun c1 => ?_)
  · have zc1 := ltK rfl (show (0 : Int32).toInt = 0 by decide) c1
    refine lv_iconst (v := (-1)) hx hb dX7_roomAt_22 (by decide) ?_
    exact retRi hx hb hr hlk hS dX7_roomAt_23 (fun q8 q9 => absurd q9 (by omega))
  · have zc1 := nltK rfl (show (0 : Int32).toInt = 0 by decide) c1
    refine lv_iload_n hx hb dX7_roomAt_4 rfl (lv_at hl 1 rfl) ?_
    refine lv_aload_n hx hb dX7_roomAt_5 rfl (lv_at hl 0 rfl) ?_
    refine getF (v := .int (Ft 3)) hx hb ht hown hK hP iTX7 0 3 rfl rfl (by decide) fl_RX7_23 rfl dX7_roomAt_6 ?_
    have zf2 : (0 : Int) ≤ (Ft 3).toInt ∧ (Ft 3).toInt ≤ 60 := hIt.1 3
    refine lv_icmp_ge (tgt := 22) hx hb dX7_roomAt_9 (by decide) (fun c3 => ?_) (fun c3 => ?_)
    · have zc3 := leK rfl rfl c3
      refine lv_iconst (v := (-1)) hx hb dX7_roomAt_22 (by decide) ?_
      exact retRi hx hb hr hlk hS dX7_roomAt_23 (fun q8 q9 => absurd q9 (by omega))
    · have zc3 := nleK rfl rfl c3
      refine lv_aload_n hx hb dX7_roomAt_12 rfl (lv_at hl 0 rfl) ?_
      refine getF (v := .ref (qt 0)) hx hb ht hown hK hP iTX7 0 0 rfl rfl (by decide) fl_RX7_9 rfl dX7_roomAt_13 ?_
      refine lv_iload_n hx hb dX7_roomAt_16 rfl (lv_at hl 1 rfl) ?_
      refine va_lald hx hb hK.1 hP 1 2 rfl rfl (inK rfl (by omega) (by decide)) dX7_roomAt_17 ?_
      refine lv_topl (fun v4 ev4 => ?_)
      have ev4 : v4 = (Bt 0) a1.toNatClampNeg := ev4
      refine lv_l2i hx hb dX7_roomAt_18 rfl ?_
      refine lv_topi (fun v5 ev5 => ?_)
      refine lv_goto (tgt := 23) hx hb dX7_roomAt_19 (by decide) ?_
      exact retRi hx hb hr hlk hS dX7_roomAt_23 (fun q8 q9 => by rw [ev5, ev4])

set_option maxRecDepth 100000 in
set_option maxHeartbeats 16000000 in
theorem sX7_callCount (l : Launch) (G : va_G) (cs : Nat → ClassId) (adt : Nat) (qt : Nat → Nat) (Ft : Nat → Int32) (At : Nat → Nat → Int32) (Bt : Nat → Nat → Int64) (Dt : Int64) (hIt : IX7 Ft At) : ∀ sz : Nat, Met l yX7_callCount (wk yX7_callCount cX7_callCount 3 (some .int)) (rmk 0 0 0) (PreP G (TY cs) [.ref adt] (uX7 cs adt qt Ft At Bt Dt) sz) (QRi (fun r : Int32 => True) sz) 0 0 (fun q => sz ≤ q) := by
  refine mkP (Qc := QRi (fun r : Int32 => True)) (by decide) (by simp [lg_sl, Value.category]) ?_
  intro p e s m args below meth c ls hx hb hml hr hlk hown ht hK hP hS hl
  have hl : lv_has ls 3 [(0, .ref adt)] := hl
  refine lv_iconst (v := 0) hx hb dX7_callCount_0 (by decide) ?_
  refine lv_istore_n (lv' := [(1, .int 0), (0, .ref adt)]) hx hb dX7_callCount_1 rfl hl (by decide) rfl (fun ls hl => ?_)
  refine lv_iconst (v := 0) hx hb dX7_callCount_2 (by decide) ?_
  refine lv_istore_n (lv' := [(2, .int 0), (1, .int 0), (0, .ref adt)]) hx hb dX7_callCount_3 rfl hl (by decide) rfl (fun ls hl => ?_)
  have B4 : ∀ (n : Nat) (x4_1 : Int32) (x4_2 : Int32) (H : Heap) (locs : List Loc) (ls : Array Slot), (60 - x4_2.toInt).toNat < n → (0 : Int) ≤ x4_2.toInt ∧ x4_2.toInt ≤ 60 → va_P G vwCl (uX7 cs adt qt Ft At Bt Dt) H → va_S (fun q => s.heap.size ≤ q) s.heap H locs → lv_has ls 3 [(0, .ref adt), (1, .int x4_1), (2, .int x4_2)] → W p l e (rmk 0 0 0) s m args below meth c H locs 0 0 (MQ below (QRi (fun r : Int32 => True) s.heap.size) args s 0 0 (fun q => s.heap.size ≤ q)) (F0 m 4 ls []) := by
    intro n
    induction n with
    | zero => intro x4_1 x4_2 H locs ls hmeas hx4_2 hP hS hl; exact absurd hmeas (Nat.not_lt_zero _)
    | succ n ih4 =>
      intro x4_1 x4_2 H locs ls hmeas hx4_2 hP hS hl
      refine lv_iload_n hx hb dX7_callCount_4 rfl (lv_at hl 2 rfl) ?_
      refine lv_aload_n hx hb dX7_callCount_5 rfl (lv_at hl 0 rfl) ?_
      refine getF (v := .int (Ft 3)) hx hb ht hown hK hP iTX7 0 3 rfl rfl (by decide) fl_RX7_23 rfl dX7_callCount_6 ?_
      have zf5001 : (0 : Int) ≤ (Ft 3).toInt ∧ (Ft 3).toInt ≤ 60 := hIt.1 3
      refine lv_icmp_ge (tgt := 34) hx hb dX7_callCount_9 (by decide) (fun c5002 => ?_) (fun c5002 => ?_)
      · have zc5002 := leK rfl rfl c5002
        refine lv_iload_n hx hb dX7_callCount_34 rfl (lv_at hl 1 rfl) ?_
        exact retRi hx hb hr hlk hS dX7_callCount_35 (trivial)
      · have zc5002 := nleK rfl rfl c5002
        refine lv_aload_n hx hb dX7_callCount_12 rfl (lv_at hl 0 rfl) ?_
        refine getF (v := .ref (qt 0)) hx hb ht hown hK hP iTX7 0 0 rfl rfl (by decide) fl_RX7_9 rfl dX7_callCount_13 ?_
        refine lv_iload_n hx hb dX7_callCount_16 rfl (lv_at hl 2 rfl) ?_
        refine va_lald hx hb hK.1 hP 1 2 rfl rfl (inK rfl (by omega) (by decide)) dX7_callCount_17 ?_
        refine lv_topl (fun v5003 ev5003 => ?_)
        have ev5003 : v5003 = (Bt 0) x4_2.toNatClampNeg := ev5003
        refine lv_ldc2 hx hb hown (ht _ kl_RX7_32) dX7_callCount_18 ?_
        refine W.lcmp hx hb dX7_callCount_21 ?_
        refine lv_topi (fun v5004 ev5004 => ?_)
        have B28 : ∀ (x28_1 : Int32) (H : Heap) (locs : List Loc) (ls : Array Slot), va_P G vwCl (uX7 cs adt qt Ft At Bt Dt) H → va_S (fun q => s.heap.size ≤ q) s.heap H locs → lv_has ls 3 [(0, .ref adt), (1, .int x28_1), (2, .int x4_2)] → W p l e (rmk 0 0 0) s m args below meth c H locs 0 0 (MQ below (QRi (fun r : Int32 => True) s.heap.size) args s 0 0 (fun q => s.heap.size ≤ q)) (F0 m 28 ls []) := by
          intro x28_1 H locs ls hP hS hl
          obtain ⟨v17001, ev17001⟩ : ∃ z : Int32, z = x4_2 + 1 := ⟨_, rfl⟩
          have tv17001 : v17001.toInt = x4_2.toInt + 1 := by rw [ev17001]; exact addT rfl (by decide) (by omega)
          refine lv_iinc (v := v17001) (lv' := [(2, .int v17001), (0, .ref adt), (1, .int x28_1)]) hx hb dX7_callCount_28 hl (k := 2) rfl (by rw [ev17001]; rfl) (by decide) rfl (fun ls hl => ?_)
          refine lv_goto (tgt := 4) hx hb dX7_callCount_31 (by decide) ?_
          exact ih4 x28_1 v17001 H locs ls (by omega) (by omega) hP hS (lv_sub hl [1, 2, 0] rfl)
        refine lv_if_eq (tgt := 28) hx hb dX7_callCount_22 (by decide) (fun c5005 => ?_) (fun c5005 => ?_)
        · have zc5005 := eqK rfl (show (0 : Int32).toInt = 0 by decide) c5005
          have yc5005 := cmpEQ rfl (show (-1 : Int64).toInt = (-1) by decide) ev5004 (by omega)
          exact B28 x4_1 H locs ls hP hS (lv_sub hl [0, 1, 2] rfl)
        · have zc5005 := neK rfl (show (0 : Int32).toInt = 0 by decide) c5005
          have yc5005 := cmpEQn rfl (show (-1 : Int64).toInt = (-1) by decide) ev5004 (by omega)
          obtain ⟨v5006, ev5006⟩ : ∃ z : Int32, z = x4_1 + 1 := ⟨_, rfl⟩
          refine lv_iinc (v := v5006) (lv' := [(1, .int v5006), (0, .ref adt), (2, .int x4_2)]) hx hb dX7_callCount_25 hl (k := 1) rfl (by rw [ev5006]; rfl) (by decide) rfl (fun ls hl => ?_)
          exact B28 v5006 H locs ls hP hS (lv_sub hl [1, 0, 2] rfl)
  exact B4 _ 0 0 s.heap [] ls (Nat.lt_succ_self _) (by decide) hP hS (lv_sub hl [2, 1, 0] rfl)

set_option maxRecDepth 100000 in
set_option maxHeartbeats 16000000 in
theorem sX7_countOf (l : Launch) (G : va_G) (cs : Nat → ClassId) (adt : Nat) (qt : Nat → Nat) (Ft : Nat → Int32) (At : Nat → Nat → Int32) (Bt : Nat → Nat → Int64) (Dt : Int64) (hIt : IX7 Ft At) (a1 : Int32) (a2 : Int32) : ∀ sz : Nat, Met l yX7_countOf (wk yX7_countOf cX7_countOf 5 (some .int)) (rmk 0 0 0) (PreP G (TY cs) [.ref adt, .int a1, .int a2] (uX7 cs adt qt Ft At Bt Dt) sz) (QRi (fun r : Int32 => True) sz) 0 0 (fun q => sz ≤ q) := by
  refine mkP (Qc := QRi (fun r : Int32 => True)) (by decide) (by simp [lg_sl, Value.category]) ?_
  intro p e s m args below meth c ls hx hb hml hr hlk hown ht hK hP hS hl
  have hl : lv_has ls 5 [(0, .ref adt), (1, .int a1), (2, .int a2)] := hl
  refine lv_iconst (v := 0) hx hb dX7_countOf_0 (by decide) ?_
  refine lv_istore_n (lv' := [(3, .int 0), (0, .ref adt), (1, .int a1), (2, .int a2)]) hx hb dX7_countOf_1 rfl hl (by decide) rfl (fun ls hl => ?_)
  refine lv_iconst (v := 0) hx hb dX7_countOf_2 (by decide) ?_
  refine lv_istore (lv' := [(4, .int 0), (3, .int 0), (0, .ref adt), (1, .int a1), (2, .int a2)]) hx hb dX7_countOf_3 hl (by decide) rfl (fun ls hl => ?_)
  have B5 : ∀ (n : Nat) (x5_3 : Int32) (x5_4 : Int32) (H : Heap) (locs : List Loc) (ls : Array Slot), (60 - x5_4.toInt).toNat < n → (0 : Int) ≤ x5_4.toInt ∧ x5_4.toInt ≤ 60 → va_P G vwCl (uX7 cs adt qt Ft At Bt Dt) H → va_S (fun q => s.heap.size ≤ q) s.heap H locs → lv_has ls 5 [(0, .ref adt), (1, .int a1), (2, .int a2), (3, .int x5_3), (4, .int x5_4)] → W p l e (rmk 0 0 0) s m args below meth c H locs 0 0 (MQ below (QRi (fun r : Int32 => True) s.heap.size) args s 0 0 (fun q => s.heap.size ≤ q)) (F0 m 5 ls []) := by
    intro n
    induction n with
    | zero => intro x5_3 x5_4 H locs ls hmeas hx5_4 hP hS hl; exact absurd hmeas (Nat.not_lt_zero _)
    | succ n ih5 =>
      intro x5_3 x5_4 H locs ls hmeas hx5_4 hP hS hl
      refine lv_iload hx hb dX7_countOf_5 (lv_at hl 4 rfl) ?_
      refine lv_aload_n hx hb dX7_countOf_7 rfl (lv_at hl 0 rfl) ?_
      refine getF (v := .int (Ft 3)) hx hb ht hown hK hP iTX7 0 3 rfl rfl (by decide) fl_RX7_23 rfl dX7_countOf_8 ?_
      have zf5001 : (0 : Int) ≤ (Ft 3).toInt ∧ (Ft 3).toInt ≤ 60 := hIt.1 3
      refine lv_icmp_ge (tgt := 61) hx hb dX7_countOf_11 (by decide) (fun c5002 => ?_) (fun c5002 => ?_)
      · have zc5002 := leK rfl rfl c5002
        refine lv_iload_n hx hb dX7_countOf_61 rfl (lv_at hl 3 rfl) ?_
        exact retRi hx hb hr hlk hS dX7_countOf_62 (trivial)
      · have zc5002 := nleK rfl rfl c5002
        refine lv_aload_n hx hb dX7_countOf_14 rfl (lv_at hl 0 rfl) ?_
        refine getF (v := .ref (qt 0)) hx hb ht hown hK hP iTX7 0 0 rfl rfl (by decide) fl_RX7_9 rfl dX7_countOf_15 ?_
        refine lv_iload hx hb dX7_countOf_18 (lv_at hl 4 rfl) ?_
        refine va_lald hx hb hK.1 hP 1 2 rfl rfl (inK rfl (by omega) (by decide)) dX7_countOf_20 ?_
        refine lv_topl (fun v5003 ev5003 => ?_)
        have ev5003 : v5003 = (Bt 0) x5_4.toNatClampNeg := ev5003
        refine lv_iload_n hx hb dX7_countOf_21 rfl (lv_at hl 1 rfl) ?_
        refine lv_i2l hx hb dX7_countOf_22 rfl ?_
        have bb5004 := i32b a1
        refine lv_topl (fun v5005 ev5005 => ?_)
        have tv5005 : v5005.toInt = a1.toInt := by rw [ev5005]; exact Int32.toInt_toInt64 _
        refine W.lcmp hx hb dX7_countOf_23 ?_
        refine lv_topi (fun v5006 ev5006 => ?_)
        have B55 : ∀ (x55_3 : Int32) (H : Heap) (locs : List Loc) (ls : Array Slot), va_P G vwCl (uX7 cs adt qt Ft At Bt Dt) H → va_S (fun q => s.heap.size ≤ q) s.heap H locs → lv_has ls 5 [(0, .ref adt), (1, .int a1), (2, .int a2), (3, .int x55_3), (4, .int x5_4)] → W p l e (rmk 0 0 0) s m args below meth c H locs 0 0 (MQ below (QRi (fun r : Int32 => True) s.heap.size) args s 0 0 (fun q => s.heap.size ≤ q)) (F0 m 55 ls []) := by
          intro x55_3 H locs ls hP hS hl
          obtain ⟨v33001, ev33001⟩ : ∃ z : Int32, z = x5_4 + 1 := ⟨_, rfl⟩
          have tv33001 : v33001.toInt = x5_4.toInt + 1 := by rw [ev33001]; exact addT rfl (by decide) (by omega)
          refine lv_iinc (v := v33001) (lv' := [(4, .int v33001), (0, .ref adt), (1, .int a1), (2, .int a2), (3, .int x55_3)]) hx hb dX7_countOf_55 hl (k := 4) rfl (by rw [ev33001]; rfl) (by decide) rfl (fun ls hl => ?_)
          refine lv_goto (tgt := 5) hx hb dX7_countOf_58 (by decide) ?_
          exact ih5 x55_3 v33001 H locs ls (by omega) (by omega) hP hS (lv_sub hl [1, 2, 3, 4, 0] rfl)
        refine lv_if_ne (tgt := 55) hx hb dX7_countOf_24 (by decide) (fun c5007 => ?_) (fun c5007 => ?_)
        · have zc5007 := neK rfl (show (0 : Int32).toInt = 0 by decide) c5007
          have yc5007 := cmpEQn rfl rfl ev5006 (by omega)
          exact B55 x5_3 H locs ls hP hS (lv_sub hl [0, 1, 2, 3, 4] rfl)
        · have zc5007 := eqK rfl (show (0 : Int32).toInt = 0 by decide) c5007
          have yc5007 := cmpEQ rfl rfl ev5006 (by omega)
          refine lv_iload_n hx hb dX7_countOf_27 rfl (lv_at hl 2 rfl) ?_
          refine lv_iconst (v := (-1)) hx hb dX7_countOf_28 (by decide) ?_
          have B52 : ∀ (H : Heap) (locs : List Loc) (ls : Array Slot), va_P G vwCl (uX7 cs adt qt Ft At Bt Dt) H → va_S (fun q => s.heap.size ≤ q) s.heap H locs → lv_has ls 5 [(0, .ref adt), (1, .int a1), (2, .int a2), (3, .int x5_3), (4, .int x5_4)] → W p l e (rmk 0 0 0) s m args below meth c H locs 0 0 (MQ below (QRi (fun r : Int32 => True) s.heap.size) args s 0 0 (fun q => s.heap.size ≤ q)) (F0 m 52 ls []) := by
            intro H locs ls hP hS hl
            obtain ⟨v32001, ev32001⟩ : ∃ z : Int32, z = x5_3 + 1 := ⟨_, rfl⟩
            refine lv_iinc (v := v32001) (lv' := [(3, .int v32001), (0, .ref adt), (1, .int a1), (2, .int a2), (4, .int x5_4)]) hx hb dX7_countOf_52 hl (k := 3) rfl (by rw [ev32001]; rfl) (by decide) rfl (fun ls hl => ?_)
            exact B55 v32001 H locs ls hP hS (lv_sub hl [1, 2, 3, 0, 4] rfl)
          refine lv_icmp_eq (tgt := 52) hx hb dX7_countOf_29 (by decide) (fun c5008 => ?_) (fun c5008 => ?_)
          · have zc5008 := eqK rfl (show (-1 : Int32).toInt = (-1) by decide) c5008
            exact B52 H locs ls hP hS (lv_sub hl [0, 1, 2, 3, 4] rfl)
          · have zc5008 := neK rfl (show (-1 : Int32).toInt = (-1) by decide) c5008
            refine lv_iload hx hb dX7_countOf_32 (lv_at hl 4 rfl) ?_
            refine lv_if_le (tgt := 55) hx hb dX7_countOf_34 (by decide) (fun c5009 => ?_) (fun c5009 => ?_)
            · have zc5009 := leK rfl (show (0 : Int32).toInt = 0 by decide) c5009
              exact B55 x5_3 H locs ls hP hS (lv_sub hl [0, 1, 2, 3, 4] rfl)
            · have zc5009 := nleK rfl (show (0 : Int32).toInt = 0 by decide) c5009
              refine lv_aload_n hx hb dX7_countOf_37 rfl (lv_at hl 0 rfl) ?_
              refine getF (v := .ref (qt 0)) hx hb ht hown hK hP iTX7 0 0 rfl rfl (by decide) fl_RX7_9 rfl dX7_countOf_38 ?_
              refine lv_iload hx hb dX7_countOf_41 (lv_at hl 4 rfl) ?_
              refine lv_iconst (v := 1) hx hb dX7_countOf_43 (by decide) ?_
              refine lv_isub hx hb dX7_countOf_44 ?_
              refine lv_topi (fun v5010 ev5010 => ?_)
              have tv5010 : v5010.toInt = x5_4.toInt - 1 := by rw [ev5010]; exact subT rfl (show (1 : Int32).toInt = 1 by decide) (by omega)
              refine va_lald hx hb hK.1 hP 1 2 rfl rfl (inK rfl (by omega) (by decide)) dX7_countOf_45 ?_
              refine lv_topl (fun v5011 ev5011 => ?_)
              have ev5011 : v5011 = (Bt 0) v5010.toNatClampNeg := ev5011
              refine lv_iload_n hx hb dX7_countOf_46 rfl (lv_at hl 2 rfl) ?_
              refine lv_i2l hx hb dX7_countOf_47 rfl ?_
              have bb5012 := i32b a2
              refine lv_topl (fun v5013 ev5013 => ?_)
              have tv5013 : v5013.toInt = a2.toInt := by rw [ev5013]; exact Int32.toInt_toInt64 _
              refine W.lcmp hx hb dX7_countOf_48 ?_
              refine lv_topi (fun v5014 ev5014 => ?_)
              refine lv_if_ne (tgt := 55) hx hb dX7_countOf_49 (by decide) (fun c5015 => ?_) (fun c5015 => ?_)
              · have zc5015 := neK rfl (show (0 : Int32).toInt = 0 by decide) c5015
                have yc5015 := cmpEQn rfl rfl ev5014 (by omega)
                exact B55 x5_3 H locs ls hP hS (lv_sub hl [0, 1, 2, 3, 4] rfl)
              · have zc5015 := eqK rfl (show (0 : Int32).toInt = 0 by decide) c5015
                have yc5015 := cmpEQ rfl rfl ev5014 (by omega)
                exact B52 H locs ls hP hS (lv_sub hl [0, 1, 2, 3, 4] rfl)
  exact B5 _ 0 0 s.heap [] ls (Nat.lt_succ_self _) (by decide) hP hS (lv_sub hl [2, 3, 4, 1, 0] rfl)

set_option maxRecDepth 100000 in
set_option maxHeartbeats 16000000 in
theorem sX7_comesAgain (l : Launch) (G : va_G) (cs : Nat → ClassId) (adt : Nat) (qt : Nat → Nat) (Ft : Nat → Int32) (At : Nat → Nat → Int32) (Bt : Nat → Nat → Int64) (Dt : Int64) (hIt : IX7 Ft At) (a1 : Int32) (ha1 : (0 : Int) ≤ a1.toInt ∧ a1.toInt ≤ 60) : ∀ sz : Nat, Met l yX7_comesAgain (wk yX7_comesAgain cX7_comesAgain 3 (some .boolean)) (rmk 0 0 0) (PreP G (TY cs) [.ref adt, .int a1] (uX7 cs adt qt Ft At Bt Dt) sz) (QRi (fun r : Int32 => (0 : Int) ≤ r.toInt ∧ r.toInt ≤ 1) sz) 0 0 (fun q => sz ≤ q) := by
  refine mkP (Qc := QRi (fun r : Int32 => (0 : Int) ≤ r.toInt ∧ r.toInt ≤ 1)) (by decide) (by simp [lg_sl, Value.category]) ?_
  intro p e s m args below meth c ls hx hb hml hr hlk hown ht hK hP hS hl
  have hl : lv_has ls 3 [(0, .ref adt), (1, .int a1)] := hl
  refine lv_iconst (v := 0) hx hb dX7_comesAgain_0 (by decide) ?_
  refine lv_istore_n (lv' := [(2, .int 0), (0, .ref adt), (1, .int a1)]) hx hb dX7_comesAgain_1 rfl hl (by decide) rfl (fun ls hl => ?_)
  have B2 : ∀ (n : Nat) (x2_2 : Int32) (H : Heap) (locs : List Loc) (ls : Array Slot), (60 - x2_2.toInt).toNat < n → (0 : Int) ≤ x2_2.toInt ∧ x2_2.toInt ≤ 60 → va_P G vwCl (uX7 cs adt qt Ft At Bt Dt) H → va_S (fun q => s.heap.size ≤ q) s.heap H locs → lv_has ls 3 [(0, .ref adt), (1, .int a1), (2, .int x2_2)] → W p l e (rmk 0 0 0) s m args below meth c H locs 0 0 (MQ below (QRi (fun r : Int32 => (0 : Int) ≤ r.toInt ∧ r.toInt ≤ 1) s.heap.size) args s 0 0 (fun q => s.heap.size ≤ q)) (F0 m 2 ls []) := by
    intro n
    induction n with
    | zero => intro x2_2 H locs ls hmeas hx2_2 hP hS hl; exact absurd hmeas (Nat.not_lt_zero _)
    | succ n ih2 =>
      intro x2_2 H locs ls hmeas hx2_2 hP hS hl
      refine lv_iload_n hx hb dX7_comesAgain_2 rfl (lv_at hl 1 rfl) ?_
      refine lv_if_lt (tgt := 42) hx hb dX7_comesAgain_3 (by decide) (fun c3001 => False.elim (by have zz := ltK rfl (show (0 : Int32).toInt = 0 by decide) c3001; omega)) (fun c3001 => ?_)
      refine lv_iload_n hx hb dX7_comesAgain_6 rfl (lv_at hl 2 rfl) ?_
      refine lv_iload_n hx hb dX7_comesAgain_7 rfl (lv_at hl 1 rfl) ?_
      refine lv_iadd hx hb dX7_comesAgain_8 ?_
      refine lv_topi (fun v3002 ev3002 => ?_)
      have tv3002 : v3002.toInt = x2_2.toInt + a1.toInt := by rw [ev3002]; exact addT rfl rfl (by omega)
      refine lv_aload_n hx hb dX7_comesAgain_9 rfl (lv_at hl 0 rfl) ?_
      refine getF (v := .int (Ft 3)) hx hb ht hown hK hP iTX7 0 3 rfl rfl (by decide) fl_RX7_23 rfl dX7_comesAgain_10 ?_
      have zf3003 : (0 : Int) ≤ (Ft 3).toInt ∧ (Ft 3).toInt ≤ 60 := hIt.1 3
      refine lv_icmp_ge (tgt := 42) hx hb dX7_comesAgain_13 (by decide) (fun c3004 => ?_) (fun c3004 => ?_)
      · have zc3004 := leK rfl rfl c3004
        refine lv_iconst (v := 1) hx hb dX7_comesAgain_42 (by decide) ?_
        exact retRz hx hb hr hlk hS dX7_comesAgain_43 (rfl) (show (0 : Int) ≤ (1 : Int32).toInt ∧ (1 : Int32).toInt ≤ 1 by have kk : (1 : Int32).toInt = 1 := (by decide); omega)
      · have zc3004 := nleK rfl rfl c3004
        refine lv_aload_n hx hb dX7_comesAgain_16 rfl (lv_at hl 0 rfl) ?_
        refine getF (v := .ref (qt 0)) hx hb ht hown hK hP iTX7 0 0 rfl rfl (by decide) fl_RX7_9 rfl dX7_comesAgain_17 ?_
        refine lv_iload_n hx hb dX7_comesAgain_20 rfl (lv_at hl 2 rfl) ?_
        refine va_lald hx hb hK.1 hP 1 2 rfl rfl (inK rfl (by omega) (by decide)) dX7_comesAgain_21 ?_
        refine lv_topl (fun v3005 ev3005 => ?_)
        have ev3005 : v3005 = (Bt 0) x2_2.toNatClampNeg := ev3005
        refine lv_aload_n hx hb dX7_comesAgain_22 rfl (lv_at hl 0 rfl) ?_
        refine getF (v := .ref (qt 0)) hx hb ht hown hK hP iTX7 0 0 rfl rfl (by decide) fl_RX7_9 rfl dX7_comesAgain_23 ?_
        refine lv_iload_n hx hb dX7_comesAgain_26 rfl (lv_at hl 2 rfl) ?_
        refine lv_iload_n hx hb dX7_comesAgain_27 rfl (lv_at hl 1 rfl) ?_
        refine lv_iadd hx hb dX7_comesAgain_28 ?_
        refine lv_topi (fun v3006 ev3006 => ?_)
        have tv3006 : v3006.toInt = x2_2.toInt + a1.toInt := by rw [ev3006]; exact addT rfl rfl (by omega)
        refine va_lald hx hb hK.1 hP 1 2 rfl rfl (inK rfl (by omega) (by decide)) dX7_comesAgain_29 ?_
        refine lv_topl (fun v3007 ev3007 => ?_)
        have ev3007 : v3007 = (Bt 0) v3006.toNatClampNeg := ev3007
        refine W.lcmp hx hb dX7_comesAgain_30 ?_
        refine lv_topi (fun v3008 ev3008 => ?_)
        refine lv_if_eq (tgt := 36) hx hb dX7_comesAgain_31 (by decide) (fun c3009 => ?_) (fun c3009 => ?_)
        · have zc3009 := eqK rfl (show (0 : Int32).toInt = 0 by decide) c3009
          have yc3009 := cmpEQ rfl rfl ev3008 (by omega)
          obtain ⟨v3010, ev3010⟩ : ∃ z : Int32, z = x2_2 + 1 := ⟨_, rfl⟩
          have tv3010 : v3010.toInt = x2_2.toInt + 1 := by rw [ev3010]; exact addT rfl (by decide) (by omega)
          refine lv_iinc (v := v3010) (lv' := [(2, .int v3010), (0, .ref adt), (1, .int a1)]) hx hb dX7_comesAgain_36 hl (k := 2) rfl (by rw [ev3010]; rfl) (by decide) rfl (fun ls hl => ?_)
          refine lv_goto (tgt := 2) hx hb dX7_comesAgain_39 (by decide) ?_
          exact ih2 v3010 H locs ls (by omega) (by omega) hP hS (lv_sub hl [1, 2, 0] rfl)
        · have zc3009 := neK rfl (show (0 : Int32).toInt = 0 by decide) c3009
          have yc3009 := cmpEQn rfl rfl ev3008 (by omega)
          refine lv_iconst (v := 0) hx hb dX7_comesAgain_34 (by decide) ?_
          exact retRz hx hb hr hlk hS dX7_comesAgain_35 (rfl) (show (0 : Int) ≤ (0 : Int32).toInt ∧ (0 : Int32).toInt ≤ 1 by have kk : (0 : Int32).toInt = 0 := (by decide); omega)
  exact B2 _ 0 s.heap [] ls (Nat.lt_succ_self _) (by decide) hP hS (lv_sub hl [1, 2, 0] rfl)

set_option maxRecDepth 100000 in
set_option maxHeartbeats 16000000 in
theorem sX5_of (l : Launch) (G : va_G) (cs : Nat → ClassId) (adt : Nat) (qt : Nat → Nat) (Ft : Nat → Int32) (At : Nat → Nat → Int32) (Bt : Nat → Nat → Int64) (Dt : Int64) (hIt : IX5 Ft At) (a1 : Int32) : ∀ sz : Nat, Met l yX5_of (wk yX5_of cX5_of 2 (some .int)) (rmk 0 0 0) (PreP G (TY cs) [.ref adt, .int a1] (uX5 cs adt qt Ft At Bt Dt) sz) (QRi (fun r : Int32 => True) sz) 0 0 (fun q => sz ≤ q) := by
  refine mkP (Qc := QRi (fun r : Int32 => True)) (by decide) (by simp [lg_sl, Value.category]) ?_
  intro p e s m args below meth c ls hx hb hml hr hlk hown ht hK hP hS hl
  have hl : lv_has ls 2 [(0, .ref adt), (1, .int a1)] := hl
  refine lv_iload_n hx hb dX5_of_0 rfl (lv_at hl 1 rfl) ?_
  refine lv_if_lt (tgt := 19) hx hb dX5_of_1 (by decide) (fun c1 => ?_) (fun c1 => ?_)
  · have zc1 := ltK rfl (show (0 : Int32).toInt = 0 by decide) c1
    refine lv_aload_n hx hb dX5_of_19 rfl (lv_at hl 0 rfl) ?_
    refine getF (v := .int (Ft 2)) hx hb ht hown hK hP iTX5 0 2 rfl rfl (by decide) fl_RX5_41 rfl dX5_of_20 ?_
    exact retRi hx hb hr hlk hS dX5_of_23 (trivial)
  · have zc1 := nltK rfl (show (0 : Int32).toInt = 0 by decide) c1
    refine lv_iload_n hx hb dX5_of_4 rfl (lv_at hl 1 rfl) ?_
    refine lv_bipush (v := 7) hx hb dX5_of_5 (by decide) ?_
    refine lv_icmp_ge (tgt := 19) hx hb dX5_of_7 (by decide) (fun c2 => ?_) (fun c2 => ?_)
    · have zc2 := leK (show (7 : Int32).toInt = 7 by decide) rfl c2
      refine lv_aload_n hx hb dX5_of_19 rfl (lv_at hl 0 rfl) ?_
      refine getF (v := .int (Ft 2)) hx hb ht hown hK hP iTX5 0 2 rfl rfl (by decide) fl_RX5_41 rfl dX5_of_20 ?_
      exact retRi hx hb hr hlk hS dX5_of_23 (trivial)
    · have zc2 := nleK (show (7 : Int32).toInt = 7 by decide) rfl c2
      refine lv_aload_n hx hb dX5_of_10 rfl (lv_at hl 0 rfl) ?_
      refine getF (v := .ref (qt 0)) hx hb ht hown hK hP iTX5 0 0 rfl rfl (by decide) fl_RX5_9 rfl dX5_of_11 ?_
      refine lv_iload_n hx hb dX5_of_14 rfl (lv_at hl 1 rfl) ?_
      refine va_iald hx hb hK.1 hP 1 0 rfl rfl (inK rfl (by omega) (by decide)) dX5_of_15 ?_
      refine lv_topi (fun v3 ev3 => ?_)
      refine lv_goto (tgt := 23) hx hb dX5_of_16 (by decide) ?_
      exact retRi hx hb hr hlk hS dX5_of_23 (trivial)

set_option maxRecDepth 100000 in
set_option maxHeartbeats 16000000 in
theorem sX5_chanceOf (l : Launch) (G : va_G) (cs : Nat → ClassId) (adt : Nat) (qt : Nat → Nat) (Ft : Nat → Int32) (At : Nat → Nat → Int32) (Bt : Nat → Nat → Int64) (Dt : Int64) (hIt : IX5 Ft At) (a1 : Int32) : ∀ sz : Nat, Met l yX5_chanceOf (wk yX5_chanceOf cX5_chanceOf 3 (some .int)) (rmk 0 0 0) (PreP G (TY cs) [.ref adt, .int a1] (uX5 cs adt qt Ft At Bt Dt) sz) (QRi (fun r : Int32 => True) sz) 0 0 (fun q => sz ≤ q) := by
  refine mkP (Qc := QRi (fun r : Int32 => True)) (by decide) (by simp [lg_sl, Value.category]) ?_
  intro p e s m args below meth c ls hx hb hml hr hlk hown ht hK hP hS hl
  have hl : lv_has ls 3 [(0, .ref adt), (1, .int a1)] := hl
  refine lv_ldc hx hb hown (ht _ ki_RX5_24) dX5_chanceOf_0 ?_
  refine lv_aload_n hx hb dX5_chanceOf_2 rfl (lv_at hl 0 rfl) ?_
  refine getF (v := .int (Ft 3)) hx hb ht hown hK hP iTX5 0 3 rfl rfl (by decide) fl_RX5_44 rfl dX5_chanceOf_3 ?_
  refine lv_isub hx hb dX5_chanceOf_6 ?_
  refine lv_topi (fun v1 ev1 => ?_)
  refine lv_istore_n (lv' := [(2, .int v1), (0, .ref adt), (1, .int a1)]) hx hb dX5_chanceOf_7 rfl hl (by decide) rfl (fun ls hl => ?_)
  refine lv_iload_n hx hb dX5_chanceOf_8 rfl (lv_at hl 0 rfl) ?_
  refine lv_if_gt (tgt := 16) hx hb dX5_chanceOf_9 (by decide) (fun c2 => ?_) (fun c2 => ?_)
  · have zc2 := ltK (show (0 : Int32).toInt = 0 by decide) rfl c2
    refine lv_iload_n hx hb dX5_chanceOf_16 rfl (lv_at hl 2 rfl) ?_
    refine lv_i2l hx hb dX5_chanceOf_17 rfl ?_
    have bb3 := i32b a1
    refine lv_topl (fun v4 ev4 => ?_)
    have tv4 : v4.toInt = a1.toInt := by rw [ev4]; exact Int32.toInt_toInt64 _
    refine lv_ldc2 hx hb hown (ht _ kl_RX5_53) dX5_chanceOf_18 ?_
    refine lv_lmul hx hb dX5_chanceOf_21 ?_
    refine lv_topl (fun v5 ev5 => ?_)
    have tv5 : v5.toInt = v4.toInt * 1000000 := by rw [ev5]; exact mulL rfl (show (1000000 : Int64).toInt = 1000000 by decide) (by omega)
    refine lv_iload_n hx hb dX5_chanceOf_22 rfl (lv_at hl 0 rfl) ?_
    refine lv_i2l hx hb dX5_chanceOf_23 rfl ?_
    have bb6 := i32b v1
    refine lv_topl (fun v7 ev7 => ?_)
    have tv7 : v7.toInt = v1.toInt := by rw [ev7]; exact Int32.toInt_toInt64 _
    refine lv_ldiv hx hb dX5_chanceOf_24 (n0L rfl (by omega)) ?_
    refine lv_topl (fun v8 ev8 => ?_)
    refine lv_l2i hx hb dX5_chanceOf_25 rfl ?_
    refine lv_topi (fun v9 ev9 => ?_)
    exact retRi hx hb hr hlk hS dX5_chanceOf_26 (trivial)
  · have zc2 := nltK (show (0 : Int32).toInt = 0 by decide) rfl c2
    refine lv_iconst (v := 0) hx hb dX5_chanceOf_12 (by decide) ?_
    refine lv_goto (tgt := 26) hx hb dX5_chanceOf_13 (by decide) ?_
    exact retRi hx hb hr hlk hS dX5_chanceOf_26 (trivial)

