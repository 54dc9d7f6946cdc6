set_option maxRecDepth 100000 in
set_option maxHeartbeats 16000000 in
theorem sX3_countDoors (l : Launch) (G : va_G) (cs : Nat → ClassId) (adt : Nat) (qt : Nat → Nat) (Ft : Nat → Int32) (At : Nat → Nat → Int32) (Bt : Nat → Nat → Int64) (Dt : Int64) (hIt : IX3 Ft At) : ∀ sz : Nat, Met l yX3_countDoors (wk yX3_countDoors cX3_countDoors 3 (some .int)) (rmk 1 0 0) (PreP G (TY cs) [.ref adt] (uX3 cs adt qt Ft At Bt Dt) sz) (QRi (fun r : Int32 => True) sz) 0 0 (fun q => sz ≤ q) := by
  refine mkP (Qc := QRi (fun r : Int32 => True)) (by decide) (by simp [lg_sl, Value.category]) ?_
  intro p e s m args below meth c ls hx hb hml hr hlk hown ht hK hP hS hl
  have hl : lv_has ls 3 [(0, .ref adt)] := hl
  refine lv_iconst (v := 0) hx hb dX3_countDoors_0 (by decide) ?_
  refine lv_istore_n (lv' := [(1, .int 0), (0, .ref adt)]) hx hb dX3_countDoors_1 rfl hl (by decide) rfl (fun ls hl => ?_)
  refine lv_iconst (v := 0) hx hb dX3_countDoors_2 (by decide) ?_
  refine lv_istore_n (lv' := [(2, .int 0), (1, .int 0), (0, .ref adt)]) hx hb dX3_countDoors_3 rfl hl (by decide) rfl (fun ls hl => ?_)
  have B4 : ∀ (n : Nat) (x4_1 : Int32) (x4_2 : Int32) (H : Heap) (locs : List Loc) (ls : Array Slot), (7 - x4_2.toInt).toNat < n → (0 : Int) ≤ x4_2.toInt ∧ x4_2.toInt ≤ 7 → va_P G vwCl (uX3 cs adt qt Ft At Bt Dt) H → va_S (fun q => s.heap.size ≤ q) s.heap H locs → lv_has ls 3 [(0, .ref adt), (1, .int x4_1), (2, .int x4_2)] → W p l e (rmk 1 0 0) s m args below meth c H locs 0 0 (MQ below (QRi (fun r : Int32 => True) s.heap.size) args s 0 0 (fun q => s.heap.size ≤ q)) (F0 m 4 ls []) := by
    intro n
    induction n with
    | zero => intro x4_1 x4_2 H locs ls hmeas hx4_2 hP hS hl; exact absurd hmeas (Nat.not_lt_zero _)
    | succ n ih4 =>
      intro x4_1 x4_2 H locs ls hmeas hx4_2 hP hS hl
      refine lv_iload_n hx hb dX3_countDoors_4 rfl (lv_at hl 2 rfl) ?_
      refine lv_aload_n hx hb dX3_countDoors_5 rfl (lv_at hl 0 rfl) ?_
      refine getF (v := .int (Ft 5)) hx hb ht hown hK hP iTX3 0 5 rfl rfl (by decide) fl_RX3_49 rfl dX3_countDoors_6 ?_
      have zf5001 : (0 : Int) ≤ (Ft 5).toInt ∧ (Ft 5).toInt ≤ 7 := hIt.1 5
      refine lv_icmp_ge (tgt := 30) hx hb dX3_countDoors_9 (by decide) (fun c5002 => ?_) (fun c5002 => ?_)
      · have zc5002 := leK rfl rfl c5002
        refine lv_iload_n hx hb dX3_countDoors_30 rfl (lv_at hl 1 rfl) ?_
        refine lv_iconst (v := 2) hx hb dX3_countDoors_31 (by decide) ?_
        refine lv_idiv hx hb dX3_countDoors_32 (by decide) ?_
        refine lv_topi (fun v5003 ev5003 => ?_)
        exact retRi hx hb hr hlk hS dX3_countDoors_33 (trivial)
      · have zc5002 := nleK rfl rfl c5002
        refine lv_iload_n hx hb dX3_countDoors_12 rfl (lv_at hl 1 rfl) ?_
        refine lv_aload_n hx hb dX3_countDoors_13 rfl (lv_at hl 0 rfl) ?_
        refine getF (v := .ref (qt 10)) hx hb ht hown hK hP iTX3 0 10 rfl rfl (by decide) fl_RX3_21 rfl dX3_countDoors_14 ?_
        refine lv_iload_n hx hb dX3_countDoors_17 rfl (lv_at hl 2 rfl) ?_
        refine va_iald hx hb hK.1 hP 4 0 rfl rfl (inK rfl (by omega) (by decide)) dX3_countDoors_18 ?_
        refine lv_topi (fun v5004 ev5004 => ?_)
        have zf5005 : (0 : Int) ≤ v5004.toInt ∧ v5004.toInt ≤ 127 := by rw [ev5004]; exact (hIt.2 10 _)
        refine behR (runTP (As := [.int v5004]) (rest := [.int x4_1]) ⟨hx, hb, hml, hown, ht⟩ (sJ6_bitCount_0f7a4 l G cs v5004 ) okT_RX3_69 ⟨by decide, by decide⟩ hK hP [] rfl hl.1 rfl (Nat.le_of_ble_eq_true rfl) dX3_countDoors_19 ⟨by decide, by decide⟩) hP hS (fun _ h => h) (fun r5006 H locs hr5006 hP hS => ?_)
        refine lv_iadd hx hb dX3_countDoors_22 ?_
        refine lv_topi (fun v5007 ev5007 => ?_)
        refine lv_istore_n (lv' := [(1, .int v5007), (0, .ref adt), (2, .int x4_2)]) hx hb dX3_countDoors_23 rfl hl (by decide) rfl (fun ls hl => ?_)
        obtain ⟨v5008, ev5008⟩ : ∃ z : Int32, z = x4_2 + 1 := ⟨_, rfl⟩
        have tv5008 : v5008.toInt = x4_2.toInt + 1 := by rw [ev5008]; exact addT rfl (by decide) (by omega)
        refine lv_iinc (v := v5008) (lv' := [(2, .int v5008), (1, .int v5007), (0, .ref adt)]) hx hb dX3_countDoors_24 hl (k := 2) rfl (by rw [ev5008]; rfl) (by decide) rfl (fun ls hl => ?_)
        refine lv_goto (tgt := 4) hx hb dX3_countDoors_27 (by decide) ?_
        exact ih4 v5007 v5008 H locs ls (by omega) (by omega) hP hS (lv_sub hl [2, 1, 0] rfl)
  exact B4 _ 0 0 s.heap [] ls (Nat.lt_succ_self _) (by decide) hP hS (lv_sub hl [2, 1, 0] rfl)

set_option maxRecDepth 100000 in
set_option maxHeartbeats 16000000 in
theorem sX3_allRooms (l : Launch) (G : va_G) (cs : Nat → ClassId) (adt : Nat) (qt : Nat → Nat) (Ft : Nat → Int32) (At : Nat → Nat → Int32) (Bt : Nat → Nat → Int64) (Dt : Int64) (hIt : IX3 Ft At) : ∀ sz : Nat, Met l yX3_allRooms (wk yX3_allRooms cX3_allRooms 1 (some .int)) (rmk 0 0 0) (PreP G (TY cs) [.ref adt] (uX3 cs adt qt Ft At Bt Dt) sz) (QRi (fun r : Int32 => (0 : Int) ≤ r.toInt ∧ r.toInt ≤ 127) sz) 0 0 (fun q => sz ≤ q) := by
  refine mkP (Qc := QRi (fun r : Int32 => (0 : Int) ≤ r.toInt ∧ r.toInt ≤ 127)) (by decide) (by simp [lg_sl, Value.category]) ?_
  intro p e s m args below meth c ls hx hb hml hr hlk hown ht hK hP hS hl
  have hl : lv_has ls 1 [(0, .ref adt)] := hl
  refine lv_iconst (v := 1) hx hb dX3_allRooms_0 (by decide) ?_
  refine lv_aload_n hx hb dX3_allRooms_1 rfl (lv_at hl 0 rfl) ?_
  refine getF (v := .int (Ft 5)) hx hb ht hown hK hP iTX3 0 5 rfl rfl (by decide) fl_RX3_49 rfl dX3_allRooms_2 ?_
  have zf1 : (0 : Int) ≤ (Ft 5).toInt ∧ (Ft 5).toInt ≤ 7 := hIt.1 5
  refine lv_ishl hx hb dX3_allRooms_5 ?_
  refine lv_topi (fun v2 ev2 => ?_)
  have tv2 : (1 : Int) ≤ v2.toInt ∧ v2.toInt ≤ 128 := by rw [ev2]; exact shlT 7 (by decide) rfl (by omega) (by decide)
  have pv2 : v2.toInt = P2 (Ft 5).toInt := by rw [ev2]; exact shlP rfl (by omega)
  refine lv_iconst (v := 1) hx hb dX3_allRooms_6 (by decide) ?_
  refine lv_isub hx hb dX3_allRooms_7 ?_
  refine lv_topi (fun v3 ev3 => ?_)
  have tv3 : v3.toInt = v2.toInt - 1 := by rw [ev3]; exact subT rfl (show (1 : Int32).toInt = 1 by decide) (by omega)
  exact retRi hx hb hr hlk hS dX3_allRooms_8 (show (0 : Int) ≤ v3.toInt ∧ v3.toInt ≤ 127 by omega)

set_option maxRecDepth 100000 in
set_option maxHeartbeats 16000000 in
theorem sX3_spread (l : Launch) (G : va_G) (cs : Nat → ClassId) (adt : Nat) (qt : Nat → Nat) (Ft : Nat → Int32) (At : Nat → Nat → Int32) (Bt : Nat → Nat → Int64) (Dt : Int64) (hIt : IX3 Ft At) (a1 : Int32) (ha1 : (0 : Int) ≤ a1.toInt ∧ a1.toInt ≤ 127) : ∀ sz : Nat, Met l yX3_spread (wk yX3_spread cX3_spread 4 (some .int)) (rmk 0 0 0) (PreP G (TY cs) [.ref adt, .int a1] (uX3 cs adt qt Ft At Bt Dt) sz) (QRi (fun r : Int32 => a1.toInt ≤ r.toInt ∧ r.toInt ≤ 127) sz) 0 0 (fun q => sz ≤ q) := by
  refine mkP (Qc := QRi (fun r : Int32 => a1.toInt ≤ r.toInt ∧ r.toInt ≤ 127)) (by decide) (by simp [lg_sl, Value.category]) ?_
  intro p e s m args below meth c ls hx hb hml hr hlk hown ht hK hP hS hl
  have hl : lv_has ls 4 [(0, .ref adt), (1, .int a1)] := hl
  refine lv_iload_n hx hb dX3_spread_0 rfl (lv_at hl 1 rfl) ?_
  refine lv_istore_n (lv' := [(2, .int a1), (0, .ref adt), (1, .int a1)]) hx hb dX3_spread_1 rfl hl (by decide) rfl (fun ls hl => ?_)
  refine lv_iconst (v := 0) hx hb dX3_spread_2 (by decide) ?_
  refine lv_istore_n (lv' := [(3, .int 0), (2, .int a1), (0, .ref adt), (1, .int a1)]) hx hb dX3_spread_3 rfl hl (by decide) rfl (fun ls hl => ?_)
  have B4 : ∀ (n : Nat) (x4_2 : Int32) (x4_3 : Int32) (H : Heap) (locs : List Loc) (ls : Array Slot), (7 - x4_3.toInt).toNat < n → (0 : Int) ≤ x4_2.toInt ∧ x4_2.toInt ≤ 127 → (0 : Int) ≤ x4_3.toInt ∧ x4_3.toInt ≤ 7 → (a1.toInt ≤ x4_2.toInt) → va_P G vwCl (uX3 cs adt qt Ft At Bt Dt) H → va_S (fun q => s.heap.size ≤ q) s.heap H locs → lv_has ls 4 [(0, .ref adt), (1, .int a1), (2, .int x4_2), (3, .int x4_3)] → W p l e (rmk 0 0 0) s m args below meth c H locs 0 0 (MQ below (QRi (fun r : Int32 => a1.toInt ≤ r.toInt ∧ r.toInt ≤ 127) s.heap.size) args s 0 0 (fun q => s.heap.size ≤ q)) (F0 m 4 ls []) := by
    intro n
    induction n with
    | zero => intro x4_2 x4_3 H locs ls hmeas hx4_2 hx4_3 hsp4 hP hS hl; exact absurd hmeas (Nat.not_lt_zero _)
    | succ n ih4 =>
      intro x4_2 x4_3 H locs ls hmeas hx4_2 hx4_3 hsp4 hP hS hl
      refine lv_iload_n hx hb dX3_spread_4 rfl (lv_at hl 3 rfl) ?_
      refine lv_aload_n hx hb dX3_spread_5 rfl (lv_at hl 0 rfl) ?_
      refine getF (v := .int (Ft 5)) hx hb ht hown hK hP iTX3 0 5 rfl rfl (by decide) fl_RX3_49 rfl dX3_spread_6 ?_
      have zf5001 : (0 : Int) ≤ (Ft 5).toInt ∧ (Ft 5).toInt ≤ 7 := hIt.1 5
      refine lv_icmp_ge (tgt := 35) hx hb dX3_spread_9 (by decide) (fun c5002 => ?_) (fun c5002 => ?_)
      · have zc5002 := leK rfl rfl c5002
        refine lv_iload_n hx hb dX3_spread_35 rfl (lv_at hl 2 rfl) ?_
        exact retRi hx hb hr hlk hS dX3_spread_36 (show a1.toInt ≤ x4_2.toInt ∧ x4_2.toInt ≤ 127 by omega)
      · have zc5002 := nleK rfl rfl c5002
        refine lv_iload_n hx hb dX3_spread_12 rfl (lv_at hl 1 rfl) ?_
        refine lv_iload_n hx hb dX3_spread_13 rfl (lv_at hl 3 rfl) ?_
        refine lv_ishr hx hb dX3_spread_14 ?_
        refine lv_topi (fun v5003 ev5003 => ?_)
        refine lv_iconst (v := 1) hx hb dX3_spread_15 (by decide) ?_
        refine lv_iand hx hb dX3_spread_16 ?_
        refine lv_topi (fun v5004 ev5004 => ?_)
        have tv5004 : 0 ≤ v5004.toInt ∧ v5004.toInt ≤ 1 := by rw [ev5004]; exact andT 1 (by decide) (by decide) (by decide)
        have B29 : ∀ (x29_2 : Int32) (H : Heap) (locs : List Loc) (ls : Array Slot), (0 : Int) ≤ x29_2.toInt ∧ x29_2.toInt ≤ 127 → (a1.toInt ≤ x29_2.toInt) → va_P G vwCl (uX3 cs adt qt Ft At Bt Dt) H → va_S (fun q => s.heap.size ≤ q) s.heap H locs → lv_has ls 4 [(0, .ref adt), (1, .int a1), (2, .int x29_2), (3, .int x4_3)] → W p l e (rmk 0 0 0) s m args below meth c H locs 0 0 (MQ below (QRi (fun r : Int32 => a1.toInt ≤ r.toInt ∧ r.toInt ≤ 127) s.heap.size) args s 0 0 (fun q => s.heap.size ≤ q)) (F0 m 29 ls []) := by
          intro x29_2 H locs ls hx29_2 hsp29 hP hS hl
          obtain ⟨v22001, ev22001⟩ : ∃ z : Int32, z = x4_3 + 1 := ⟨_, rfl⟩
          have tv22001 : v22001.toInt = x4_3.toInt + 1 := by rw [ev22001]; exact addT rfl (by decide) (by omega)
          refine lv_iinc (v := v22001) (lv' := [(3, .int v22001), (0, .ref adt), (1, .int a1), (2, .int x29_2)]) hx hb dX3_spread_29 hl (k := 3) rfl (by rw [ev22001]; rfl) (by decide) rfl (fun ls hl => ?_)
          refine lv_goto (tgt := 4) hx hb dX3_spread_32 (by decide) ?_
          exact ih4 x29_2 v22001 H locs ls (by omega) (by omega) (by omega) (by have k0 : (0 : Int32).toInt = 0 := (by decide); have k1 : (1 : Int32).toInt = 1 := (by decide); omega) hP hS (lv_sub hl [1, 2, 3, 0] rfl)
        refine lv_if_eq (tgt := 29) hx hb dX3_spread_17 (by decide) (fun c5005 => ?_) (fun c5005 => ?_)
        · have zc5005 := eqK rfl (show (0 : Int32).toInt = 0 by decide) c5005
          exact B29 x4_2 H locs ls (by omega) (by have k0 : (0 : Int32).toInt = 0 := (by decide); have k1 : (1 : Int32).toInt = 1 := (by decide); omega) hP hS (lv_sub hl [0, 1, 2, 3] rfl)
        · have zc5005 := neK rfl (show (0 : Int32).toInt = 0 by decide) c5005
          refine lv_iload_n hx hb dX3_spread_20 rfl (lv_at hl 2 rfl) ?_
          refine lv_aload_n hx hb dX3_spread_21 rfl (lv_at hl 0 rfl) ?_
          refine getF (v := .ref (qt 10)) hx hb ht hown hK hP iTX3 0 10 rfl rfl (by decide) fl_RX3_21 rfl dX3_spread_22 ?_
          refine lv_iload_n hx hb dX3_spread_25 rfl (lv_at hl 3 rfl) ?_
          refine va_iald hx hb hK.1 hP 4 0 rfl rfl (inK rfl (by omega) (by decide)) dX3_spread_26 ?_
          refine lv_topi (fun v5006 ev5006 => ?_)
          have zf5007 : (0 : Int) ≤ v5006.toInt ∧ v5006.toInt ≤ 127 := by rw [ev5006]; exact (hIt.2 10 _)
          refine lv_ior hx hb dX3_spread_27 ?_
          refine lv_topi (fun v5008 ev5008 => ?_)
          have tv5008 : 0 ≤ v5008.toInt ∧ v5008.toInt ≤ 127 := by rw [ev5008]; exact orA 7 rfl rfl (by omega) (by omega) (by decide)
          have uv5008 : x4_2.toInt ≤ v5008.toInt := by rw [ev5008]; exact orGe rfl rfl (by omega) (by rw [← ev5008]; omega)
          refine lv_istore_n (lv' := [(2, .int v5008), (0, .ref adt), (1, .int a1), (3, .int x4_3)]) hx hb dX3_spread_28 rfl hl (by decide) rfl (fun ls hl => ?_)
          exact B29 v5008 H locs ls (by omega) (by have k0 : (0 : Int32).toInt = 0 := (by decide); have k1 : (1 : Int32).toInt = 1 := (by decide); omega) hP hS (lv_sub hl [1, 2, 0, 3] rfl)
  exact B4 _ a1 0 s.heap [] ls (Nat.lt_succ_self _) (by omega) (by decide) (by have k0 : (0 : Int32).toInt = 0 := (by decide); have k1 : (1 : Int32).toInt = 1 := (by decide); omega) hP hS (lv_sub hl [2, 3, 1, 0] rfl)

set_option maxRecDepth 100000 in
set_option maxHeartbeats 16000000 in
theorem sX3_heard (l : Launch) (G : va_G) (cs : Nat → ClassId) (adt : Nat) (qt : Nat → Nat) (Ft : Nat → Int32) (At : Nat → Nat → Int32) (Bt : Nat → Nat → Int64) (Dt : Int64) (hIt : IX3 Ft At) (a1 : Int32) (a2 : Int32) (ha2 : (0 : Int) ≤ a2.toInt ∧ a2.toInt ≤ 9) : ∀ sz : Nat, Met l yX3_heard (wk yX3_heard cX3_heard 3 (some .int)) (rmk 1 0 0) (PreP G (TY cs) [.ref adt, .int a1, .int a2] (uX3 cs adt qt Ft At Bt Dt) sz) (QRi (fun r : Int32 => True) sz) 0 0 (fun q => sz ≤ q) := by
  refine mkP (Qc := QRi (fun r : Int32 => True)) (by decide) (by simp [lg_sl, Value.category]) ?_
  intro p e s m args below meth c ls hx hb hml hr hlk hown ht hK hP hS hl
  have hl : lv_has ls 3 [(0, .ref adt), (1, .int a1), (2, .int a2)] := hl
  refine lv_aload_n hx hb dX3_heard_0 rfl (lv_at hl 0 rfl) ?_
  refine lv_iload_n hx hb dX3_heard_1 rfl (lv_at hl 1 rfl) ?_
  refine behR (runVP (As := [.int a1]) (rest := []) ⟨hx, hb, hml, hown, ht⟩ (sX3_hasRoom l G cs adt qt Ft At Bt Dt hIt a1 ) okV_RX3_61 ⟨by decide, by decide⟩ hK hP [0, 1, 2, 3, 4, 5, 6, 7] rfl 0 rfl rfl hl.1 rfl (Nat.le_of_ble_eq_true rfl) dX3_heard_2 ⟨by decide, by decide⟩) hP hS (fun _ h => h) (fun r1 H locs hr1 hP hS => ?_)
  have hr1 : (r1.toInt = 1 ∧ 0 ≤ a1.toInt ∧ a1.toInt < (Ft 5).toInt ∧ a1.toInt ≤ 6) ∨ r1.toInt = 0 := hr1
  refine lv_if_eq (tgt := 12) hx hb dX3_heard_5 (by decide) (fun c2 => ?_) (fun c2 => ?_)
  · have zc2 := eqK rfl (show (0 : Int32).toInt = 0 by decide) c2
    refine lv_iconst (v := 0) hx hb dX3_heard_12 (by decide) ?_
    exact retRi hx hb hr hlk hS dX3_heard_13 (trivial)
  · have zc2 := neK rfl (show (0 : Int32).toInt = 0 by decide) c2
    refine lv_iload_n hx hb dX3_heard_8 rfl (lv_at hl 2 rfl) ?_
    refine lv_if_ge (tgt := 14) hx hb dX3_heard_9 (by decide) (fun c3 => ?_) (fun c3 => False.elim (by have zz := nleK (show (0 : Int32).toInt = 0 by decide) rfl c3; omega))
    refine lv_bipush (v := 100) hx hb dX3_heard_14 (by decide) ?_
    refine lv_bipush (v := 100) hx hb dX3_heard_16 (by decide) ?_
    refine lv_aload_n hx hb dX3_heard_18 rfl (lv_at hl 0 rfl) ?_
    refine getF (v := .ref (qt 8)) hx hb ht hown hK hP iTX3 0 8 rfl rfl (by decide) fl_RX3_15 rfl dX3_heard_19 ?_
    refine lv_iload_n hx hb dX3_heard_22 rfl (lv_at hl 1 rfl) ?_
    refine va_iald hx hb hK.1 hP 2 0 rfl rfl (inK rfl (by omega) (by decide)) dX3_heard_23 ?_
    refine lv_topi (fun v4 ev4 => ?_)
    refine lv_isub hx hb dX3_heard_24 ?_
    refine lv_topi (fun v5 ev5 => ?_)
    refine lv_iload_n hx hb dX3_heard_25 rfl (lv_at hl 2 rfl) ?_
    refine lv_iconst (v := 1) hx hb dX3_heard_26 (by decide) ?_
    refine lv_iadd hx hb dX3_heard_27 ?_
    refine lv_topi (fun v6 ev6 => ?_)
    have tv6 : v6.toInt = a2.toInt + 1 := by rw [ev6]; exact addT rfl (show (1 : Int32).toInt = 1 by decide) (by omega)
    refine lv_idiv hx hb dX3_heard_28 (n0K rfl (by omega)) ?_
    refine lv_topi (fun v7 ev7 => ?_)
    refine lv_isub hx hb dX3_heard_29 ?_
    refine lv_topi (fun v8 ev8 => ?_)
    exact retRi hx hb hr hlk hS dX3_heard_30 (trivial)

set_option maxRecDepth 100000 in
set_option maxHeartbeats 16000000 in
theorem sX3_allSits (l : Launch) (G : va_G) (cs : Nat → ClassId) (adt : Nat) (qt : Nat → Nat) (Ft : Nat → Int32) (At : Nat → Nat → Int32) (Bt : Nat → Nat → Int64) (Dt : Int64) (hIt : IX3 Ft At) : ∀ sz : Nat, Met l yX3_allSits (wk yX3_allSits cX3_allSits 3 (some .int)) (rmk 0 0 0) (PreP G (TY cs) [.ref adt] (uX3 cs adt qt Ft At Bt Dt) sz) (QRi (fun r : Int32 => True) sz) 0 0 (fun q => sz ≤ q) := by
  refine mkP (Qc := QRi (fun r : Int32 => True)) (by decide) (by simp [lg_sl, Value.category]) ?_
  intro p e s m args below meth c ls hx hb hml hr hlk hown ht hK hP hS hl
  have hl : lv_has ls 3 [(0, .ref adt)] := hl
  refine lv_iconst (v := 0) hx hb dX3_allSits_0 (by decide) ?_
  refine lv_istore_n (lv' := [(1, .int 0), (0, .ref adt)]) hx hb dX3_allSits_1 rfl hl (by decide) rfl (fun ls hl => ?_)
  refine lv_iconst (v := 0) hx hb dX3_allSits_2 (by decide) ?_
  refine lv_istore_n (lv' := [(2, .int 0), (1, .int 0), (0, .ref adt)]) hx hb dX3_allSits_3 rfl hl (by decide) rfl (fun ls hl => ?_)
  have B4 : ∀ (n : Nat) (x4_1 : Int32) (x4_2 : Int32) (H : Heap) (locs : List Loc) (ls : Array Slot), (7 - x4_2.toInt).toNat < n → (0 : Int) ≤ x4_2.toInt ∧ x4_2.toInt ≤ 7 → va_P G vwCl (uX3 cs adt qt Ft At Bt Dt) H → va_S (fun q => s.heap.size ≤ q) s.heap H locs → lv_has ls 3 [(0, .ref adt), (1, .int x4_1), (2, .int x4_2)] → W p l e (rmk 0 0 0) s m args below meth c H locs 0 0 (MQ below (QRi (fun r : Int32 => True) s.heap.size) args s 0 0 (fun q => s.heap.size ≤ q)) (F0 m 4 ls []) := by
    intro n
    induction n with
    | zero => intro x4_1 x4_2 H locs ls hmeas hx4_2 hP hS hl; exact absurd hmeas (Nat.not_lt_zero _)
    | succ n ih4 =>
      intro x4_1 x4_2 H locs ls hmeas hx4_2 hP hS hl
      refine lv_iload_n hx hb dX3_allSits_4 rfl (lv_at hl 2 rfl) ?_
      refine lv_aload_n hx hb dX3_allSits_5 rfl (lv_at hl 0 rfl) ?_
      refine getF (v := .int (Ft 5)) hx hb ht hown hK hP iTX3 0 5 rfl rfl (by decide) fl_RX3_49 rfl dX3_allSits_6 ?_
      have zf5001 : (0 : Int) ≤ (Ft 5).toInt ∧ (Ft 5).toInt ≤ 7 := hIt.1 5
      refine lv_icmp_ge (tgt := 27) hx hb dX3_allSits_9 (by decide) (fun c5002 => ?_) (fun c5002 => ?_)
      · have zc5002 := leK rfl rfl c5002
        refine lv_iload_n hx hb dX3_allSits_27 rfl (lv_at hl 1 rfl) ?_
        exact retRi hx hb hr hlk hS dX3_allSits_28 (trivial)
      · have zc5002 := nleK rfl rfl c5002
        refine lv_iload_n hx hb dX3_allSits_12 rfl (lv_at hl 1 rfl) ?_
        refine lv_aload_n hx hb dX3_allSits_13 rfl (lv_at hl 0 rfl) ?_
        refine getF (v := .ref (qt 9)) hx hb ht hown hK hP iTX3 0 9 rfl rfl (by decide) fl_RX3_18 rfl dX3_allSits_14 ?_
        refine lv_iload_n hx hb dX3_allSits_17 rfl (lv_at hl 2 rfl) ?_
        refine va_iald hx hb hK.1 hP 3 0 rfl rfl (inK rfl (by omega) (by decide)) dX3_allSits_18 ?_
        refine lv_topi (fun v5003 ev5003 => ?_)
        refine lv_iadd hx hb dX3_allSits_19 ?_
        refine lv_topi (fun v5004 ev5004 => ?_)
        refine lv_istore_n (lv' := [(1, .int v5004), (0, .ref adt), (2, .int x4_2)]) hx hb dX3_allSits_20 rfl hl (by decide) rfl (fun ls hl => ?_)
        obtain ⟨v5005, ev5005⟩ : ∃ z : Int32, z = x4_2 + 1 := ⟨_, rfl⟩
        have tv5005 : v5005.toInt = x4_2.toInt + 1 := by rw [ev5005]; exact addT rfl (by decide) (by omega)
        refine lv_iinc (v := v5005) (lv' := [(2, .int v5005), (1, .int v5004), (0, .ref adt)]) hx hb dX3_allSits_21 hl (k := 2) rfl (by rw [ev5005]; rfl) (by decide) rfl (fun ls hl => ?_)
        refine lv_goto (tgt := 4) hx hb dX3_allSits_24 (by decide) ?_
        exact ih4 v5004 v5005 H locs ls (by omega) (by omega) hP hS (lv_sub hl [2, 1, 0] rfl)
  exact B4 _ 0 0 s.heap [] ls (Nat.lt_succ_self _) (by decide) hP hS (lv_sub hl [2, 1, 0] rfl)

set_option maxRecDepth 100000 in
set_option maxHeartbeats 16000000 in
theorem sX3_whoSayYes (l : Launch) (G : va_G) (cs : Nat → ClassId) (adt : Nat) (qt : Nat → Nat) (Ft : Nat → Int32) (At : Nat → Nat → Int32) (Bt : Nat → Nat → Int64) (Dt : Int64) (hIt : IX3 Ft At) (a1 : Int32) (a2 : Int32) : ∀ sz : Nat, Met l yX3_whoSayYes (wk yX3_whoSayYes cX3_whoSayYes 5 (some .int)) (rmk 0 0 0) (PreP G (TY cs) [.ref adt, .int a1, .int a2] (uX3 cs adt qt Ft At Bt Dt) sz) (QRi (fun r : Int32 => (0 : Int) ≤ r.toInt ∧ r.toInt ≤ 63) sz) 0 0 (fun q => sz ≤ q) := by
  refine mkP (Qc := QRi (fun r : Int32 => (0 : Int) ≤ r.toInt ∧ r.toInt ≤ 63)) (by decide) (by simp [lg_sl, Value.category]) ?_
  intro p e s m args below meth c ls hx hb hml hr hlk hown ht hK hP hS hl
  have hl : lv_has ls 5 [(0, .ref adt), (1, .int a1), (2, .int a2)] := hl
  refine lv_iconst (v := 0) hx hb dX3_whoSayYes_0 (by decide) ?_
  refine lv_istore_n (lv' := [(3, .int 0), (0, .ref adt), (1, .int a1), (2, .int a2)]) hx hb dX3_whoSayYes_1 rfl hl (by decide) rfl (fun ls hl => ?_)
  refine lv_iconst (v := 0) hx hb dX3_whoSayYes_2 (by decide) ?_
  refine lv_istore (lv' := [(4, .int 0), (3, .int 0), (0, .ref adt), (1, .int a1), (2, .int a2)]) hx hb dX3_whoSayYes_3 hl (by decide) rfl (fun ls hl => ?_)
  have B5 : ∀ (n : Nat) (x5_3 : Int32) (x5_4 : Int32) (H : Heap) (locs : List Loc) (ls : Array Slot), (6 - x5_4.toInt).toNat < n → (0 : Int) ≤ x5_3.toInt ∧ x5_3.toInt ≤ 63 → (0 : Int) ≤ x5_4.toInt ∧ x5_4.toInt ≤ 6 → va_P G vwCl (uX3 cs adt qt Ft At Bt Dt) H → va_S (fun q => s.heap.size ≤ q) s.heap H locs → lv_has ls 5 [(0, .ref adt), (1, .int a1), (2, .int a2), (3, .int x5_3), (4, .int x5_4)] → W p l e (rmk 0 0 0) s m args below meth c H locs 0 0 (MQ below (QRi (fun r : Int32 => (0 : Int) ≤ r.toInt ∧ r.toInt ≤ 63) s.heap.size) args s 0 0 (fun q => s.heap.size ≤ q)) (F0 m 5 ls []) := by
    intro n
    induction n with
    | zero => intro x5_3 x5_4 H locs ls hmeas hx5_3 hx5_4 hP hS hl; exact absurd hmeas (Nat.not_lt_zero _)
    | succ n ih5 =>
      intro x5_3 x5_4 H locs ls hmeas hx5_3 hx5_4 hP hS hl
      refine lv_iload hx hb dX3_whoSayYes_5 (lv_at hl 4 rfl) ?_
      refine lv_aload_n hx hb dX3_whoSayYes_7 rfl (lv_at hl 0 rfl) ?_
      refine getF (v := .int (Ft 6)) hx hb ht hown hK hP iTX3 0 6 rfl rfl (by decide) fl_RX3_52 rfl dX3_whoSayYes_8 ?_
      have zf5001 : (0 : Int) ≤ (Ft 6).toInt ∧ (Ft 6).toInt ≤ 6 := hIt.1 6
      refine lv_icmp_ge (tgt := 50) hx hb dX3_whoSayYes_11 (by decide) (fun c5002 => ?_) (fun c5002 => ?_)
      · have zc5002 := leK rfl rfl c5002
        refine lv_iload_n hx hb dX3_whoSayYes_50 rfl (lv_at hl 3 rfl) ?_
        exact retRi hx hb hr hlk hS dX3_whoSayYes_51 (show (0 : Int) ≤ x5_3.toInt ∧ x5_3.toInt ≤ 63 by omega)
      · have zc5002 := nleK rfl rfl c5002
        refine lv_iload_n hx hb dX3_whoSayYes_14 rfl (lv_at hl 1 rfl) ?_
        refine lv_iload hx hb dX3_whoSayYes_15 (lv_at hl 4 rfl) ?_
        refine lv_ishr hx hb dX3_whoSayYes_17 ?_
        refine lv_topi (fun v5003 ev5003 => ?_)
        refine lv_iconst (v := 1) hx hb dX3_whoSayYes_18 (by decide) ?_
        refine lv_iand hx hb dX3_whoSayYes_19 ?_
        refine lv_topi (fun v5004 ev5004 => ?_)
        have tv5004 : 0 ≤ v5004.toInt ∧ v5004.toInt ≤ 1 := by rw [ev5004]; exact andT 1 (by decide) (by decide) (by decide)
        have B44 : ∀ (x44_3 : Int32) (H : Heap) (locs : List Loc) (ls : Array Slot), (0 : Int) ≤ x44_3.toInt ∧ x44_3.toInt ≤ 63 → va_P G vwCl (uX3 cs adt qt Ft At Bt Dt) H → va_S (fun q => s.heap.size ≤ q) s.heap H locs → lv_has ls 5 [(0, .ref adt), (1, .int a1), (2, .int a2), (3, .int x44_3), (4, .int x5_4)] → W p l e (rmk 0 0 0) s m args below meth c H locs 0 0 (MQ below (QRi (fun r : Int32 => (0 : Int) ≤ r.toInt ∧ r.toInt ≤ 63) s.heap.size) args s 0 0 (fun q => s.heap.size ≤ q)) (F0 m 44 ls []) := by
          intro x44_3 H locs ls hx44_3 hP hS hl
          obtain ⟨v30001, ev30001⟩ : ∃ z : Int32, z = x5_4 + 1 := ⟨_, rfl⟩
          have tv30001 : v30001.toInt = x5_4.toInt + 1 := by rw [ev30001]; exact addT rfl (by decide) (by omega)
          refine lv_iinc (v := v30001) (lv' := [(4, .int v30001), (0, .ref adt), (1, .int a1), (2, .int a2), (3, .int x44_3)]) hx hb dX3_whoSayYes_44 hl (k := 4) rfl (by rw [ev30001]; rfl) (by decide) rfl (fun ls hl => ?_)
          refine lv_goto (tgt := 5) hx hb dX3_whoSayYes_47 (by decide) ?_
          exact ih5 x44_3 v30001 H locs ls (by omega) (by omega) (by omega) hP hS (lv_sub hl [1, 2, 3, 4, 0] rfl)
        refine lv_if_eq (tgt := 44) hx hb dX3_whoSayYes_20 (by decide) (fun c5005 => ?_) (fun c5005 => ?_)
        · have zc5005 := eqK rfl (show (0 : Int32).toInt = 0 by decide) c5005
          exact B44 x5_3 H locs ls (by omega) hP hS (lv_sub hl [0, 1, 2, 3, 4] rfl)
        · have zc5005 := neK rfl (show (0 : Int32).toInt = 0 by decide) c5005
          refine lv_aload_n hx hb dX3_whoSayYes_23 rfl (lv_at hl 0 rfl) ?_
          refine getF (v := .ref (qt 12)) hx hb ht hown hK hP iTX3 0 12 rfl rfl (by decide) fl_RX3_27 rfl dX3_whoSayYes_24 ?_
          refine lv_iload hx hb dX3_whoSayYes_27 (lv_at hl 4 rfl) ?_
          refine va_iald hx hb hK.1 hP 6 0 rfl rfl (inK rfl (by omega) (by decide)) dX3_whoSayYes_29 ?_
          refine lv_topi (fun v5006 ev5006 => ?_)
          have zf5007 : (0 : Int) ≤ v5006.toInt ∧ v5006.toInt ≤ 63 := by rw [ev5006]; exact (hIt.2 12 _)
          refine lv_iload_n hx hb dX3_whoSayYes_30 rfl (lv_at hl 2 rfl) ?_
          refine lv_ishr hx hb dX3_whoSayYes_31 ?_
          refine lv_topi (fun v5008 ev5008 => ?_)
          refine lv_iconst (v := 1) hx hb dX3_whoSayYes_32 (by decide) ?_
          refine lv_iand hx hb dX3_whoSayYes_33 ?_
          refine lv_topi (fun v5009 ev5009 => ?_)
          have tv5009 : 0 ≤ v5009.toInt ∧ v5009.toInt ≤ 1 := by rw [ev5009]; exact andT 1 (by decide) (by decide) (by decide)
          refine lv_if_eq (tgt := 44) hx hb dX3_whoSayYes_34 (by decide) (fun c5010 => ?_) (fun c5010 => ?_)
          · have zc5010 := eqK rfl (show (0 : Int32).toInt = 0 by decide) c5010
            exact B44 x5_3 H locs ls (by omega) hP hS (lv_sub hl [0, 1, 2, 3, 4] rfl)
          · have zc5010 := neK rfl (show (0 : Int32).toInt = 0 by decide) c5010
            refine lv_iload_n hx hb dX3_whoSayYes_37 rfl (lv_at hl 3 rfl) ?_
            refine lv_iconst (v := 1) hx hb dX3_whoSayYes_38 (by decide) ?_
            refine lv_iload hx hb dX3_whoSayYes_39 (lv_at hl 4 rfl) ?_
            refine lv_ishl hx hb dX3_whoSayYes_41 ?_
            refine lv_topi (fun v5011 ev5011 => ?_)
            have tv5011 : (1 : Int) ≤ v5011.toInt ∧ v5011.toInt ≤ 32 := by rw [ev5011]; exact shlT 5 (by decide) rfl (by omega) (by decide)
            have pv5011 : v5011.toInt = P2 x5_4.toInt := by rw [ev5011]; exact shlP rfl (by omega)
            refine lv_ior hx hb dX3_whoSayYes_42 ?_
            refine lv_topi (fun v5012 ev5012 => ?_)
            have tv5012 : 0 ≤ v5012.toInt ∧ v5012.toInt ≤ 63 := by rw [ev5012]; exact orA 6 rfl rfl (by omega) (by omega) (by decide)
            have uv5012 : x5_3.toInt ≤ v5012.toInt := by rw [ev5012]; exact orGe rfl rfl (by omega) (by rw [← ev5012]; omega)
            refine lv_istore_n (lv' := [(3, .int v5012), (0, .ref adt), (1, .int a1), (2, .int a2), (4, .int x5_4)]) hx hb dX3_whoSayYes_43 rfl hl (by decide) rfl (fun ls hl => ?_)
            exact B44 v5012 H locs ls (by omega) hP hS (lv_sub hl [1, 2, 3, 0, 4] rfl)
  exact B5 _ 0 0 s.heap [] ls (Nat.lt_succ_self _) (by decide) (by decide) hP hS (lv_sub hl [2, 3, 4, 1, 0] rfl)

