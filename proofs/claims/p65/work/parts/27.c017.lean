set_option maxRecDepth 100000 in
set_option maxHeartbeats 16000000 in
theorem sX4_hasAs (l : Launch) (G : va_G) (cs : Nat → ClassId) (adt : Nat) (qt : Nat → Nat) (Ft : Nat → Int32) (At : Nat → Nat → Int32) (Bt : Nat → Nat → Int64) (Dt : Int64) (hIt : IX4 Ft At) (adh : Nat) (qh : Nat → Nat) (Fh : Nat → Int32) (Ah : Nat → Nat → Int32) (Bh : Nat → Nat → Int64) (Dh : Int64) (hIh : IX3 Fh Ah) (a2 : Int32) (a3 : Int32) (ha2 : (0 : Int) ≤ a2.toInt ∧ a2.toInt ≤ 5) (ha3 : (0 : Int) ≤ a3.toInt ∧ a3.toInt ≤ 5) : ∀ sz : Nat, Met l yX4_hasAs (wk yX4_hasAs cX4_hasAs 5 (some .int)) (rmk 1 0 0) (PreP G (TY cs) [.ref adt, .ref adh, .int a2, .int a3] ((uX4 cs adt qt Ft At Bt Dt) ++ (uX3 cs adh qh Fh Ah Bh Dh)) sz) (QRi (fun r : Int32 => True) sz) 0 0 (fun q => sz ≤ q) := by
  refine mkP (Qc := QRi (fun r : Int32 => True)) (by decide) (by simp [lg_sl, Value.category]) ?_
  intro p e s m args below meth c ls hx hb hml hr hlk hown ht hK hP hS hl
  have hl : lv_has ls 5 [(0, .ref adt), (1, .ref adh), (2, .int a2), (3, .int a3)] := hl
  refine lv_aload_n hx hb dX4_hasAs_0 rfl (lv_at hl 0 rfl) ?_
  refine lv_aload_n hx hb dX4_hasAs_1 rfl (lv_at hl 1 rfl) ?_
  refine lv_iload_n hx hb dX4_hasAs_2 rfl (lv_at hl 2 rfl) ?_
  refine behR (runVP (As := [.ref adh, .int a2]) (rest := []) ⟨hx, hb, hml, hown, ht⟩ (sX4_slateSum l G cs adt qt Ft At Bt Dt hIt adh qh Fh Ah Bh Dh hIh a2 (by omega)) okV_RX4_67 ⟨by decide, by decide⟩ hK hP [0, 1, 2, 3, 4, 5, 6, 7, 8, 9] rfl 0 rfl rfl hl.1 rfl (Nat.le_of_ble_eq_true rfl) dX4_hasAs_3 ⟨by decide, by decide⟩) hP hS (fun _ h => h) (fun r1 H locs hr1 hP hS => ?_)
  have B14 : ∀ (s14_0 : Int32) (H : Heap) (locs : List Loc) (ls : Array Slot), (0 : Int) ≤ s14_0.toInt ∧ s14_0.toInt ≤ 1 → va_P G vwCl ((uX4 cs adt qt Ft At Bt Dt) ++ (uX3 cs adh qh Fh Ah Bh Dh)) H → va_S (fun q => s.heap.size ≤ q) s.heap H locs → lv_has ls 5 [(1, .ref adh), (2, .int a2), (3, .int a3)] → W p l e (rmk 1 0 0) s m args below meth c H locs 0 0 (MQ below (QRi (fun r : Int32 => True) s.heap.size) args s 0 0 (fun q => s.heap.size ≤ q)) (F0 m 14 ls [.int s14_0]) := by
    intro s14_0 H locs ls hs14_0 hP hS hl
    refine lv_istore (lv' := [(4, .int s14_0), (1, .ref adh), (2, .int a2), (3, .int a3)]) hx hb dX4_hasAs_14 hl (by decide) rfl (fun ls hl => ?_)
    refine lv_iload hx hb dX4_hasAs_16 (lv_at hl 0 rfl) ?_
    refine lv_if_eq (tgt := 32) hx hb dX4_hasAs_18 (by decide) (fun c9001 => ?_) (fun c9001 => ?_)
    · have zc9001 := eqK rfl (show (0 : Int32).toInt = 0 by decide) c9001
      refine lv_aload_n hx hb dX4_hasAs_32 rfl (lv_at hl 1 rfl) ?_
      refine getF (v := .ref (qh 13)) hx hb ht hown hK hP iTX3 2 13 rfl rfl (by decide) fl_RX4_70 rfl dX4_hasAs_33 ?_
      refine lv_iload_n hx hb dX4_hasAs_36 rfl (lv_at hl 2 rfl) ?_
      refine lv_bipush (v := 6) hx hb dX4_hasAs_37 (by decide) ?_
      refine lv_imul hx hb dX4_hasAs_39 ?_
      refine lv_topi (fun v9002 ev9002 => ?_)
      have tv9002 : v9002.toInt = a2.toInt * 6 := by rw [ev9002]; exact mulT rfl (show (6 : Int32).toInt = 6 by decide) (by omega)
      refine lv_iload_n hx hb dX4_hasAs_40 rfl (lv_at hl 3 rfl) ?_
      refine lv_iadd hx hb dX4_hasAs_41 ?_
      refine lv_topi (fun v9003 ev9003 => ?_)
      have tv9003 : v9003.toInt = v9002.toInt + a3.toInt := by rw [ev9003]; exact addT rfl rfl (by omega)
      refine va_iald hx hb hK.1 hP 9 0 rfl rfl (inK rfl (by omega) (by decide)) dX4_hasAs_42 ?_
      refine lv_topi (fun v9004 ev9004 => ?_)
      exact retRi hx hb hr hlk hS dX4_hasAs_43 (trivial)
    · have zc9001 := neK rfl (show (0 : Int32).toInt = 0 by decide) c9001
      refine lv_iload_n hx hb dX4_hasAs_21 rfl (lv_at hl 2 rfl) ?_
      refine lv_iload_n hx hb dX4_hasAs_22 rfl (lv_at hl 3 rfl) ?_
      refine lv_icmp_ne (tgt := 30) hx hb dX4_hasAs_23 (by decide) (fun c9005 => ?_) (fun c9005 => ?_)
      · have zc9005 := neK rfl rfl c9005
        refine lv_iconst (v := 0) hx hb dX4_hasAs_30 (by decide) ?_
        exact retRi hx hb hr hlk hS dX4_hasAs_31 (trivial)
      · have zc9005 := eqK rfl rfl c9005
        refine lv_iconst (v := 1) hx hb dX4_hasAs_26 (by decide) ?_
        refine lv_goto (tgt := 31) hx hb dX4_hasAs_27 (by decide) ?_
        exact retRi hx hb hr hlk hS dX4_hasAs_31 (trivial)
  refine lv_if_ne (tgt := 13) hx hb dX4_hasAs_6 (by decide) (fun c2 => ?_) (fun c2 => ?_)
  · have zc2 := neK rfl (show (0 : Int32).toInt = 0 by decide) c2
    refine lv_iconst (v := 0) hx hb dX4_hasAs_13 (by decide) ?_
    exact B14 0 H locs ls (by decide) hP hS (lv_sub hl [1, 2, 3] rfl)
  · have zc2 := eqK rfl (show (0 : Int32).toInt = 0 by decide) c2
    refine lv_iconst (v := 1) hx hb dX4_hasAs_9 (by decide) ?_
    refine lv_goto (tgt := 14) hx hb dX4_hasAs_10 (by decide) ?_
    exact B14 1 H locs ls (by decide) hP hS (lv_sub hl [1, 2, 3] rfl)

set_option maxRecDepth 100000 in
set_option maxHeartbeats 16000000 in
theorem sX4_share (l : Launch) (G : va_G) (cs : Nat → ClassId) (adt : Nat) (qt : Nat → Nat) (Ft : Nat → Int32) (At : Nat → Nat → Int32) (Bt : Nat → Nat → Int64) (Dt : Int64) (hIt : IX4 Ft At) (adh : Nat) (qh : Nat → Nat) (Fh : Nat → Int32) (Ah : Nat → Nat → Int32) (Bh : Nat → Nat → Int64) (Dh : Int64) (hIh : IX3 Fh Ah) (a2 : Int32) (a3 : Int32) (ha2 : (0 : Int) ≤ a2.toInt ∧ a2.toInt ≤ 5) (ha3 : (0 : Int) ≤ a3.toInt ∧ a3.toInt ≤ 5) : ∀ sz : Nat, Met l yX4_share (wk yX4_share cX4_share 7 (some .long)) (rmk 2 0 0) (PreP G (TY cs) [.ref adt, .ref adh, .int a2, .int a3] ((uX4 cs adt qt Ft At Bt Dt) ++ (uX3 cs adh qh Fh Ah Bh Dh)) sz) (QRl (fun r : Int64 => True) sz) 0 0 (fun q => sz ≤ q) := by
  refine mkP (Qc := QRl (fun r : Int64 => True)) (by decide) (by simp [lg_sl, Value.category]) ?_
  intro p e s m args below meth c ls hx hb hml hr hlk hown ht hK hP hS hl
  have hl : lv_has ls 7 [(0, .ref adt), (1, .ref adh), (2, .int a2), (3, .int a3)] := hl
  refine lv_aload_n hx hb dX4_share_0 rfl (lv_at hl 1 rfl) ?_
  refine getF (v := .ref (qh 11)) hx hb ht hown hK hP iTX3 2 11 rfl rfl (by decide) fl_RX4_54 rfl dX4_share_1 ?_
  refine lv_iload_n hx hb dX4_share_4 rfl (lv_at hl 2 rfl) ?_
  refine va_iald hx hb hK.1 hP 7 0 rfl rfl (inK rfl (by omega) (by decide)) dX4_share_5 ?_
  refine lv_topi (fun v1 ev1 => ?_)
  refine lv_i2l hx hb dX4_share_6 rfl ?_
  have bb2 := i32b v1
  refine lv_topl (fun v3 ev3 => ?_)
  have tv3 : v3.toInt = v1.toInt := by rw [ev3]; exact Int32.toInt_toInt64 _
  refine lv_lstore (lv' := [(4, .long v3), (0, .ref adt), (1, .ref adh), (2, .int a2), (3, .int a3)]) hx hb dX4_share_7 hl (by decide) rfl (fun ls hl => ?_)
  refine lv_iconst (v := 0) hx hb dX4_share_9 (by decide) ?_
  refine lv_istore (lv' := [(6, .int 0), (4, .long v3), (0, .ref adt), (1, .ref adh), (2, .int a2), (3, .int a3)]) hx hb dX4_share_10 hl (by decide) rfl (fun ls hl => ?_)
  have B12 : ∀ (n : Nat) (x12_4 : Int64) (x12_6 : Int32) (H : Heap) (locs : List Loc) (ls : Array Slot), (6 - x12_6.toInt).toNat < n → (0 : Int) ≤ x12_6.toInt ∧ x12_6.toInt ≤ 6 → va_P G vwCl ((uX4 cs adt qt Ft At Bt Dt) ++ (uX3 cs adh qh Fh Ah Bh Dh)) H → va_S (fun q => s.heap.size ≤ q) s.heap H locs → lv_has ls 7 [(0, .ref adt), (1, .ref adh), (2, .int a2), (3, .int a3), (4, .long x12_4), (6, .int x12_6)] → W p l e (rmk 2 0 0) s m args below meth c H locs 0 0 (MQ below (QRl (fun r : Int64 => True) s.heap.size) args s 0 0 (fun q => s.heap.size ≤ q)) (F0 m 12 ls []) := by
    intro n
    induction n with
    | zero => intro x12_4 x12_6 H locs ls hmeas hx12_6 hP hS hl; exact absurd hmeas (Nat.not_lt_zero _)
    | succ n ih12 =>
      intro x12_4 x12_6 H locs ls hmeas hx12_6 hP hS hl
      refine lv_iload hx hb dX4_share_12 (lv_at hl 5 rfl) ?_
      refine lv_aload_n hx hb dX4_share_14 rfl (lv_at hl 1 rfl) ?_
      refine getF (v := .int (Fh 6)) hx hb ht hown hK hP iTX3 2 6 rfl rfl (by decide) fl_RX4_47 rfl dX4_share_15 ?_
      have zf9001 : (0 : Int) ≤ (Fh 6).toInt ∧ (Fh 6).toInt ≤ 6 := hIh.1 6
      refine lv_icmp_ge (tgt := 57) hx hb dX4_share_18 (by decide) (fun c9002 => ?_) (fun c9002 => ?_)
      · have zc9002 := leK rfl rfl c9002
        refine lv_lload hx hb dX4_share_57 (lv_at hl 4 rfl) ?_
        exact retRl hx hb hr hlk hS dX4_share_59 (trivial)
      · have zc9002 := nleK rfl rfl c9002
        refine lv_lload hx hb dX4_share_21 (lv_at hl 4 rfl) ?_
        refine lv_iload hx hb dX4_share_23 (lv_at hl 5 rfl) ?_
        refine lv_iload_n hx hb dX4_share_25 rfl (lv_at hl 2 rfl) ?_
        have B48 : ∀ (s48_0 : Int64) (s48_1 : Int64) (H : Heap) (locs : List Loc) (ls : Array Slot), (-2147483648 : Int) ≤ s48_0.toInt ∧ s48_0.toInt ≤ 2147483647 → va_P G vwCl ((uX4 cs adt qt Ft At Bt Dt) ++ (uX3 cs adh qh Fh Ah Bh Dh)) H → va_S (fun q => s.heap.size ≤ q) s.heap H locs → lv_has ls 7 [(0, .ref adt), (1, .ref adh), (2, .int a2), (3, .int a3), (6, .int x12_6)] → W p l e (rmk 2 0 0) s m args below meth c H locs 0 0 (MQ below (QRl (fun r : Int64 => True) s.heap.size) args s 0 0 (fun q => s.heap.size ≤ q)) (F0 m 48 ls [.long s48_0, .long s48_1]) := by
          intro s48_0 s48_1 H locs ls hs48_0 hP hS hl
          refine lv_lmul hx hb dX4_share_48 ?_
          refine lv_topl (fun v29001 ev29001 => ?_)
          refine lv_lstore (lv' := [(4, .long v29001), (0, .ref adt), (1, .ref adh), (2, .int a2), (3, .int a3), (6, .int x12_6)]) hx hb dX4_share_49 hl (by decide) rfl (fun ls hl => ?_)
          obtain ⟨v29002, ev29002⟩ : ∃ z : Int32, z = x12_6 + 1 := ⟨_, rfl⟩
          have tv29002 : v29002.toInt = x12_6.toInt + 1 := by rw [ev29002]; exact addT rfl (by decide) (by omega)
          refine lv_iinc (v := v29002) (lv' := [(6, .int v29002), (4, .long v29001), (0, .ref adt), (1, .ref adh), (2, .int a2), (3, .int a3)]) hx hb dX4_share_51 hl (k := 5) rfl (by rw [ev29002]; rfl) (by decide) rfl (fun ls hl => ?_)
          refine lv_goto (tgt := 12) hx hb dX4_share_54 (by decide) ?_
          exact ih12 v29001 v29002 H locs ls (by omega) (by omega) hP hS (lv_sub hl [2, 3, 4, 5, 1, 0] rfl)
        refine lv_icmp_ne (tgt := 40) hx hb dX4_share_26 (by decide) (fun c9003 => ?_) (fun c9003 => ?_)
        · have zc9003 := neK rfl rfl c9003
          refine lv_aload_n hx hb dX4_share_40 rfl (lv_at hl 0 rfl) ?_
          refine lv_aload_n hx hb dX4_share_41 rfl (lv_at hl 1 rfl) ?_
          refine lv_iload hx hb dX4_share_42 (lv_at hl 5 rfl) ?_
          refine behR (runVP (As := [.ref adh, .int x12_6]) (rest := [.long x12_4]) ⟨hx, hb, hml, hown, ht⟩ (sX4_hasInAll l G cs adt qt Ft At Bt Dt hIt adh qh Fh Ah Bh Dh hIh x12_6 (by omega)) okV_RX4_60 ⟨by decide, by decide⟩ hK hP [0, 1, 2, 3, 4, 5, 6, 7, 8, 9] rfl 0 rfl rfl hl.1 rfl (Nat.le_of_ble_eq_true rfl) dX4_share_44 ⟨by decide, by decide⟩) hP hS (fun _ h => h) (fun r9004 H locs hr9004 hP hS => ?_)
          refine lv_i2l hx hb dX4_share_47 rfl ?_
          have bb9005 := i32b r9004
          refine lv_topl (fun v9006 ev9006 => ?_)
          have tv9006 : v9006.toInt = r9004.toInt := by rw [ev9006]; exact Int32.toInt_toInt64 _
          exact B48 v9006 x12_4 H locs ls (by omega) hP hS (lv_sub hl [0, 1, 2, 3, 5] rfl)
        · have zc9003 := eqK rfl rfl c9003
          refine lv_aload_n hx hb dX4_share_29 rfl (lv_at hl 0 rfl) ?_
          refine lv_aload_n hx hb dX4_share_30 rfl (lv_at hl 1 rfl) ?_
          refine lv_iload_n hx hb dX4_share_31 rfl (lv_at hl 2 rfl) ?_
          refine lv_iload_n hx hb dX4_share_32 rfl (lv_at hl 3 rfl) ?_
          refine behR (runVP (As := [.ref adh, .int a2, .int a3]) (rest := [.long x12_4]) ⟨hx, hb, hml, hown, ht⟩ (sX4_hasAs l G cs adt qt Ft At Bt Dt hIt adh qh Fh Ah Bh Dh hIh a2 a3 (by omega) (by omega)) okV_RX4_57 ⟨by decide, by decide⟩ hK hP [0, 1, 2, 3, 4, 5, 6, 7, 8, 9] rfl 0 rfl rfl hl.1 rfl (Nat.le_of_ble_eq_true rfl) dX4_share_33 ⟨by decide, by decide⟩) hP hS (fun _ h => h) (fun r9007 H locs hr9007 hP hS => ?_)
          refine lv_i2l hx hb dX4_share_36 rfl ?_
          have bb9008 := i32b r9007
          refine lv_topl (fun v9009 ev9009 => ?_)
          have tv9009 : v9009.toInt = r9007.toInt := by rw [ev9009]; exact Int32.toInt_toInt64 _
          refine lv_goto (tgt := 48) hx hb dX4_share_37 (by decide) ?_
          exact B48 v9009 x12_4 H locs ls (by omega) hP hS (lv_sub hl [0, 1, 2, 3, 5] rfl)
  exact B12 _ v3 0 s.heap [] ls (Nat.lt_succ_self _) (by decide) hP hS (lv_sub hl [2, 3, 4, 5, 1, 0] rfl)

set_option maxRecDepth 100000 in
set_option maxHeartbeats 16000000 in
theorem sX4_allRead (l : Launch) (G : va_G) (cs : Nat → ClassId) (adt : Nat) (qt : Nat → Nat) (Ft : Nat → Int32) (At : Nat → Nat → Int32) (Bt : Nat → Nat → Int64) (Dt : Int64) (hIt : IX4 Ft At) (adh : Nat) (qh : Nat → Nat) (Fh : Nat → Int32) (Ah : Nat → Nat → Int32) (Bh : Nat → Nat → Int64) (Dh : Int64) (hIh : IX3 Fh Ah) (a2 : Int32) (ha2 : (0 : Int) ≤ a2.toInt ∧ a2.toInt ≤ 5) : ∀ sz : Nat, Met l yX4_allRead (wk yX4_allRead cX4_allRead 6 (some .long)) (rmk 3 0 0) (PreP G (TY cs) [.ref adt, .ref adh, .int a2] ((uX4 cs adt qt Ft At Bt Dt) ++ (uX3 cs adh qh Fh Ah Bh Dh)) sz) (QRl (fun r : Int64 => True) sz) 0 0 (fun q => sz ≤ q) := by
  refine mkP (Qc := QRl (fun r : Int64 => True)) (by decide) (by simp [lg_sl, Value.category]) ?_
  intro p e s m args below meth c ls hx hb hml hr hlk hown ht hK hP hS hl
  have hl : lv_has ls 6 [(0, .ref adt), (1, .ref adh), (2, .int a2)] := hl
  refine lv_lconst (v := 0) hx hb dX4_allRead_0 (by decide) ?_
  refine lv_lstore_n (lv' := [(3, .long 0), (0, .ref adt), (1, .ref adh), (2, .int a2)]) hx hb dX4_allRead_1 rfl hl (by decide) rfl (fun ls hl => ?_)
  refine lv_iconst (v := 0) hx hb dX4_allRead_2 (by decide) ?_
  refine lv_istore (lv' := [(5, .int 0), (3, .long 0), (0, .ref adt), (1, .ref adh), (2, .int a2)]) hx hb dX4_allRead_3 hl (by decide) rfl (fun ls hl => ?_)
  have B5 : ∀ (n : Nat) (x5_3 : Int64) (x5_5 : Int32) (H : Heap) (locs : List Loc) (ls : Array Slot), (6 - x5_5.toInt).toNat < n → (0 : Int) ≤ x5_5.toInt ∧ x5_5.toInt ≤ 6 → va_P G vwCl ((uX4 cs adt qt Ft At Bt Dt) ++ (uX3 cs adh qh Fh Ah Bh Dh)) H → va_S (fun q => s.heap.size ≤ q) s.heap H locs → lv_has ls 6 [(0, .ref adt), (1, .ref adh), (2, .int a2), (3, .long x5_3), (5, .int x5_5)] → W p l e (rmk 3 0 0) s m args below meth c H locs 0 0 (MQ below (QRl (fun r : Int64 => True) s.heap.size) args s 0 0 (fun q => s.heap.size ≤ q)) (F0 m 5 ls []) := by
    intro n
    induction n with
    | zero => intro x5_3 x5_5 H locs ls hmeas hx5_5 hP hS hl; exact absurd hmeas (Nat.not_lt_zero _)
    | succ n ih5 =>
      intro x5_3 x5_5 H locs ls hmeas hx5_5 hP hS hl
      refine lv_iload hx hb dX4_allRead_5 (lv_at hl 4 rfl) ?_
      refine lv_aload_n hx hb dX4_allRead_7 rfl (lv_at hl 1 rfl) ?_
      refine getF (v := .int (Fh 6)) hx hb ht hown hK hP iTX3 2 6 rfl rfl (by decide) fl_RX4_47 rfl dX4_allRead_8 ?_
      have zf5001 : (0 : Int) ≤ (Fh 6).toInt ∧ (Fh 6).toInt ≤ 6 := hIh.1 6
      refine lv_icmp_ge (tgt := 31) hx hb dX4_allRead_11 (by decide) (fun c5002 => ?_) (fun c5002 => ?_)
      · have zc5002 := leK rfl rfl c5002
        refine lv_lload_n hx hb dX4_allRead_31 rfl (lv_at hl 3 rfl) ?_
        exact retRl hx hb hr hlk hS dX4_allRead_32 (trivial)
      · have zc5002 := nleK rfl rfl c5002
        refine lv_lload_n hx hb dX4_allRead_14 rfl (lv_at hl 3 rfl) ?_
        refine lv_aload_n hx hb dX4_allRead_15 rfl (lv_at hl 0 rfl) ?_
        refine lv_aload_n hx hb dX4_allRead_16 rfl (lv_at hl 1 rfl) ?_
        refine lv_iload hx hb dX4_allRead_17 (lv_at hl 4 rfl) ?_
        refine lv_iload_n hx hb dX4_allRead_19 rfl (lv_at hl 2 rfl) ?_
        refine behRL (runVP (As := [.ref adh, .int x5_5, .int a2]) (rest := [.long x5_3]) ⟨hx, hb, hml, hown, ht⟩ (sX4_share l G cs adt qt Ft At Bt Dt hIt adh qh Fh Ah Bh Dh hIh x5_5 a2 (by omega) (by omega)) okV_RX4_63 ⟨by decide, by decide⟩ hK hP [0, 1, 2, 3, 4, 5, 6, 7, 8, 9] rfl 0 rfl rfl hl.1 rfl (Nat.le_of_ble_eq_true rfl) dX4_allRead_20 ⟨by decide, by decide⟩) hP hS (fun _ h => h) (fun r5003 H locs hr5003 hP hS => ?_)
        refine lv_ladd hx hb dX4_allRead_23 ?_
        refine lv_topl (fun v5004 ev5004 => ?_)
        refine lv_lstore_n (lv' := [(3, .long v5004), (0, .ref adt), (1, .ref adh), (2, .int a2), (5, .int x5_5)]) hx hb dX4_allRead_24 rfl hl (by decide) rfl (fun ls hl => ?_)
        obtain ⟨v5005, ev5005⟩ : ∃ z : Int32, z = x5_5 + 1 := ⟨_, rfl⟩
        have tv5005 : v5005.toInt = x5_5.toInt + 1 := by rw [ev5005]; exact addT rfl (by decide) (by omega)
        refine lv_iinc (v := v5005) (lv' := [(5, .int v5005), (3, .long v5004), (0, .ref adt), (1, .ref adh), (2, .int a2)]) hx hb dX4_allRead_25 hl (k := 4) rfl (by rw [ev5005]; rfl) (by decide) rfl (fun ls hl => ?_)
        refine lv_goto (tgt := 5) hx hb dX4_allRead_28 (by decide) ?_
        exact ih5 v5004 v5005 H locs ls (by omega) (by omega) hP hS (lv_sub hl [2, 3, 4, 1, 0] rfl)
  exact B5 _ 0 0 s.heap [] ls (Nat.lt_succ_self _) (by decide) hP hS (lv_sub hl [2, 3, 4, 1, 0] rfl)

set_option maxRecDepth 100000 in
set_option maxHeartbeats 16000000 in
theorem sX4_greatestDivisor (l : Launch) (G : va_G) (cs : Nat → ClassId) (adt : Nat) (qt : Nat → Nat) (Ft : Nat → Int32) (At : Nat → Nat → Int32) (Bt : Nat → Nat → Int64) (Dt : Int64) (hIt : IX4 Ft At) (a1 : Int64) (a2 : Int64) : ∀ sz : Nat, Met l yX4_greatestDivisor (wk yX4_greatestDivisor cX4_greatestDivisor 12 (some .long)) (rmk 0 0 0) (PreP G (TY cs) [.ref adt, .long a1, .long a2] (uX4 cs adt qt Ft At Bt Dt) sz) (QRl (fun r : Int64 => ¬ r.toInt = 0) sz) 0 0 (fun q => sz ≤ q) := by
  refine mkP (Qc := QRl (fun r : Int64 => ¬ r.toInt = 0)) (by decide) (by simp [lg_sl, Value.category]) ?_
  intro p e s m args below meth c ls hx hb hml hr hlk hown ht hK hP hS hl
  have hl : lv_has ls 12 [(0, .ref adt), (1, .long a1), (3, .long a2)] := hl
  refine lv_lload_n hx hb dX4_greatestDivisor_0 rfl (lv_at hl 1 rfl) ?_
  refine lv_lstore (lv' := [(5, .long a1), (0, .ref adt), (1, .long a1), (3, .long a2)]) hx hb dX4_greatestDivisor_1 hl (by decide) rfl (fun ls hl => ?_)
  refine lv_lload_n hx hb dX4_greatestDivisor_3 rfl (lv_at hl 3 rfl) ?_
  refine lv_lstore (lv' := [(7, .long a2), (5, .long a1), (0, .ref adt), (1, .long a1), (3, .long a2)]) hx hb dX4_greatestDivisor_4 hl (by decide) rfl (fun ls hl => ?_)
  refine lv_iconst (v := 0) hx hb dX4_greatestDivisor_6 (by decide) ?_
  refine lv_istore (lv' := [(9, .int 0), (7, .long a2), (5, .long a1), (0, .ref adt), (1, .long a1), (3, .long a2)]) hx hb dX4_greatestDivisor_7 hl (by decide) rfl (fun ls hl => ?_)
  have B9 : ∀ (n : Nat) (x9_5 : Int64) (x9_7 : Int64) (x9_9 : Int32) (H : Heap) (locs : List Loc) (ls : Array Slot), (200 - x9_9.toInt).toNat < n → (0 : Int) ≤ x9_9.toInt ∧ x9_9.toInt ≤ 200 → va_P G vwCl (uX4 cs adt qt Ft At Bt Dt) H → va_S (fun q => s.heap.size ≤ q) s.heap H locs → lv_has ls 12 [(5, .long x9_5), (7, .long x9_7), (9, .int x9_9)] → W p l e (rmk 0 0 0) s m args below meth c H locs 0 0 (MQ below (QRl (fun r : Int64 => ¬ r.toInt = 0) s.heap.size) args s 0 0 (fun q => s.heap.size ≤ q)) (F0 m 9 ls []) := by
    intro n
    induction n with
    | zero => intro x9_5 x9_7 x9_9 H locs ls hmeas hx9_9 hP hS hl; exact absurd hmeas (Nat.not_lt_zero _)
    | succ n ih9 =>
      intro x9_5 x9_7 x9_9 H locs ls hmeas hx9_9 hP hS hl
      refine lv_iload hx hb dX4_greatestDivisor_9 (lv_at hl 2 rfl) ?_
      refine lv_sipush (v := 200) hx hb dX4_greatestDivisor_11 (by decide) ?_
      have B45 : ∀ (H : Heap) (locs : List Loc) (ls : Array Slot), va_P G vwCl (uX4 cs adt qt Ft At Bt Dt) H → va_S (fun q => s.heap.size ≤ q) s.heap H locs → lv_has ls 12 [(5, .long x9_5)] → W p l e (rmk 0 0 0) s m args below meth c H locs 0 0 (MQ below (QRl (fun r : Int64 => ¬ r.toInt = 0) s.heap.size) args s 0 0 (fun q => s.heap.size ≤ q)) (F0 m 45 ls []) := by
        intro H locs ls hP hS hl
        refine lv_lload hx hb dX4_greatestDivisor_45 (lv_at hl 0 rfl) ?_
        refine lv_lconst (v := 0) hx hb dX4_greatestDivisor_47 (by decide) ?_
        refine W.lcmp hx hb dX4_greatestDivisor_48 ?_
        refine lv_topi (fun v24001 ev24001 => ?_)
        refine lv_if_ne (tgt := 56) hx hb dX4_greatestDivisor_49 (by decide) (fun c24002 => ?_) (fun c24002 => ?_)
        · have zc24002 := neK rfl (show (0 : Int32).toInt = 0 by decide) c24002
          have yc24002 := cmpEQn rfl (show (0 : Int64).toInt = 0 by decide) ev24001 (by omega)
          refine lv_lload hx hb dX4_greatestDivisor_56 (lv_at hl 0 rfl) ?_
          exact retRl hx hb hr hlk hS dX4_greatestDivisor_58 (show ¬ x9_5.toInt = 0 by omega)
        · have zc24002 := eqK rfl (show (0 : Int32).toInt = 0 by decide) c24002
          have yc24002 := cmpEQ rfl (show (0 : Int64).toInt = 0 by decide) ev24001 (by omega)
          refine lv_lconst (v := 1) hx hb dX4_greatestDivisor_52 (by decide) ?_
          refine lv_goto (tgt := 58) hx hb dX4_greatestDivisor_53 (by decide) ?_
          exact retRl hx hb hr hlk hS dX4_greatestDivisor_58 (show ¬ (1 : Int64).toInt = 0 by have kk : (1 : Int64).toInt = 1 := (by decide); omega)
      refine lv_icmp_ge (tgt := 45) hx hb dX4_greatestDivisor_14 (by decide) (fun c7001 => ?_) (fun c7001 => ?_)
      · have zc7001 := leK (show (200 : Int32).toInt = 200 by decide) rfl c7001
        exact B45 H locs ls hP hS (lv_sub hl [0] rfl)
      · have zc7001 := nleK (show (200 : Int32).toInt = 200 by decide) rfl c7001
        refine lv_lload hx hb dX4_greatestDivisor_17 (lv_at hl 1 rfl) ?_
        refine lv_lconst (v := 0) hx hb dX4_greatestDivisor_19 (by decide) ?_
        refine W.lcmp hx hb dX4_greatestDivisor_20 ?_
        refine lv_topi (fun v7002 ev7002 => ?_)
        refine lv_if_eq (tgt := 45) hx hb dX4_greatestDivisor_21 (by decide) (fun c7003 => ?_) (fun c7003 => ?_)
        · have zc7003 := eqK rfl (show (0 : Int32).toInt = 0 by decide) c7003
          have yc7003 := cmpEQ rfl (show (0 : Int64).toInt = 0 by decide) ev7002 (by omega)
          exact B45 H locs ls hP hS (lv_sub hl [0] rfl)
        · have zc7003 := neK rfl (show (0 : Int32).toInt = 0 by decide) c7003
          have yc7003 := cmpEQn rfl (show (0 : Int64).toInt = 0 by decide) ev7002 (by omega)
          refine lv_lload hx hb dX4_greatestDivisor_24 (lv_at hl 0 rfl) ?_
          refine lv_lload hx hb dX4_greatestDivisor_26 (lv_at hl 1 rfl) ?_
          refine lv_lrem hx hb dX4_greatestDivisor_28 (n0L rfl (by omega)) ?_
          refine lv_topl (fun v7004 ev7004 => ?_)
          have uv7004 : v7004.toInt.natAbs < x9_7.toInt.natAbs := by rw [ev7004]; exact remN (by omega)
          refine lv_lstore (lv' := [(10, .long v7004), (5, .long x9_5), (7, .long x9_7), (9, .int x9_9)]) hx hb dX4_greatestDivisor_29 hl (by decide) rfl (fun ls hl => ?_)
          refine lv_lload hx hb dX4_greatestDivisor_31 (lv_at hl 2 rfl) ?_
          refine lv_lstore (lv' := [(5, .long x9_7), (10, .long v7004), (7, .long x9_7), (9, .int x9_9)]) hx hb dX4_greatestDivisor_33 hl (by decide) rfl (fun ls hl => ?_)
          refine lv_lload hx hb dX4_greatestDivisor_35 (lv_at hl 1 rfl) ?_
          refine lv_lstore (lv' := [(7, .long v7004), (5, .long x9_7), (10, .long v7004), (9, .int x9_9)]) hx hb dX4_greatestDivisor_37 hl (by decide) rfl (fun ls hl => ?_)
          obtain ⟨v7005, ev7005⟩ : ∃ z : Int32, z = x9_9 + 1 := ⟨_, rfl⟩
          have tv7005 : v7005.toInt = x9_9.toInt + 1 := by rw [ev7005]; exact addT rfl (by decide) (by omega)
          refine lv_iinc (v := v7005) (lv' := [(9, .int v7005), (7, .long v7004), (5, .long x9_7), (10, .long v7004)]) hx hb dX4_greatestDivisor_39 hl (k := 3) rfl (by rw [ev7005]; rfl) (by decide) rfl (fun ls hl => ?_)
          refine lv_goto (tgt := 9) hx hb dX4_greatestDivisor_42 (by decide) ?_
          exact ih9 x9_7 v7004 v7005 H locs ls (by omega) (by omega) hP hS (lv_sub hl [2, 1, 0] rfl)
  exact B9 _ a1 a2 0 s.heap [] ls (Nat.lt_succ_self _) (by decide) hP hS (lv_sub hl [2, 1, 0] rfl)

set_option maxRecDepth 100000 in
set_option maxHeartbeats 16000000 in
theorem sX4_lowest (l : Launch) (G : va_G) (cs : Nat → ClassId) (adt : Nat) (qt : Nat → Nat) (Ft : Nat → Int32) (At : Nat → Nat → Int32) (Bt : Nat → Nat → Int64) (Dt : Int64) (hIt : IX4 Ft At) (a1 : Int64) (a2 : Int64) (a3 : Int32) : ∀ sz : Nat, Met l yX4_lowest (wk yX4_lowest cX4_lowest 8 (some .long)) (rmk 1 0 0) (PreP G (TY cs) [.ref adt, .long a1, .long a2, .int a3] (uX4 cs adt qt Ft At Bt Dt) sz) (QRl (fun r : Int64 => True) sz) 0 0 (fun q => sz ≤ q) := by
  refine mkP (Qc := QRl (fun r : Int64 => True)) (by decide) (by simp [lg_sl, Value.category]) ?_
  intro p e s m args below meth c ls hx hb hml hr hlk hown ht hK hP hS hl
  have hl : lv_has ls 8 [(0, .ref adt), (1, .long a1), (3, .long a2), (5, .int a3)] := hl
  refine lv_lload_n hx hb dX4_lowest_0 rfl (lv_at hl 1 rfl) ?_
  refine lv_lconst (v := 0) hx hb dX4_lowest_1 (by decide) ?_
  refine W.lcmp hx hb dX4_lowest_2 ?_
  refine lv_topi (fun v1 ev1 => ?_)
  have B12 : ∀ (H : Heap) (locs : List Loc) (ls : Array Slot), va_P G vwCl (uX4 cs adt qt Ft At Bt Dt) H → va_S (fun q => s.heap.size ≤ q) s.heap H locs → lv_has ls 8 [(5, .int a3)] → W p l e (rmk 1 0 0) s m args below meth c H locs 0 0 (MQ below (QRl (fun r : Int64 => True) s.heap.size) args s 0 0 (fun q => s.heap.size ≤ q)) (F0 m 12 ls []) := by
    intro H locs ls hP hS hl
    refine lv_iload hx hb dX4_lowest_12 (lv_at hl 0 rfl) ?_
    refine lv_if_ne (tgt := 21) hx hb dX4_lowest_14 (by decide) (fun c22001 => ?_) (fun c22001 => ?_)
    · have zc22001 := neK rfl (show (0 : Int32).toInt = 0 by decide) c22001
      refine lv_lconst (v := 1) hx hb dX4_lowest_21 (by decide) ?_
      exact retRl hx hb hr hlk hS dX4_lowest_22 (trivial)
    · have zc22001 := eqK rfl (show (0 : Int32).toInt = 0 by decide) c22001
      refine lv_lconst (v := 0) hx hb dX4_lowest_17 (by decide) ?_
      refine lv_goto (tgt := 22) hx hb dX4_lowest_18 (by decide) ?_
      exact retRl hx hb hr hlk hS dX4_lowest_22 (trivial)
  refine lv_if_eq (tgt := 12) hx hb dX4_lowest_3 (by decide) (fun c2 => ?_) (fun c2 => ?_)
  · have zc2 := eqK rfl (show (0 : Int32).toInt = 0 by decide) c2
    have yc2 := cmpEQ rfl (show (0 : Int64).toInt = 0 by decide) ev1 (by omega)
    exact B12 s.heap [] ls hP hS (lv_sub hl [3] rfl)
  · have zc2 := neK rfl (show (0 : Int32).toInt = 0 by decide) c2
    have yc2 := cmpEQn rfl (show (0 : Int64).toInt = 0 by decide) ev1 (by omega)
    refine lv_lload_n hx hb dX4_lowest_6 rfl (lv_at hl 2 rfl) ?_
    refine lv_lconst (v := 0) hx hb dX4_lowest_7 (by decide) ?_
    refine W.lcmp hx hb dX4_lowest_8 ?_
    refine lv_topi (fun v3 ev3 => ?_)
    refine lv_if_ne (tgt := 23) hx hb dX4_lowest_9 (by decide) (fun c4 => ?_) (fun c4 => ?_)
    · have zc4 := neK rfl (show (0 : Int32).toInt = 0 by decide) c4
      have yc4 := cmpEQn rfl (show (0 : Int64).toInt = 0 by decide) ev3 (by omega)
      refine lv_aload_n hx hb dX4_lowest_23 rfl (lv_at hl 0 rfl) ?_
      refine lv_lload_n hx hb dX4_lowest_24 rfl (lv_at hl 1 rfl) ?_
      refine lv_lload_n hx hb dX4_lowest_25 rfl (lv_at hl 2 rfl) ?_
      refine behRL (runVP (As := [.long a1, .long a2]) (rest := []) ⟨hx, hb, hml, hown, ht⟩ (sX4_greatestDivisor l G cs adt qt Ft At Bt Dt hIt a1 a2 ) okV_RX4_73 ⟨by decide, by decide⟩ hK hP [0, 1] rfl 0 rfl rfl hl.1 rfl (Nat.le_of_ble_eq_true rfl) dX4_lowest_26 ⟨by decide, by decide⟩) hP hS (fun _ h => h) (fun r5 H locs hr5 hP hS => ?_)
      have hr5 : ¬ r5.toInt = 0 := hr5
      refine lv_lstore (lv' := [(6, .long r5), (0, .ref adt), (1, .long a1), (3, .long a2), (5, .int a3)]) hx hb dX4_lowest_29 hl (by decide) rfl (fun ls hl => ?_)
      refine lv_iload hx hb dX4_lowest_31 (lv_at hl 4 rfl) ?_
      refine lv_if_ne (tgt := 40) hx hb dX4_lowest_33 (by decide) (fun c6 => ?_) (fun c6 => ?_)
      · have zc6 := neK rfl (show (0 : Int32).toInt = 0 by decide) c6
        refine lv_lload_n hx hb dX4_lowest_40 rfl (lv_at hl 3 rfl) ?_
        refine lv_lload hx hb dX4_lowest_41 (lv_at hl 0 rfl) ?_
        refine lv_ldiv hx hb dX4_lowest_43 (n0L rfl (by omega)) ?_
        refine lv_topl (fun v7 ev7 => ?_)
        exact retRl hx hb hr hlk hS dX4_lowest_44 (trivial)
      · have zc6 := eqK rfl (show (0 : Int32).toInt = 0 by decide) c6
        refine lv_lload_n hx hb dX4_lowest_36 rfl (lv_at hl 2 rfl) ?_
        refine lv_goto (tgt := 41) hx hb dX4_lowest_37 (by decide) ?_
        refine lv_lload hx hb dX4_lowest_41 (lv_at hl 0 rfl) ?_
        refine lv_ldiv hx hb dX4_lowest_43 (n0L rfl (by omega)) ?_
        refine lv_topl (fun v8 ev8 => ?_)
        exact retRl hx hb hr hlk hS dX4_lowest_44 (trivial)
    · have zc4 := eqK rfl (show (0 : Int32).toInt = 0 by decide) c4
      have yc4 := cmpEQ rfl (show (0 : Int64).toInt = 0 by decide) ev3 (by omega)
      exact B12 s.heap [] ls hP hS (lv_sub hl [3] rfl)

set_option maxRecDepth 100000 in
set_option maxHeartbeats 16000000 in
theorem sX1_reach (l : Launch) (G : va_G) (cs : Nat → ClassId) (adt : Nat) (qt : Nat → Nat) (Ft : Nat → Int32) (At : Nat → Nat → Int32) (Bt : Nat → Nat → Int64) (Dt : Int64) (hIt : IX1 Ft At) (a1 : Int32) (a2 : Int32) (a3 : Int32) (a4 : Int32) (ha1 : (0 : Int) ≤ a1.toInt ∧ a1.toInt ≤ 6) (ha2 : (0 : Int) ≤ a2.toInt ∧ a2.toInt ≤ 6) (ha3 : (0 : Int) ≤ a3.toInt ∧ a3.toInt ≤ 127) (ha4 : (-1 : Int) ≤ a4.toInt ∧ a4.toInt ≤ 1791) : ∀ sz : Nat, Met l yX1_reach (wk yX1_reach cX1_reach 10 none) (rmk 0 0 0) (PreD G (TY cs) [.ref adt, .int a1, .int a2, .int a3, .int a4] (uX1 cs adt qt Ft At Bt Dt) sz) ((QDw G (fun u : Int32 × Int32 × (Nat → Int32) × (Nat → Int32) × (Nat → Int64) => ((0 : Int) ≤ u.1.toInt ∧ u.1.toInt ≤ 1792) ∧ ((-1 : Int) ≤ u.2.1.toInt ∧ u.2.1.toInt ≤ 1791) ∧ AJ (0) 6271 u.2.2.1 ∧ AJ (-1) 1791 u.2.2.2.1 ∧ (True)) (fun u : Int32 × Int32 × (Nat → Int32) × (Nat → Int32) × (Nat → Int64) => (wX1 cs adt qt (upd (upd Ft 5 u.1) 6 u.2.1) (vA (vA At 1 u.2.2.1) 2 u.2.2.2.1) (vA Bt 0 u.2.2.2.2) Dt))) (va_A (uX1 cs adt qt Ft At Bt Dt) sz)) 0 0 (va_A (uX1 cs adt qt Ft At Bt Dt) sz) := by
  refine mkD (Qc := (QDw G (fun u : Int32 × Int32 × (Nat → Int32) × (Nat → Int32) × (Nat → Int64) => ((0 : Int) ≤ u.1.toInt ∧ u.1.toInt ≤ 1792) ∧ ((-1 : Int) ≤ u.2.1.toInt ∧ u.2.1.toInt ≤ 1791) ∧ AJ (0) 6271 u.2.2.1 ∧ AJ (-1) 1791 u.2.2.2.1 ∧ (True)) (fun u : Int32 × Int32 × (Nat → Int32) × (Nat → Int32) × (Nat → Int64) => (wX1 cs adt qt (upd (upd Ft 5 u.1) 6 u.2.1) (vA (vA At 1 u.2.2.1) 2 u.2.2.2.1) (vA Bt 0 u.2.2.2.2) Dt)))) (by decide) (by simp [lg_sl, Value.category]) ?_
  intro p e s m args below meth c ls A0 hx hb hml hr hlk hown hmn ht hK hP hD hS hA hl
  have hl : lv_has ls 10 [(0, .ref adt), (1, .int a1), (2, .int a2), (3, .int a3), (4, .int a4)] := hl
  refine lv_iload_n hx hb dX1_reach_0 rfl (lv_at hl 3 rfl) ?_
  refine lv_iconst (v := 1) hx hb dX1_reach_1 (by decide) ?_
  refine lv_iload_n hx hb dX1_reach_2 rfl (lv_at hl 1 rfl) ?_
  refine lv_ishl hx hb dX1_reach_3 ?_
  refine lv_topi (fun v1 ev1 => ?_)
  have tv1 : (1 : Int) ≤ v1.toInt ∧ v1.toInt ≤ 64 := by rw [ev1]; exact shlT 6 (by decide) rfl (by omega) (by decide)
  have pv1 : v1.toInt = P2 a1.toInt := by rw [ev1]; exact shlP rfl (by omega)
  refine lv_iconst (v := 1) hx hb dX1_reach_4 (by decide) ?_
  refine lv_iload_n hx hb dX1_reach_5 rfl (lv_at hl 2 rfl) ?_
  refine lv_ishl hx hb dX1_reach_6 ?_
  refine lv_topi (fun v2 ev2 => ?_)
  have tv2 : (1 : Int) ≤ v2.toInt ∧ v2.toInt ≤ 64 := by rw [ev2]; exact shlT 6 (by decide) rfl (by omega) (by decide)
  have pv2 : v2.toInt = P2 a2.toInt := by rw [ev2]; exact shlP rfl (by omega)
  refine lv_ior hx hb dX1_reach_7 ?_
  refine lv_topi (fun v3 ev3 => ?_)
  have tv3 : 0 ≤ v3.toInt ∧ v3.toInt ≤ 127 := by rw [ev3]; exact orA 7 rfl rfl (by omega) (by omega) (by decide)
  have uv3 : v1.toInt ≤ v3.toInt := by rw [ev3]; exact orGe rfl rfl (by omega) (by rw [← ev3]; omega)
  refine lv_iconst (v := (-1)) hx hb dX1_reach_8 (by decide) ?_
  refine lv_ixor hx hb dX1_reach_9 ?_
  refine lv_topi (fun v4 ev4 => ?_)
  refine lv_iand hx hb dX1_reach_10 ?_
  refine lv_topi (fun v5 ev5 => ?_)
  have tv5 : 0 ≤ v5.toInt ∧ v5.toInt ≤ 127 := by rw [ev5]; exact andA 7 rfl (by omega) (by decide)
  refine lv_istore (lv' := [(5, .int v5), (0, .ref adt), (1, .int a1), (2, .int a2), (3, .int a3), (4, .int a4)]) hx hb dX1_reach_11 hl (by decide) rfl (fun ls hl => ?_)
  refine lv_iload_n hx hb dX1_reach_13 rfl (lv_at hl 2 rfl) ?_
  refine lv_bipush (v := 7) hx hb dX1_reach_14 (by decide) ?_
  refine lv_imul hx hb dX1_reach_16 ?_
  refine lv_topi (fun v6 ev6 => ?_)
  have tv6 : v6.toInt = a1.toInt * 7 := by rw [ev6]; exact mulT rfl (show (7 : Int32).toInt = 7 by decide) (by omega)
  refine lv_iload_n hx hb dX1_reach_17 rfl (lv_at hl 3 rfl) ?_
  refine lv_iadd hx hb dX1_reach_18 ?_
  refine lv_topi (fun v7 ev7 => ?_)
  have tv7 : v7.toInt = v6.toInt + a2.toInt := by rw [ev7]; exact addT rfl rfl (by omega)
  refine lv_istore (lv' := [(6, .int v7), (5, .int v5), (0, .ref adt), (1, .int a1), (2, .int a2), (3, .int a3), (4, .int a4)]) hx hb dX1_reach_19 hl (by decide) rfl (fun ls hl => ?_)
  refine lv_lconst (v := 1) hx hb dX1_reach_21 (by decide) ?_
  refine lv_iload hx hb dX1_reach_22 (lv_at hl 1 rfl) ?_
  refine lv_bipush (v := 63) hx hb dX1_reach_24 (by decide) ?_
  refine lv_iand hx hb dX1_reach_26 ?_
  refine lv_topi (fun v8 ev8 => ?_)
  have tv8 : 0 ≤ v8.toInt ∧ v8.toInt ≤ 63 := by rw [ev8]; exact andT 6 (by decide) (by decide) (by decide)
  refine lv_lshl hx hb dX1_reach_27 rfl ?_
  refine lv_topl (fun v9 ev9 => ?_)
  refine lv_lstore (lv' := [(7, .long v9), (6, .int v7), (5, .int v5), (0, .ref adt), (1, .int a1), (2, .int a2), (3, .int a3), (4, .int a4)]) hx hb dX1_reach_28 hl (by decide) rfl (fun ls hl => ?_)
  refine lv_iconst (v := 2) hx hb dX1_reach_30 (by decide) ?_
  refine lv_iload hx hb dX1_reach_31 (lv_at hl 1 rfl) ?_
  refine lv_imul hx hb dX1_reach_33 ?_
  refine lv_topi (fun v10 ev10 => ?_)
  have tv10 : v10.toInt = 2 * v7.toInt := by rw [ev10]; exact mulT (show (2 : Int32).toInt = 2 by decide) rfl (by omega)
  refine lv_iload hx hb dX1_reach_34 (lv_at hl 2 rfl) ?_
  refine lv_bipush (v := 6) hx hb dX1_reach_36 (by decide) ?_
  refine lv_ishr hx hb dX1_reach_38 ?_
  refine lv_topi (fun v11 ev11 => ?_)
  have tv11 : v11.toInt = v5.toInt / 64 := by rw [ev11]; exact shrT 6 (by decide) (by decide) (by decide) rfl (by omega)
  refine lv_iadd hx hb dX1_reach_39 ?_
  refine lv_topi (fun v12 ev12 => ?_)
  have tv12 : v12.toInt = v10.toInt + v11.toInt := by rw [ev12]; exact addT rfl rfl (by omega)
  refine lv_istore (lv' := [(9, .int v12), (7, .long v9), (6, .int v7), (5, .int v5), (0, .ref adt), (1, .int a1), (2, .int a2), (3, .int a3), (4, .int a4)]) hx hb dX1_reach_40 hl (by decide) rfl (fun ls hl => ?_)
  refine lv_aload_n hx hb dX1_reach_42 rfl (lv_at hl 4 rfl) ?_
  refine getF (v := .int (Ft 5)) hx hb ht hown hK hP iTX1 0 5 rfl rfl (by decide) fl_RX1_38 rfl dX1_reach_43 ?_
  have zf13 : (0 : Int) ≤ (Ft 5).toInt ∧ (Ft 5).toInt ≤ 1792 := hIt.1 5
  refine lv_sipush (v := 1792) hx hb dX1_reach_46 (by decide) ?_
  refine lv_icmp_ge (tgt := 67) hx hb dX1_reach_49 (by decide) (fun c14 => ?_) (fun c14 => ?_)
  · have zc14 := leK (show (1792 : Int32).toInt = 1792 by decide) rfl c14
    exact retDw ((Ft 5), (Ft 6), (At 1), (At 2), (Bt 0)) hx hb hr hlk hP hD hS dX1_reach_67 (⟨hIt.1 5, hIt.1 6, fun j => hIt.2 1 j, fun j => hIt.2 2 j, trivial⟩) (Nat.le_of_ble_eq_true rfl) (Nat.le_of_ble_eq_true rfl)
  · have zc14 := nleK (show (1792 : Int32).toInt = 1792 by decide) rfl c14
    refine lv_aload_n hx hb dX1_reach_52 rfl (lv_at hl 4 rfl) ?_
    refine getF (v := .ref (qt 0)) hx hb ht hown hK hP iTX1 0 0 rfl rfl (by decide) fl_RX1_11 rfl dX1_reach_53 ?_
    refine lv_iload hx hb dX1_reach_56 (lv_at hl 0 rfl) ?_
    refine va_lald hx hb hK.1 hP 1 2 rfl rfl (inK rfl (by omega) (by decide)) dX1_reach_58 ?_
    refine lv_topl (fun v15 ev15 => ?_)
    have ev15 : v15 = (Bt 0) v12.toNatClampNeg := ev15
    refine lv_lload hx hb dX1_reach_59 (lv_at hl 1 rfl) ?_
    refine lv_land hx hb dX1_reach_61 ?_
    refine lv_topl (fun v16 ev16 => ?_)
    refine lv_lconst (v := 0) hx hb dX1_reach_62 (by decide) ?_
    refine W.lcmp hx hb dX1_reach_63 ?_
    refine lv_topi (fun v17 ev17 => ?_)
    refine lv_if_eq (tgt := 68) hx hb dX1_reach_64 (by decide) (fun c18 => ?_) (fun c18 => ?_)
    · have zc18 := eqK rfl (show (0 : Int32).toInt = 0 by decide) c18
      have yc18 := cmpEQ rfl (show (0 : Int64).toInt = 0 by decide) ev17 (by omega)
      refine lv_aload_n hx hb dX1_reach_68 rfl (lv_at hl 4 rfl) ?_
      refine getF (v := .ref (qt 0)) hx hb ht hown hK hP iTX1 0 0 rfl rfl (by decide) fl_RX1_11 rfl dX1_reach_69 ?_
      refine lv_iload hx hb dX1_reach_72 (lv_at hl 0 rfl) ?_
      refine lv_dup2_11 hx hb dX1_reach_74 rfl rfl ?_
      refine va_lald hx hb hK.1 hP 1 2 rfl rfl (inK rfl (by omega) (by decide)) dX1_reach_75 ?_
      refine lv_topl (fun v19 ev19 => ?_)
      have ev19 : v19 = (Bt 0) v12.toNatClampNeg := ev19
      refine lv_lload hx hb dX1_reach_76 (lv_at hl 1 rfl) ?_
      refine lv_lor hx hb dX1_reach_78 ?_
      refine lv_topl (fun v20 ev20 => ?_)
      refine va_last hx hb hK.1 hP hD hS 1 2 rfl rfl (inK rfl (by omega) (by decide)) dX1_reach_79 (fun H locs hP hD hS => ?_)
      obtain ⟨g21, hP, hD⟩ : ∃ g21 : Nat → Int64, va_P G vwCl (uX1 cs adt qt Ft At (vB 0 g21 Bt) Dt) H ∧ va_D A0 (uX1 cs adt qt Ft At (vB 0 g21 Bt) Dt) := ⟨vp_updL (Bt 0) v12.toNatClampNeg v20, hP, hD⟩
      refine lv_aload_n hx hb dX1_reach_80 rfl (lv_at hl 4 rfl) ?_
      refine getF (v := .ref (qt 1)) hx hb ht hown hK hP iTX1 0 1 rfl rfl (by decide) fl_RX1_15 rfl dX1_reach_81 ?_
      refine lv_aload_n hx hb dX1_reach_84 rfl (lv_at hl 4 rfl) ?_
      refine getF (v := .int (Ft 5)) hx hb ht hown hK hP iTX1 0 5 rfl rfl (by decide) fl_RX1_38 rfl dX1_reach_85 ?_
      have zf22 : (0 : Int) ≤ (Ft 5).toInt ∧ (Ft 5).toInt ≤ 1792 := hIt.1 5
      refine lv_iload hx hb dX1_reach_88 (lv_at hl 2 rfl) ?_
      refine lv_sipush (v := 128) hx hb dX1_reach_90 (by decide) ?_
      refine lv_imul hx hb dX1_reach_93 ?_
      refine lv_topi (fun v23 ev23 => ?_)
      have tv23 : v23.toInt = v7.toInt * 128 := by rw [ev23]; exact mulT rfl (show (128 : Int32).toInt = 128 by decide) (by omega)
      refine lv_iload hx hb dX1_reach_94 (lv_at hl 3 rfl) ?_
      refine lv_iadd hx hb dX1_reach_96 ?_
      refine lv_topi (fun v24 ev24 => ?_)
      have tv24 : v24.toInt = v23.toInt + v5.toInt := by rw [ev24]; exact addT rfl rfl (by omega)
      refine va_iast hx hb hK.1 hP hD hS 2 0 rfl rfl (inK rfl (by omega) (by decide)) dX1_reach_97 (fun H locs hP hD hS => ?_)
      have hP : va_P G vwCl (uX1 cs adt qt Ft (vB 1 (upd (At 1) (Ft 5).toNatClampNeg v24) At) (vB 0 g21 Bt) Dt) H := hP
      have hD : va_D A0 (uX1 cs adt qt Ft (vB 1 (upd (At 1) (Ft 5).toNatClampNeg v24) At) (vB 0 g21 Bt) Dt) := hD
      obtain ⟨g25, eg25⟩ : ∃ z : Nat → Int32, z = upd (At 1) (Ft 5).toNatClampNeg v24 := ⟨_, rfl⟩
      rw [← eg25] at hP hD
      have hg25 : AJ (0) 6271 g25 := by rw [eg25]; exact AJ_upd (fun j => hIt.2 1 j) (show (0 : Int) ≤ v24.toInt ∧ v24.toInt ≤ 6271 by omega)
      refine lv_aload_n hx hb dX1_reach_98 rfl (lv_at hl 4 rfl) ?_
      refine getF (v := .ref (qt 2)) hx hb ht hown hK hP iTX1 0 2 rfl rfl (by decide) fl_RX1_19 rfl dX1_reach_99 ?_
      refine lv_aload_n hx hb dX1_reach_102 rfl (lv_at hl 4 rfl) ?_
      refine getF (v := .int (Ft 5)) hx hb ht hown hK hP iTX1 0 5 rfl rfl (by decide) fl_RX1_38 rfl dX1_reach_103 ?_
      have zf26 : (0 : Int) ≤ (Ft 5).toInt ∧ (Ft 5).toInt ≤ 1792 := hIt.1 5
      refine lv_iload hx hb dX1_reach_106 (lv_at hl 8 rfl) ?_
      refine va_iast hx hb hK.1 hP hD hS 3 0 rfl rfl (inK rfl (by omega) (by decide)) dX1_reach_108 (fun H locs hP hD hS => ?_)
      have hP : va_P G vwCl (uX1 cs adt qt Ft (vB 2 (upd (At 2) (Ft 5).toNatClampNeg a4) (vB 1 g25 At)) (vB 0 g21 Bt) Dt) H := hP
      have hD : va_D A0 (uX1 cs adt qt Ft (vB 2 (upd (At 2) (Ft 5).toNatClampNeg a4) (vB 1 g25 At)) (vB 0 g21 Bt) Dt) := hD
      obtain ⟨g27, eg27⟩ : ∃ z : Nat → Int32, z = upd (At 2) (Ft 5).toNatClampNeg a4 := ⟨_, rfl⟩
      rw [← eg27] at hP hD
      have hg27 : AJ (-1) 1791 g27 := by rw [eg27]; exact AJ_upd (fun j => hIt.2 2 j) (show (-1 : Int) ≤ a4.toInt ∧ a4.toInt ≤ 1791 by omega)
      refine lv_iload hx hb dX1_reach_109 (lv_at hl 3 rfl) ?_
      have B130 : ∀ (ft6_130 : Int32) (H : Heap) (locs : List Loc) (ls : Array Slot), (-1 : Int) ≤ ft6_130.toInt ∧ ft6_130.toInt ≤ 1791 → va_P G vwCl (uX1 cs adt qt (upv 6 ft6_130 Ft) (vB 2 g27 (vB 1 g25 At)) (vB 0 g21 Bt) Dt) H → va_D A0 (uX1 cs adt qt (upv 6 ft6_130 Ft) (vB 2 g27 (vB 1 g25 At)) (vB 0 g21 Bt) Dt) → va_S A0 s.heap H locs → lv_has ls 10 [(0, .ref adt)] → W p l e (rmk 0 0 0) s m args below meth c H locs 0 0 (MQ below ((QDw G (fun u : Int32 × Int32 × (Nat → Int32) × (Nat → Int32) × (Nat → Int64) => ((0 : Int) ≤ u.1.toInt ∧ u.1.toInt ≤ 1792) ∧ ((-1 : Int) ≤ u.2.1.toInt ∧ u.2.1.toInt ≤ 1791) ∧ AJ (0) 6271 u.2.2.1 ∧ AJ (-1) 1791 u.2.2.2.1 ∧ (True)) (fun u : Int32 × Int32 × (Nat → Int32) × (Nat → Int32) × (Nat → Int64) => (wX1 cs adt qt (upd (upd Ft 5 u.1) 6 u.2.1) (vA (vA At 1 u.2.2.1) 2 u.2.2.2.1) (vA Bt 0 u.2.2.2.2) Dt))) A0) args s 0 0 A0) (F0 m 130 ls []) := by
        intro ft6_130 H locs ls hft6_130 hP hD hS hl
        refine lv_aload_n hx hb dX1_reach_130 rfl (lv_at hl 0 rfl) ?_
        refine lv_dup hx hb dX1_reach_131 rfl ?_
        refine getF (v := .int (Ft 5)) hx hb ht hown hK hP iTX1 0 5 rfl rfl (by decide) fl_RX1_38 rfl dX1_reach_132 ?_
        have zf80001 : (0 : Int) ≤ (Ft 5).toInt ∧ (Ft 5).toInt ≤ 1792 := hIt.1 5
        refine lv_iconst (v := 1) hx hb dX1_reach_135 (by decide) ?_
        refine lv_iadd hx hb dX1_reach_136 ?_
        refine lv_topi (fun v80002 ev80002 => ?_)
        have tv80002 : v80002.toInt = (Ft 5).toInt + 1 := by rw [ev80002]; exact addT rfl (show (1 : Int32).toInt = 1 by decide) (by omega)
        refine putD hx hb ht hown hK hP hD hS iTX1 tyX1 tyX1_ok nmX1 0 5 rfl rfl (by decide) fl_RX1_38 rfl rfl rfl (Nat.le_of_ble_eq_true rfl) dX1_reach_137 (fun H locs hP hD hS => ?_)
        have hP : va_P G vwCl (uX1 cs adt qt (upv 6 ft6_130 (upv 5 v80002 Ft)) (vB 2 g27 (vB 1 g25 At)) (vB 0 g21 Bt) Dt) H := hP
        have hD : va_D A0 (uX1 cs adt qt (upv 6 ft6_130 (upv 5 v80002 Ft)) (vB 2 g27 (vB 1 g25 At)) (vB 0 g21 Bt) Dt) := hD
        exact retDw (v80002, ft6_130, g25, g27, g21) hx hb hr hlk hP hD hS dX1_reach_140 (⟨show (0 : Int) ≤ v80002.toInt ∧ v80002.toInt ≤ 1792 by omega, show (-1 : Int) ≤ ft6_130.toInt ∧ ft6_130.toInt ≤ 1791 by omega, hg25, hg27, trivial⟩) (Nat.le_of_ble_eq_true rfl) (Nat.le_of_ble_eq_true rfl)
      refine lv_if_ne (tgt := 130) hx hb dX1_reach_111 (by decide) (fun c28 => ?_) (fun c28 => ?_)
      · have zc28 := neK rfl (show (0 : Int32).toInt = 0 by decide) c28
        exact B130 (Ft 6) H locs ls (hIt.1 6) hP hD hS (lv_sub hl [4] rfl)
      · have zc28 := eqK rfl (show (0 : Int32).toInt = 0 by decide) c28
        refine lv_aload_n hx hb dX1_reach_114 rfl (lv_at hl 4 rfl) ?_
        refine getF (v := .int (Ft 6)) hx hb ht hown hK hP iTX1 0 6 rfl rfl (by decide) fl_RX1_28 rfl dX1_reach_115 ?_
        have zf29 : (-1 : Int) ≤ (Ft 6).toInt ∧ (Ft 6).toInt ≤ 1791 := hIt.1 6
        refine lv_iconst (v := (-1)) hx hb dX1_reach_118 (by decide) ?_
        refine lv_icmp_ne (tgt := 130) hx hb dX1_reach_119 (by decide) (fun c30 => ?_) (fun c30 => ?_)
        · have zc30 := neK rfl (show (-1 : Int32).toInt = (-1) by decide) c30
          exact B130 (Ft 6) H locs ls (hIt.1 6) hP hD hS (lv_sub hl [4] rfl)
        · have zc30 := eqK rfl (show (-1 : Int32).toInt = (-1) by decide) c30
          refine lv_aload_n hx hb dX1_reach_122 rfl (lv_at hl 4 rfl) ?_
          refine lv_aload_n hx hb dX1_reach_123 rfl (lv_at hl 4 rfl) ?_
          refine getF (v := .int (Ft 5)) hx hb ht hown hK hP iTX1 0 5 rfl rfl (by decide) fl_RX1_38 rfl dX1_reach_124 ?_
          have zf31 : (0 : Int) ≤ (Ft 5).toInt ∧ (Ft 5).toInt ≤ 1792 := hIt.1 5
          refine putD hx hb ht hown hK hP hD hS iTX1 tyX1 tyX1_ok nmX1 0 6 rfl rfl (by decide) fl_RX1_28 rfl rfl rfl (Nat.le_of_ble_eq_true rfl) dX1_reach_127 (fun H locs hP hD hS => ?_)
          have hP : va_P G vwCl (uX1 cs adt qt (upv 6 (Ft 5) Ft) (vB 2 g27 (vB 1 g25 At)) (vB 0 g21 Bt) Dt) H := hP
          have hD : va_D A0 (uX1 cs adt qt (upv 6 (Ft 5) Ft) (vB 2 g27 (vB 1 g25 At)) (vB 0 g21 Bt) Dt) := hD
          exact B130 (Ft 5) H locs ls (by omega) hP hD hS (lv_sub hl [4] rfl)
    · have zc18 := neK rfl (show (0 : Int32).toInt = 0 by decide) c18
      have yc18 := cmpEQn rfl (show (0 : Int64).toInt = 0 by decide) ev17 (by omega)
      exact retDw ((Ft 5), (Ft 6), (At 1), (At 2), (Bt 0)) hx hb hr hlk hP hD hS dX1_reach_67 (⟨hIt.1 5, hIt.1 6, fun j => hIt.2 1 j, fun j => hIt.2 2 j, trivial⟩) (Nat.le_of_ble_eq_true rfl) (Nat.le_of_ble_eq_true rfl)

