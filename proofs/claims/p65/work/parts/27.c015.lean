set_option maxRecDepth 100000 in
set_option maxHeartbeats 16000000 in
theorem sX2_next (l : Launch) (G : va_G) (cs : Nat → ClassId) (adt : Nat) (qt : Nat → Nat) (Ft : Nat → Int32) (At : Nat → Nat → Int32) (Bt : Nat → Nat → Int64) (Dt : Int64) (hIt : IX2 Ft At) (a1 : Int32) : ∀ sz : Nat, Met l yX2_next (wk yX2_next cX2_next 2 (some .int)) (rmk 0 0 0) (PreD G (TY cs) [.ref adt, .int a1] (uX2 cs adt qt Ft At Bt Dt) sz) ((QDi G (fun (r : Int32) (u : Int64) => True) (fun u : Int64 => (wX2 cs adt qt Ft At Bt u))) (va_A (uX2 cs adt qt Ft At Bt Dt) sz)) 0 0 (va_A (uX2 cs adt qt Ft At Bt Dt) sz) := by
  refine mkD (Qc := (QDi G (fun (r : Int32) (u : Int64) => True) (fun u : Int64 => (wX2 cs adt qt Ft At Bt u)))) (by decide) (by simp [lg_sl, Value.category]) ?_
  intro p e s m args below meth c ls A0 hx hb hml hr hlk hown hmn ht hK hP hD hS hA hl
  have hl : lv_has ls 2 [(0, .ref adt), (1, .int a1)] := hl
  refine lv_aload_n hx hb dX2_next_0 rfl (lv_at hl 0 rfl) ?_
  refine lv_ldc2 hx hb hown (ht _ kl_RX2_72) dX2_next_1 ?_
  refine lv_aload_n hx hb dX2_next_4 rfl (lv_at hl 0 rfl) ?_
  refine getF (v := .long Dt) hx hb ht hown hK hP iTX2 0 0 rfl rfl (by decide) fl_RX2_9 rfl dX2_next_5 ?_
  refine lv_lmul hx hb dX2_next_8 ?_
  refine lv_topl (fun v1 ev1 => ?_)
  refine lv_ldc2 hx hb hown (ht _ kl_RX2_74) dX2_next_9 ?_
  refine lv_ladd hx hb dX2_next_12 ?_
  refine lv_topl (fun v2 ev2 => ?_)
  refine lv_ldc2 hx hb hown (ht _ kl_RX2_76) dX2_next_13 ?_
  refine lv_lrem hx hb dX2_next_16 (by decide) ?_
  refine lv_topl (fun v3 ev3 => ?_)
  refine putD hx hb ht hown hK hP hD hS iTX2 tyX2 tyX2_ok nmX2 0 0 rfl rfl (by decide) fl_RX2_9 rfl rfl rfl (Nat.le_of_ble_eq_true rfl) dX2_next_17 (fun H locs hP hD hS => ?_)
  have hP : va_P G vwCl (uX2 cs adt qt Ft At Bt v3) H := hP
  have hD : va_D A0 (uX2 cs adt qt Ft At Bt v3) := hD
  refine lv_iload_n hx hb dX2_next_20 rfl (lv_at hl 1 rfl) ?_
  refine lv_iconst (v := 1) hx hb dX2_next_21 (by decide) ?_
  refine lv_icmp_ge (tgt := 29) hx hb dX2_next_22 (by decide) (fun c4 => ?_) (fun c4 => ?_)
  · have zc4 := leK (show (1 : Int32).toInt = 1 by decide) rfl c4
    refine lv_aload_n hx hb dX2_next_29 rfl (lv_at hl 0 rfl) ?_
    refine getF (v := .long v3) hx hb ht hown hK hP iTX2 0 0 rfl rfl (by decide) fl_RX2_9 rfl dX2_next_30 ?_
    refine lv_ldc2 hx hb hown (ht _ kl_RX2_78) dX2_next_33 ?_
    refine lv_ldiv hx hb dX2_next_36 (by decide) ?_
    refine lv_topl (fun v5 ev5 => ?_)
    refine lv_iload_n hx hb dX2_next_37 rfl (lv_at hl 1 rfl) ?_
    refine lv_i2l hx hb dX2_next_38 rfl ?_
    have bb6 := i32b a1
    refine lv_topl (fun v7 ev7 => ?_)
    have tv7 : v7.toInt = a1.toInt := by rw [ev7]; exact Int32.toInt_toInt64 _
    refine lv_lrem hx hb dX2_next_39 (n0L rfl (by omega)) ?_
    refine lv_topl (fun v8 ev8 => ?_)
    have uv8 : v8.toInt.natAbs < v7.toInt.natAbs := by rw [ev8]; exact remN (by omega)
    refine lv_l2i hx hb dX2_next_40 rfl ?_
    refine lv_topi (fun v9 ev9 => ?_)
    exact retDi v3 hx hb hr hlk hP hD hS dX2_next_41 (trivial) (Nat.le_of_ble_eq_true rfl) (Nat.le_of_ble_eq_true rfl)
  · have zc4 := nleK (show (1 : Int32).toInt = 1 by decide) rfl c4
    refine lv_iconst (v := 0) hx hb dX2_next_25 (by decide) ?_
    refine lv_goto (tgt := 41) hx hb dX2_next_26 (by decide) ?_
    exact retDi v3 hx hb hr hlk hP hD hS dX2_next_41 (trivial) (Nat.le_of_ble_eq_true rfl) (Nat.le_of_ble_eq_true rfl)

set_option maxRecDepth 100000 in
set_option maxHeartbeats 16000000 in
theorem sX2_takeSeat (l : Launch) (G : va_G) (cs : Nat → ClassId) (adt : Nat) (qt : Nat → Nat) (Ft : Nat → Int32) (At : Nat → Nat → Int32) (Bt : Nat → Nat → Int64) (Dt : Int64) (hIt : IX2 Ft At) (adh : Nat) (qh : Nat → Nat) (Fh : Nat → Int32) (Ah : Nat → Nat → Int32) (Bh : Nat → Nat → Int64) (Dh : Int64) (hIh : IX3 Fh Ah) : ∀ sz : Nat, Met l yX2_takeSeat (wk yX2_takeSeat cX2_takeSeat 6 (some .int)) (rmk 1 0 0) (PreD G (TY cs) [.ref adt, .ref adh] ((uX2 cs adt qt Ft At Bt Dt) ++ (uX3 cs adh qh Fh Ah Bh Dh)) sz) ((QDi G (fun (r : Int32) (u : Int64) => (-1 : Int) ≤ r.toInt ∧ r.toInt ≤ 6) (fun u : Int64 => ((wX2 cs adt qt Ft At Bt u) ++ (uX3 cs adh qh Fh Ah Bh Dh)))) (va_A ((uX2 cs adt qt Ft At Bt Dt) ++ (uX3 cs adh qh Fh Ah Bh Dh)) sz)) 0 0 (va_A ((uX2 cs adt qt Ft At Bt Dt) ++ (uX3 cs adh qh Fh Ah Bh Dh)) sz) := by
  refine mkD (Qc := (QDi G (fun (r : Int32) (u : Int64) => (-1 : Int) ≤ r.toInt ∧ r.toInt ≤ 6) (fun u : Int64 => ((wX2 cs adt qt Ft At Bt u) ++ (uX3 cs adh qh Fh Ah Bh Dh))))) (by decide) (by simp [lg_sl, Value.category]) ?_
  intro p e s m args below meth c ls A0 hx hb hml hr hlk hown hmn ht hK hP hD hS hA hl
  have hl : lv_has ls 6 [(0, .ref adt), (1, .ref adh)] := hl
  refine lv_aload_n hx hb dX2_takeSeat_0 rfl (lv_at hl 0 rfl) ?_
  refine lv_bipush (v := 100) hx hb dX2_takeSeat_1 (by decide) ?_
  refine behDi (wr := (uX3 cs adh qh Fh Ah Bh Dh)) (runVD (As := [.int 100]) (rest := []) ⟨hx, hb, hml, hown, ht⟩ (sX2_next l G cs adt qt Ft At Bt Dt hIt 100 ) okV_RX2_35 ⟨by decide, by decide⟩ hK hP hD [0] rfl (by decide) rfl 0 rfl rfl hl.1 rfl (Nat.le_of_ble_eq_true rfl) dX2_takeSeat_3 ⟨(Nat.le_of_ble_eq_true rfl), (Nat.le_of_ble_eq_true rfl)⟩) hP hD hS hA [0] [1, 2, 3, 4, 5, 6, 7, 8] rfl rfl (by decide) (by decide) (fun r9 u H locs hu hP hD hS => ?_)
  obtain ⟨d1, rfl⟩ : ∃ z, z = u := ⟨_, rfl⟩
  obtain ⟨r2, rfl⟩ : ∃ z, z = r9 := ⟨_, rfl⟩
  have hr2 := hu
  have hP : va_P G vwCl ((uX2 cs adt qt Ft At Bt d1) ++ (uX3 cs adh qh Fh Ah Bh Dh)) H := hP.sub [8, 0, 1, 2, 3, 4, 5, 6, 7] rfl
  have hD : va_D A0 ((uX2 cs adt qt Ft At Bt d1) ++ (uX3 cs adh qh Fh Ah Bh Dh)) := hD.sub [8, 0, 1, 2, 3, 4, 5, 6, 7] (by decide) rfl
  refine lv_aload_n hx hb dX2_takeSeat_6 rfl (lv_at hl 1 rfl) ?_
  refine getF (v := .int (Fh 2)) hx hb ht hown hK hP iTX3 1 2 rfl rfl (by decide) fl_RX2_48 rfl dX2_takeSeat_7 ?_
  refine lv_icmp_lt (tgt := 15) hx hb dX2_takeSeat_10 (by decide) (fun c3 => ?_) (fun c3 => ?_)
  · have zc3 := ltK rfl rfl c3
    refine lv_aload_n hx hb dX2_takeSeat_15 rfl (lv_at hl 1 rfl) ?_
    refine behR (runVP (As := []) (rest := []) ⟨hx, hb, hml, hown, ht⟩ (sX3_allSits l G cs adh qh Fh Ah Bh Dh hIh ) okV_RX2_51 ⟨by decide, by decide⟩ hK hP [1, 2, 3, 4, 5, 6, 7, 8] rfl 1 rfl rfl hl.1 rfl (Nat.le_of_ble_eq_true rfl) dX2_takeSeat_16 ⟨by decide, by decide⟩) hP hS hA (fun r4 H locs hr4 hP hS => ?_)
    refine lv_istore_n (lv' := [(2, .int r4), (0, .ref adt), (1, .ref adh)]) hx hb dX2_takeSeat_19 rfl hl (by decide) rfl (fun ls hl => ?_)
    refine lv_iload_n hx hb dX2_takeSeat_20 rfl (lv_at hl 0 rfl) ?_
    refine lv_if_ne (tgt := 26) hx hb dX2_takeSeat_21 (by decide) (fun c5 => ?_) (fun c5 => ?_)
    · have zc5 := neK rfl (show (0 : Int32).toInt = 0 by decide) c5
      refine lv_aload_n hx hb dX2_takeSeat_26 rfl (lv_at hl 1 rfl) ?_
      refine lv_iload_n hx hb dX2_takeSeat_27 rfl (lv_at hl 0 rfl) ?_
      refine behDi (wr := (uX3 cs adh qh Fh Ah Bh Dh)) (runVD (As := [.int r4]) (rest := []) ⟨hx, hb, hml, hown, ht⟩ (sX2_next l G cs adt qt Ft At Bt d1 hIt r4 ) okV_RX2_35 ⟨by decide, by decide⟩ hK hP hD [0] rfl (by decide) rfl 0 rfl rfl hl.1 rfl (Nat.le_of_ble_eq_true rfl) dX2_takeSeat_28 ⟨(Nat.le_of_ble_eq_true rfl), (Nat.le_of_ble_eq_true rfl)⟩) hP hD hS hA [0] [1, 2, 3, 4, 5, 6, 7, 8] rfl rfl (by decide) (by decide) (fun r9 u H locs hu hP hD hS => ?_)
      obtain ⟨d6, rfl⟩ : ∃ z, z = u := ⟨_, rfl⟩
      obtain ⟨r7, rfl⟩ : ∃ z, z = r9 := ⟨_, rfl⟩
      have hr7 := hu
      have hP : va_P G vwCl ((uX2 cs adt qt Ft At Bt d6) ++ (uX3 cs adh qh Fh Ah Bh Dh)) H := hP.sub [8, 0, 1, 2, 3, 4, 5, 6, 7] rfl
      have hD : va_D A0 ((uX2 cs adt qt Ft At Bt d6) ++ (uX3 cs adh qh Fh Ah Bh Dh)) := hD.sub [8, 0, 1, 2, 3, 4, 5, 6, 7] (by decide) rfl
      refine lv_istore_n (lv' := [(3, .int r7), (2, .int r4), (0, .ref adt), (1, .ref adh)]) hx hb dX2_takeSeat_31 rfl hl (by decide) rfl (fun ls hl => ?_)
      refine lv_iconst (v := 0) hx hb dX2_takeSeat_32 (by decide) ?_
      refine lv_istore (lv' := [(4, .int 0), (3, .int r7), (2, .int r4), (0, .ref adt), (1, .ref adh)]) hx hb dX2_takeSeat_33 hl (by decide) rfl (fun ls hl => ?_)
      refine lv_iconst (v := 0) hx hb dX2_takeSeat_35 (by decide) ?_
      refine lv_istore (lv' := [(5, .int 0), (4, .int 0), (3, .int r7), (2, .int r4), (0, .ref adt), (1, .ref adh)]) hx hb dX2_takeSeat_36 hl (by decide) rfl (fun ls hl => ?_)
      have B38 : ∀ (n : Nat) (x38_4 : Int32) (x38_5 : Int32) (H : Heap) (locs : List Loc) (ls : Array Slot), (7 - x38_5.toInt).toNat < n → (0 : Int) ≤ x38_5.toInt ∧ x38_5.toInt ≤ 7 → va_P G vwCl ((uX2 cs adt qt Ft At Bt d6) ++ (uX3 cs adh qh Fh Ah Bh Dh)) H → va_D A0 ((uX2 cs adt qt Ft At Bt d6) ++ (uX3 cs adh qh Fh Ah Bh Dh)) → va_S A0 s.heap H locs → lv_has ls 6 [(1, .ref adh), (3, .int r7), (4, .int x38_4), (5, .int x38_5)] → W p l e (rmk 1 0 0) s m args below meth c H locs 0 0 (MQ below ((QDi G (fun (r : Int32) (u : Int64) => (-1 : Int) ≤ r.toInt ∧ r.toInt ≤ 6) (fun u : Int64 => ((wX2 cs adt qt Ft At Bt u) ++ (uX3 cs adh qh Fh Ah Bh Dh)))) A0) args s 0 0 A0) (F0 m 38 ls []) := by
        intro n
        induction n with
        | zero => intro x38_4 x38_5 H locs ls hmeas hx38_5 hP hD hS hl; exact absurd hmeas (Nat.not_lt_zero _)
        | succ n ih38 =>
          intro x38_4 x38_5 H locs ls hmeas hx38_5 hP hD hS hl
          refine lv_iload hx hb dX2_takeSeat_38 (lv_at hl 3 rfl) ?_
          refine lv_aload_n hx hb dX2_takeSeat_40 rfl (lv_at hl 0 rfl) ?_
          refine getF (v := .int (Fh 5)) hx hb ht hown hK hP iTX3 1 5 rfl rfl (by decide) fl_RX2_55 rfl dX2_takeSeat_41 ?_
          have zf24001 : (0 : Int) ≤ (Fh 5).toInt ∧ (Fh 5).toInt ≤ 7 := hIh.1 5
          refine lv_icmp_ge (tgt := 74) hx hb dX2_takeSeat_44 (by decide) (fun c24002 => ?_) (fun c24002 => ?_)
          · have zc24002 := leK rfl rfl c24002
            refine lv_iconst (v := (-1)) hx hb dX2_takeSeat_74 (by decide) ?_
            exact retDi d6 hx hb hr hlk hP hD hS dX2_takeSeat_75 (show (-1 : Int) ≤ (-1 : Int32).toInt ∧ (-1 : Int32).toInt ≤ 6 by have kk : (-1 : Int32).toInt = -1 := (by decide); omega) (Nat.le_of_ble_eq_true rfl) (Nat.le_of_ble_eq_true rfl)
          · have zc24002 := nleK rfl rfl c24002
            refine lv_iload hx hb dX2_takeSeat_47 (lv_at hl 2 rfl) ?_
            refine lv_aload_n hx hb dX2_takeSeat_49 rfl (lv_at hl 0 rfl) ?_
            refine getF (v := .ref (qh 9)) hx hb ht hown hK hP iTX3 1 9 rfl rfl (by decide) fl_RX2_58 rfl dX2_takeSeat_50 ?_
            refine lv_iload hx hb dX2_takeSeat_53 (lv_at hl 3 rfl) ?_
            refine va_iald hx hb hK.1 hP 4 0 rfl rfl (inK rfl (by omega) (by decide)) dX2_takeSeat_55 ?_
            refine lv_topi (fun v24003 ev24003 => ?_)
            refine lv_iadd hx hb dX2_takeSeat_56 ?_
            refine lv_topi (fun v24004 ev24004 => ?_)
            refine lv_istore (lv' := [(4, .int v24004), (1, .ref adh), (3, .int r7), (5, .int x38_5)]) hx hb dX2_takeSeat_57 hl (by decide) rfl (fun ls hl => ?_)
            refine lv_iload hx hb dX2_takeSeat_59 (lv_at hl 0 rfl) ?_
            refine lv_iload_n hx hb dX2_takeSeat_61 rfl (lv_at hl 2 rfl) ?_
            refine lv_icmp_le (tgt := 68) hx hb dX2_takeSeat_62 (by decide) (fun c24005 => ?_) (fun c24005 => ?_)
            · have zc24005 := leK rfl rfl c24005
              obtain ⟨v24006, ev24006⟩ : ∃ z : Int32, z = x38_5 + 1 := ⟨_, rfl⟩
              have tv24006 : v24006.toInt = x38_5.toInt + 1 := by rw [ev24006]; exact addT rfl (by decide) (by omega)
              refine lv_iinc (v := v24006) (lv' := [(5, .int v24006), (4, .int v24004), (1, .ref adh), (3, .int r7)]) hx hb dX2_takeSeat_68 hl (k := 3) rfl (by rw [ev24006]; rfl) (by decide) rfl (fun ls hl => ?_)
              refine lv_goto (tgt := 38) hx hb dX2_takeSeat_71 (by decide) ?_
              exact ih38 v24004 v24006 H locs ls (by omega) (by omega) hP hD hS (lv_sub hl [2, 3, 1, 0] rfl)
            · have zc24005 := nleK rfl rfl c24005
              refine lv_iload hx hb dX2_takeSeat_65 (lv_at hl 3 rfl) ?_
              exact retDi d6 hx hb hr hlk hP hD hS dX2_takeSeat_67 (show (-1 : Int) ≤ x38_5.toInt ∧ x38_5.toInt ≤ 6 by omega) (Nat.le_of_ble_eq_true rfl) (Nat.le_of_ble_eq_true rfl)
      exact B38 _ 0 0 H locs ls (Nat.lt_succ_self _) (by decide) hP hD hS (lv_sub hl [5, 2, 1, 0] rfl)
    · have zc5 := eqK rfl (show (0 : Int32).toInt = 0 by decide) c5
      refine lv_iconst (v := (-1)) hx hb dX2_takeSeat_24 (by decide) ?_
      exact retDi d1 hx hb hr hlk hP hD hS dX2_takeSeat_25 (show (-1 : Int) ≤ (-1 : Int32).toInt ∧ (-1 : Int32).toInt ≤ 6 by have kk : (-1 : Int32).toInt = -1 := (by decide); omega) (Nat.le_of_ble_eq_true rfl) (Nat.le_of_ble_eq_true rfl)
  · have zc3 := nltK rfl rfl c3
    refine lv_iconst (v := (-1)) hx hb dX2_takeSeat_13 (by decide) ?_
    exact retDi d1 hx hb hr hlk hP hD hS dX2_takeSeat_14 (show (-1 : Int) ≤ (-1 : Int32).toInt ∧ (-1 : Int32).toInt ≤ 6 by have kk : (-1 : Int32).toInt = -1 := (by decide); omega) (Nat.le_of_ble_eq_true rfl) (Nat.le_of_ble_eq_true rfl)

set_option maxRecDepth 100000 in
set_option maxHeartbeats 16000000 in
theorem sX2_move (l : Launch) (G : va_G) (cs : Nat → ClassId) (adt : Nat) (qt : Nat → Nat) (Ft : Nat → Int32) (At : Nat → Nat → Int32) (Bt : Nat → Nat → Int64) (Dt : Int64) (hIt : IX2 Ft At) (adh : Nat) (qh : Nat → Nat) (Fh : Nat → Int32) (Ah : Nat → Nat → Int32) (Bh : Nat → Nat → Int64) (Dh : Int64) (hIh : IX3 Fh Ah) (hpl : 0 ≤ (Ft 2).toInt) : ∀ sz : Nat, Met l yX2_move (wk yX2_move cX2_move 5 none) (rmk 1 0 0) (PreD G (TY cs) [.ref adt, .ref adh] ((uX2 cs adt qt Ft At Bt Dt) ++ (uX3 cs adh qh Fh Ah Bh Dh)) sz) ((QDw G (fun u : Int32 × Int64 => ((-1 : Int) ≤ u.1.toInt ∧ u.1.toInt ≤ 6) ∧ (True)) (fun u : Int32 × Int64 => ((wX2 cs adt qt (upd Ft 2 u.1) At Bt u.2) ++ (uX3 cs adh qh Fh Ah Bh Dh)))) (va_A ((uX2 cs adt qt Ft At Bt Dt) ++ (uX3 cs adh qh Fh Ah Bh Dh)) sz)) 0 0 (va_A ((uX2 cs adt qt Ft At Bt Dt) ++ (uX3 cs adh qh Fh Ah Bh Dh)) sz) := by
  refine mkD (Qc := (QDw G (fun u : Int32 × Int64 => ((-1 : Int) ≤ u.1.toInt ∧ u.1.toInt ≤ 6) ∧ (True)) (fun u : Int32 × Int64 => ((wX2 cs adt qt (upd Ft 2 u.1) At Bt u.2) ++ (uX3 cs adh qh Fh Ah Bh Dh))))) (by decide) (by simp [lg_sl, Value.category]) ?_
  intro p e s m args below meth c ls A0 hx hb hml hr hlk hown hmn ht hK hP hD hS hA hl
  have hl : lv_has ls 5 [(0, .ref adt), (1, .ref adh)] := hl
  refine lv_aload_n hx hb dX2_move_0 rfl (lv_at hl 1 rfl) ?_
  refine getF (v := .ref (qh 10)) hx hb ht hown hK hP iTX3 1 10 rfl rfl (by decide) fl_RX2_61 rfl dX2_move_1 ?_
  refine lv_aload_n hx hb dX2_move_4 rfl (lv_at hl 0 rfl) ?_
  refine getF (v := .int (Ft 2)) hx hb ht hown hK hP iTX2 0 2 rfl rfl (by decide) fl_RX2_23 rfl dX2_move_5 ?_
  have zf1 : (-1 : Int) ≤ (Ft 2).toInt ∧ (Ft 2).toInt ≤ 6 := hIt.1 2
  refine va_iald hx hb hK.1 hP 5 0 rfl rfl (inK rfl (by omega) (by decide)) dX2_move_8 ?_
  refine lv_topi (fun v2 ev2 => ?_)
  have zf3 : (0 : Int) ≤ v2.toInt ∧ v2.toInt ≤ 127 := by rw [ev2]; exact (hIh.2 10 _)
  refine lv_istore_n (lv' := [(2, .int v2), (0, .ref adt), (1, .ref adh)]) hx hb dX2_move_9 rfl hl (by decide) rfl (fun ls hl => ?_)
  refine lv_iload_n hx hb dX2_move_10 rfl (lv_at hl 0 rfl) ?_
  refine lv_if_eq (tgt := 27) hx hb dX2_move_11 (by decide) (fun c4 => ?_) (fun c4 => ?_)
  · have zc4 := eqK rfl (show (0 : Int32).toInt = 0 by decide) c4
    exact retDw ((Ft 2), Dt) hx hb hr hlk hP hD hS dX2_move_27 (⟨hIt.1 2, trivial⟩) (Nat.le_of_ble_eq_true rfl) (Nat.le_of_ble_eq_true rfl)
  · have zc4 := neK rfl (show (0 : Int32).toInt = 0 by decide) c4
    refine lv_aload_n hx hb dX2_move_14 rfl (lv_at hl 1 rfl) ?_
    refine lv_bipush (v := 100) hx hb dX2_move_15 (by decide) ?_
    refine behDi (wr := (uX3 cs adh qh Fh Ah Bh Dh)) (runVD (As := [.int 100]) (rest := []) ⟨hx, hb, hml, hown, ht⟩ (sX2_next l G cs adt qt Ft At Bt Dt hIt 100 ) okV_RX2_35 ⟨by decide, by decide⟩ hK hP hD [0] rfl (by decide) rfl 0 rfl rfl hl.1 rfl (Nat.le_of_ble_eq_true rfl) dX2_move_17 ⟨(Nat.le_of_ble_eq_true rfl), (Nat.le_of_ble_eq_true rfl)⟩) hP hD hS hA [0] [1, 2, 3, 4, 5, 6, 7, 8] rfl rfl (by decide) (by decide) (fun r9 u H locs hu hP hD hS => ?_)
    obtain ⟨d5, rfl⟩ : ∃ z, z = u := ⟨_, rfl⟩
    obtain ⟨r6, rfl⟩ : ∃ z, z = r9 := ⟨_, rfl⟩
    have hr6 := hu
    have hP : va_P G vwCl ((uX2 cs adt qt Ft At Bt d5) ++ (uX3 cs adh qh Fh Ah Bh Dh)) H := hP.sub [8, 0, 1, 2, 3, 4, 5, 6, 7] rfl
    have hD : va_D A0 ((uX2 cs adt qt Ft At Bt d5) ++ (uX3 cs adh qh Fh Ah Bh Dh)) := hD.sub [8, 0, 1, 2, 3, 4, 5, 6, 7] (by decide) rfl
    refine lv_aload_n hx hb dX2_move_20 rfl (lv_at hl 2 rfl) ?_
    refine getF (v := .int (Fh 1)) hx hb ht hown hK hP iTX3 1 1 rfl rfl (by decide) fl_RX2_64 rfl dX2_move_21 ?_
    refine lv_icmp_lt (tgt := 28) hx hb dX2_move_24 (by decide) (fun c7 => ?_) (fun c7 => ?_)
    · have zc7 := ltK rfl rfl c7
      refine lv_aload_n hx hb dX2_move_28 rfl (lv_at hl 1 rfl) ?_
      refine lv_iload_n hx hb dX2_move_29 rfl (lv_at hl 0 rfl) ?_
      refine behR (runTP (As := [.int v2]) (rest := [.ref adt]) ⟨hx, hb, hml, hown, ht⟩ (sJ6_bitCount_0f7a4 l G cs v2 ) okT_RX2_67 ⟨by decide, by decide⟩ hK hP [] rfl hl.1 rfl (Nat.le_of_ble_eq_true rfl) dX2_move_30 ⟨by decide, by decide⟩) hP hS hA (fun r8 H locs hr8 hP hS => ?_)
      refine behDi (wr := (uX3 cs adh qh Fh Ah Bh Dh)) (runVD (As := [.int r8]) (rest := []) ⟨hx, hb, hml, hown, ht⟩ (sX2_next l G cs adt qt Ft At Bt d5 hIt r8 ) okV_RX2_35 ⟨by decide, by decide⟩ hK hP hD [0] rfl (by decide) rfl 0 rfl rfl hl.1 rfl (Nat.le_of_ble_eq_true rfl) dX2_move_33 ⟨(Nat.le_of_ble_eq_true rfl), (Nat.le_of_ble_eq_true rfl)⟩) hP hD hS hA [0] [1, 2, 3, 4, 5, 6, 7, 8] rfl rfl (by decide) (by decide) (fun r9 u H locs hu hP hD hS => ?_)
      obtain ⟨d9, rfl⟩ : ∃ z, z = u := ⟨_, rfl⟩
      obtain ⟨r10, rfl⟩ : ∃ z, z = r9 := ⟨_, rfl⟩
      have hr10 := hu
      have hP : va_P G vwCl ((uX2 cs adt qt Ft At Bt d9) ++ (uX3 cs adh qh Fh Ah Bh Dh)) H := hP.sub [8, 0, 1, 2, 3, 4, 5, 6, 7] rfl
      have hD : va_D A0 ((uX2 cs adt qt Ft At Bt d9) ++ (uX3 cs adh qh Fh Ah Bh Dh)) := hD.sub [8, 0, 1, 2, 3, 4, 5, 6, 7] (by decide) rfl
      refine lv_istore_n (lv' := [(3, .int r10), (2, .int v2), (0, .ref adt), (1, .ref adh)]) hx hb dX2_move_36 rfl hl (by decide) rfl (fun ls hl => ?_)
      refine lv_iconst (v := 0) hx hb dX2_move_37 (by decide) ?_
      refine lv_istore (lv' := [(4, .int 0), (3, .int r10), (2, .int v2), (0, .ref adt), (1, .ref adh)]) hx hb dX2_move_38 hl (by decide) rfl (fun ls hl => ?_)
      have B40 : ∀ (n : Nat) (x40_3 : Int32) (x40_4 : Int32) (H : Heap) (locs : List Loc) (ls : Array Slot), (7 - x40_4.toInt).toNat < n → (0 : Int) ≤ x40_4.toInt ∧ x40_4.toInt ≤ 7 → va_P G vwCl ((uX2 cs adt qt Ft At Bt d9) ++ (uX3 cs adh qh Fh Ah Bh Dh)) H → va_D A0 ((uX2 cs adt qt Ft At Bt d9) ++ (uX3 cs adh qh Fh Ah Bh Dh)) → va_S A0 s.heap H locs → lv_has ls 5 [(0, .ref adt), (1, .ref adh), (2, .int v2), (3, .int x40_3), (4, .int x40_4)] → W p l e (rmk 1 0 0) s m args below meth c H locs 0 0 (MQ below ((QDw G (fun u : Int32 × Int64 => ((-1 : Int) ≤ u.1.toInt ∧ u.1.toInt ≤ 6) ∧ (True)) (fun u : Int32 × Int64 => ((wX2 cs adt qt (upd Ft 2 u.1) At Bt u.2) ++ (uX3 cs adh qh Fh Ah Bh Dh)))) A0) args s 0 0 A0) (F0 m 40 ls []) := by
        intro n
        induction n with
        | zero => intro x40_3 x40_4 H locs ls hmeas hx40_4 hP hD hS hl; exact absurd hmeas (Nat.not_lt_zero _)
        | succ n ih40 =>
          intro x40_3 x40_4 H locs ls hmeas hx40_4 hP hD hS hl
          refine lv_iload hx hb dX2_move_40 (lv_at hl 4 rfl) ?_
          refine lv_aload_n hx hb dX2_move_42 rfl (lv_at hl 1 rfl) ?_
          refine getF (v := .int (Fh 5)) hx hb ht hown hK hP iTX3 1 5 rfl rfl (by decide) fl_RX2_55 rfl dX2_move_43 ?_
          have zf22001 : (0 : Int) ≤ (Fh 5).toInt ∧ (Fh 5).toInt ≤ 7 := hIh.1 5
          refine lv_icmp_ge (tgt := 78) hx hb dX2_move_46 (by decide) (fun c22002 => ?_) (fun c22002 => ?_)
          · have zc22002 := leK rfl rfl c22002
            exact retDw ((Ft 2), d9) hx hb hr hlk hP hD hS dX2_move_78 (⟨hIt.1 2, trivial⟩) (Nat.le_of_ble_eq_true rfl) (Nat.le_of_ble_eq_true rfl)
          · have zc22002 := nleK rfl rfl c22002
            refine lv_iload_n hx hb dX2_move_49 rfl (lv_at hl 2 rfl) ?_
            refine lv_iload hx hb dX2_move_50 (lv_at hl 4 rfl) ?_
            refine lv_ishr hx hb dX2_move_52 ?_
            refine lv_topi (fun v22003 ev22003 => ?_)
            refine lv_iconst (v := 1) hx hb dX2_move_53 (by decide) ?_
            refine lv_iand hx hb dX2_move_54 ?_
            refine lv_topi (fun v22004 ev22004 => ?_)
            have tv22004 : 0 ≤ v22004.toInt ∧ v22004.toInt ≤ 1 := by rw [ev22004]; exact andT 1 (by decide) (by decide) (by decide)
            have B72 : ∀ (x72_3 : Int32) (H : Heap) (locs : List Loc) (ls : Array Slot), va_P G vwCl ((uX2 cs adt qt Ft At Bt d9) ++ (uX3 cs adh qh Fh Ah Bh Dh)) H → va_D A0 ((uX2 cs adt qt Ft At Bt d9) ++ (uX3 cs adh qh Fh Ah Bh Dh)) → va_S A0 s.heap H locs → lv_has ls 5 [(0, .ref adt), (1, .ref adh), (2, .int v2), (3, .int x72_3), (4, .int x40_4)] → W p l e (rmk 1 0 0) s m args below meth c H locs 0 0 (MQ below ((QDw G (fun u : Int32 × Int64 => ((-1 : Int) ≤ u.1.toInt ∧ u.1.toInt ≤ 6) ∧ (True)) (fun u : Int32 × Int64 => ((wX2 cs adt qt (upd Ft 2 u.1) At Bt u.2) ++ (uX3 cs adh qh Fh Ah Bh Dh)))) A0) args s 0 0 A0) (F0 m 72 ls []) := by
              intro x72_3 H locs ls hP hD hS hl
              obtain ⟨v39001, ev39001⟩ : ∃ z : Int32, z = x40_4 + 1 := ⟨_, rfl⟩
              have tv39001 : v39001.toInt = x40_4.toInt + 1 := by rw [ev39001]; exact addT rfl (by decide) (by omega)
              refine lv_iinc (v := v39001) (lv' := [(4, .int v39001), (0, .ref adt), (1, .ref adh), (2, .int v2), (3, .int x72_3)]) hx hb dX2_move_72 hl (k := 4) rfl (by rw [ev39001]; rfl) (by decide) rfl (fun ls hl => ?_)
              refine lv_goto (tgt := 40) hx hb dX2_move_75 (by decide) ?_
              exact ih40 x72_3 v39001 H locs ls (by omega) (by omega) hP hD hS (lv_sub hl [1, 2, 3, 4, 0] rfl)
            refine lv_if_eq (tgt := 72) hx hb dX2_move_55 (by decide) (fun c22005 => ?_) (fun c22005 => ?_)
            · have zc22005 := eqK rfl (show (0 : Int32).toInt = 0 by decide) c22005
              exact B72 x40_3 H locs ls hP hD hS (lv_sub hl [0, 1, 2, 3, 4] rfl)
            · have zc22005 := neK rfl (show (0 : Int32).toInt = 0 by decide) c22005
              refine lv_iload_n hx hb dX2_move_58 rfl (lv_at hl 3 rfl) ?_
              refine lv_if_ne (tgt := 69) hx hb dX2_move_59 (by decide) (fun c22006 => ?_) (fun c22006 => ?_)
              · have zc22006 := neK rfl (show (0 : Int32).toInt = 0 by decide) c22006
                obtain ⟨v22007, ev22007⟩ : ∃ z : Int32, z = x40_3 + (-1) := ⟨_, rfl⟩
                refine lv_iinc (v := v22007) (lv' := [(3, .int v22007), (0, .ref adt), (1, .ref adh), (2, .int v2), (4, .int x40_4)]) hx hb dX2_move_69 hl (k := 3) rfl (by rw [ev22007]; rfl) (by decide) rfl (fun ls hl => ?_)
                exact B72 v22007 H locs ls hP hD hS (lv_sub hl [1, 2, 3, 0, 4] rfl)
              · have zc22006 := eqK rfl (show (0 : Int32).toInt = 0 by decide) c22006
                refine lv_aload_n hx hb dX2_move_62 rfl (lv_at hl 0 rfl) ?_
                refine lv_iload hx hb dX2_move_63 (lv_at hl 4 rfl) ?_
                refine putD hx hb ht hown hK hP hD hS iTX2 tyX2 tyX2_ok nmX2 0 2 rfl rfl (by decide) fl_RX2_23 rfl rfl rfl (Nat.le_of_ble_eq_true rfl) dX2_move_65 (fun H locs hP hD hS => ?_)
                have hP : va_P G vwCl ((uX2 cs adt qt (upv 2 x40_4 Ft) At Bt d9) ++ (uX3 cs adh qh Fh Ah Bh Dh)) H := hP
                have hD : va_D A0 ((uX2 cs adt qt (upv 2 x40_4 Ft) At Bt d9) ++ (uX3 cs adh qh Fh Ah Bh Dh)) := hD
                exact retDw (x40_4, d9) hx hb hr hlk hP hD hS dX2_move_68 (⟨show (-1 : Int) ≤ x40_4.toInt ∧ x40_4.toInt ≤ 6 by omega, trivial⟩) (Nat.le_of_ble_eq_true rfl) (Nat.le_of_ble_eq_true rfl)
      exact B40 _ r10 0 H locs ls (Nat.lt_succ_self _) (by decide) hP hD hS (lv_sub hl [3, 4, 2, 1, 0] rfl)
    · have zc7 := nltK rfl rfl c7
      exact retDw ((Ft 2), d5) hx hb hr hlk hP hD hS dX2_move_27 (⟨hIt.1 2, trivial⟩) (Nat.le_of_ble_eq_true rfl) (Nat.le_of_ble_eq_true rfl)

set_option maxRecDepth 100000 in
set_option maxHeartbeats 16000000 in
theorem sX2_draw (l : Launch) (G : va_G) (cs : Nat → ClassId) (adt : Nat) (qt : Nat → Nat) (Ft : Nat → Int32) (At : Nat → Nat → Int32) (Bt : Nat → Nat → Int64) (Dt : Int64) (hIt : IX2 Ft At) (adh : Nat) (qh : Nat → Nat) (Fh : Nat → Int32) (Ah : Nat → Nat → Int32) (Bh : Nat → Nat → Int64) (Dh : Int64) (hIh : IX3 Fh Ah) (adr : Nat) (qr : Nat → Nat) (Fr : Nat → Int32) (Ar : Nat → Nat → Int32) (Br : Nat → Nat → Int64) (Dr : Int64) (hIr : IX7 Fr Ar) (a3 : Int64) : ∀ sz : Nat, Met l yX2_draw (wk yX2_draw cX2_draw 6 none) (rmk 2 0 0) (PreD G (TY cs) [.ref adt, .ref adh, .ref adr, .long a3] ((uX2 cs adt qt Ft At Bt Dt) ++ ((uX3 cs adh qh Fh Ah Bh Dh) ++ (uX7 cs adr qr Fr Ar Br Dr))) sz) ((QDw G (fun u : Int32 × Int32 × Int64 => ((-1 : Int) ≤ u.2.1.toInt ∧ u.2.1.toInt ≤ 6) ∧ (True)) (fun u : Int32 × Int32 × Int64 => ((wX2 cs adt qt (upd (upd Ft 1 u.1) 2 u.2.1) At Bt u.2.2) ++ ((uX3 cs adh qh Fh Ah Bh Dh) ++ (uX7 cs adr qr Fr Ar Br Dr))))) (va_A ((uX2 cs adt qt Ft At Bt Dt) ++ ((uX3 cs adh qh Fh Ah Bh Dh) ++ (uX7 cs adr qr Fr Ar Br Dr))) sz)) 0 0 (va_A ((uX2 cs adt qt Ft At Bt Dt) ++ ((uX3 cs adh qh Fh Ah Bh Dh) ++ (uX7 cs adr qr Fr Ar Br Dr))) sz) := by
  refine mkD (Qc := (QDw G (fun u : Int32 × Int32 × Int64 => ((-1 : Int) ≤ u.2.1.toInt ∧ u.2.1.toInt ≤ 6) ∧ (True)) (fun u : Int32 × Int32 × Int64 => ((wX2 cs adt qt (upd (upd Ft 1 u.1) 2 u.2.1) At Bt u.2.2) ++ ((uX3 cs adh qh Fh Ah Bh Dh) ++ (uX7 cs adr qr Fr Ar Br Dr)))))) (by decide) (by simp [lg_sl, Value.category]) ?_
  intro p e s m args below meth c ls A0 hx hb hml hr hlk hown hmn ht hK hP hD hS hA hl
  have hl : lv_has ls 6 [(0, .ref adt), (1, .ref adh), (2, .ref adr), (3, .long a3)] := hl
  refine lv_aload_n hx hb dX2_draw_0 rfl (lv_at hl 0 rfl) ?_
  refine lv_lload_n hx hb dX2_draw_1 rfl (lv_at hl 3 rfl) ?_
  refine putD hx hb ht hown hK hP hD hS iTX2 tyX2 tyX2_ok nmX2 0 0 rfl rfl (by decide) fl_RX2_9 rfl rfl rfl (Nat.le_of_ble_eq_true rfl) dX2_draw_2 (fun H locs hP hD hS => ?_)
  have hP : va_P G vwCl ((uX2 cs adt qt Ft At Bt a3) ++ ((uX3 cs adh qh Fh Ah Bh Dh) ++ (uX7 cs adr qr Fr Ar Br Dr))) H := hP
  have hD : va_D A0 ((uX2 cs adt qt Ft At Bt a3) ++ ((uX3 cs adh qh Fh Ah Bh Dh) ++ (uX7 cs adr qr Fr Ar Br Dr))) := hD
  refine lv_aload_n hx hb dX2_draw_5 rfl (lv_at hl 0 rfl) ?_
  refine lv_iconst (v := (-1)) hx hb dX2_draw_6 (by decide) ?_
  refine putD hx hb ht hown hK hP hD hS iTX2 tyX2 tyX2_ok nmX2 0 1 rfl rfl (by decide) fl_RX2_15 rfl rfl rfl (Nat.le_of_ble_eq_true rfl) dX2_draw_7 (fun H locs hP hD hS => ?_)
  have hP : va_P G vwCl ((uX2 cs adt qt (upv 1 (-1 : Int32) Ft) At Bt a3) ++ ((uX3 cs adh qh Fh Ah Bh Dh) ++ (uX7 cs adr qr Fr Ar Br Dr))) H := hP
  have hD : va_D A0 ((uX2 cs adt qt (upv 1 (-1 : Int32) Ft) At Bt a3) ++ ((uX3 cs adh qh Fh Ah Bh Dh) ++ (uX7 cs adr qr Fr Ar Br Dr))) := hD
  refine lv_aload_n hx hb dX2_draw_10 rfl (lv_at hl 0 rfl) ?_
  refine lv_aload_n hx hb dX2_draw_11 rfl (lv_at hl 0 rfl) ?_
  refine lv_aload_n hx hb dX2_draw_12 rfl (lv_at hl 1 rfl) ?_
  refine behDi (wr := (uX7 cs adr qr Fr Ar Br Dr)) (runVD (As := [.ref adh]) (rest := [.ref adt]) ⟨hx, hb, hml, hown, ht⟩ (sX2_takeSeat l G cs adt qt (upv 1 (-1 : Int32) Ft) At Bt a3 (IB_pv (k := 1) hIt (i32b _)) adh qh Fh Ah Bh Dh hIh ) okV_RX2_19 ⟨by decide, by decide⟩ hK hP hD [0, 1, 2, 3, 4, 5, 6, 7, 8] rfl (by decide) rfl 0 rfl rfl hl.1 rfl (Nat.le_of_ble_eq_true rfl) dX2_draw_13 ⟨(Nat.le_of_ble_eq_true rfl), (Nat.le_of_ble_eq_true rfl)⟩) hP hD hS hA [0, 1, 2, 3, 4, 5, 6, 7, 8] [9, 10] rfl rfl (by decide) (by decide) (fun r9 u H locs hu hP hD hS => ?_)
  obtain ⟨d1, rfl⟩ : ∃ z, z = u := ⟨_, rfl⟩
  obtain ⟨r2, rfl⟩ : ∃ z, z = r9 := ⟨_, rfl⟩
  have hr2 := hu
  have hr2 : (-1 : Int) ≤ r2.toInt ∧ r2.toInt ≤ 6 := hr2
  have hP : va_P G vwCl ((uX2 cs adt qt (upv 1 (-1 : Int32) Ft) At Bt d1) ++ ((uX3 cs adh qh Fh Ah Bh Dh) ++ (uX7 cs adr qr Fr Ar Br Dr))) H := hP.sub [2, 3, 4, 5, 6, 7, 8, 9, 10, 0, 1] rfl
  have hD : va_D A0 ((uX2 cs adt qt (upv 1 (-1 : Int32) Ft) At Bt d1) ++ ((uX3 cs adh qh Fh Ah Bh Dh) ++ (uX7 cs adr qr Fr Ar Br Dr))) := hD.sub [2, 3, 4, 5, 6, 7, 8, 9, 10, 0, 1] (by decide) rfl
  refine putD hx hb ht hown hK hP hD hS iTX2 tyX2 tyX2_ok nmX2 0 2 rfl rfl (by decide) fl_RX2_23 rfl rfl rfl (Nat.le_of_ble_eq_true rfl) dX2_draw_16 (fun H locs hP hD hS => ?_)
  have hP : va_P G vwCl ((uX2 cs adt qt (upv 2 r2 (upv 1 (-1 : Int32) Ft)) At Bt d1) ++ ((uX3 cs adh qh Fh Ah Bh Dh) ++ (uX7 cs adr qr Fr Ar Br Dr))) H := hP
  have hD : va_D A0 ((uX2 cs adt qt (upv 2 r2 (upv 1 (-1 : Int32) Ft)) At Bt d1) ++ ((uX3 cs adh qh Fh Ah Bh Dh) ++ (uX7 cs adr qr Fr Ar Br Dr))) := hD
  refine lv_iconst (v := 0) hx hb dX2_draw_19 (by decide) ?_
  refine lv_istore (lv' := [(5, .int 0), (0, .ref adt), (1, .ref adh), (2, .ref adr), (3, .long a3)]) hx hb dX2_draw_20 hl (by decide) rfl (fun ls hl => ?_)
  have B22 : ∀ (n : Nat) (x22_5 : Int32) (ft1_22 : Int32) (ft2_22 : Int32) (dt0_22 : Int64) (H : Heap) (locs : List Loc) (ls : Array Slot), (60 - x22_5.toInt).toNat < n → (0 : Int) ≤ x22_5.toInt ∧ x22_5.toInt ≤ 60 → (-1 : Int) ≤ ft2_22.toInt ∧ ft2_22.toInt ≤ 6 → va_P G vwCl ((uX2 cs adt qt (upv 2 ft2_22 (upv 1 ft1_22 Ft)) At Bt dt0_22) ++ ((uX3 cs adh qh Fh Ah Bh Dh) ++ (uX7 cs adr qr Fr Ar Br Dr))) H → va_D A0 ((uX2 cs adt qt (upv 2 ft2_22 (upv 1 ft1_22 Ft)) At Bt dt0_22) ++ ((uX3 cs adh qh Fh Ah Bh Dh) ++ (uX7 cs adr qr Fr Ar Br Dr))) → va_S A0 s.heap H locs → lv_has ls 6 [(0, .ref adt), (1, .ref adh), (2, .ref adr), (5, .int x22_5)] → W p l e (rmk 2 0 0) s m args below meth c H locs 0 0 (MQ below ((QDw G (fun u : Int32 × Int32 × Int64 => ((-1 : Int) ≤ u.2.1.toInt ∧ u.2.1.toInt ≤ 6) ∧ (True)) (fun u : Int32 × Int32 × Int64 => ((wX2 cs adt qt (upd (upd Ft 1 u.1) 2 u.2.1) At Bt u.2.2) ++ ((uX3 cs adh qh Fh Ah Bh Dh) ++ (uX7 cs adr qr Fr Ar Br Dr))))) A0) args s 0 0 A0) (F0 m 22 ls []) := by
    intro n
    induction n with
    | zero => intro x22_5 ft1_22 ft2_22 dt0_22 H locs ls hmeas hx22_5 hft2_22 hP hD hS hl; exact absurd hmeas (Nat.not_lt_zero _)
    | succ n ih22 =>
      intro x22_5 ft1_22 ft2_22 dt0_22 H locs ls hmeas hx22_5 hft2_22 hP hD hS hl
      refine lv_iload hx hb dX2_draw_22 (lv_at hl 3 rfl) ?_
      refine lv_aload_n hx hb dX2_draw_24 rfl (lv_at hl 2 rfl) ?_
      refine getF (v := .int (Fr 3)) hx hb ht hown hK hP iTX7 9 3 rfl rfl (by decide) fl_RX2_26 rfl dX2_draw_25 ?_
      have zf14001 : (0 : Int) ≤ (Fr 3).toInt ∧ (Fr 3).toInt ≤ 60 := hIr.1 3
      refine lv_icmp_ge (tgt := 98) hx hb dX2_draw_28 (by decide) (fun c14002 => ?_) (fun c14002 => ?_)
      · have zc14002 := leK rfl rfl c14002
        exact retDw (ft1_22, ft2_22, dt0_22) hx hb hr hlk hP hD hS dX2_draw_98 (⟨show (-1 : Int) ≤ ft2_22.toInt ∧ ft2_22.toInt ≤ 6 by omega, trivial⟩) (Nat.le_of_ble_eq_true rfl) (Nat.le_of_ble_eq_true rfl)
      · have zc14002 := nleK rfl rfl c14002
        refine lv_aload_n hx hb dX2_draw_31 rfl (lv_at hl 0 rfl) ?_
        refine getF (v := .int ft2_22) hx hb ht hown hK hP iTX2 0 2 rfl rfl (by decide) fl_RX2_23 rfl dX2_draw_32 ?_
        refine lv_iconst (v := (-1)) hx hb dX2_draw_35 (by decide) ?_
        refine lv_icmp_eq (tgt := 98) hx hb dX2_draw_36 (by decide) (fun c14003 => ?_) (fun c14003 => ?_)
        · have zc14003 := eqK rfl (show (-1 : Int32).toInt = (-1) by decide) c14003
          exact retDw (ft1_22, ft2_22, dt0_22) hx hb hr hlk hP hD hS dX2_draw_98 (⟨show (-1 : Int) ≤ ft2_22.toInt ∧ ft2_22.toInt ≤ 6 by omega, trivial⟩) (Nat.le_of_ble_eq_true rfl) (Nat.le_of_ble_eq_true rfl)
        · have zc14003 := neK rfl (show (-1 : Int32).toInt = (-1) by decide) c14003
          refine lv_aload_n hx hb dX2_draw_39 rfl (lv_at hl 0 rfl) ?_
          refine getF (v := .int ft1_22) hx hb ht hown hK hP iTX2 0 1 rfl rfl (by decide) fl_RX2_15 rfl dX2_draw_40 ?_
          refine lv_iconst (v := (-1)) hx hb dX2_draw_43 (by decide) ?_
          refine lv_icmp_ne (tgt := 98) hx hb dX2_draw_44 (by decide) (fun c14004 => ?_) (fun c14004 => ?_)
          · have zc14004 := neK rfl (show (-1 : Int32).toInt = (-1) by decide) c14004
            exact retDw (ft1_22, ft2_22, dt0_22) hx hb hr hlk hP hD hS dX2_draw_98 (⟨show (-1 : Int) ≤ ft2_22.toInt ∧ ft2_22.toInt ≤ 6 by omega, trivial⟩) (Nat.le_of_ble_eq_true rfl) (Nat.le_of_ble_eq_true rfl)
          · have zc14004 := eqK rfl (show (-1 : Int32).toInt = (-1) by decide) c14004
            refine lv_aload_n hx hb dX2_draw_47 rfl (lv_at hl 2 rfl) ?_
            refine lv_iload hx hb dX2_draw_48 (lv_at hl 3 rfl) ?_
            refine behR (runVP (As := [.int x22_5]) (rest := []) ⟨hx, hb, hml, hown, ht⟩ (sX7_roomAt l G cs adr qr Fr Ar Br Dr hIr x22_5 ) okV_RX2_31 ⟨by decide, by decide⟩ hK hP [9, 10] rfl 9 rfl rfl hl.1 rfl (Nat.le_of_ble_eq_true rfl) dX2_draw_50 ⟨by decide, by decide⟩) hP hS hA (fun r14005 H locs hr14005 hP hS => ?_)
            have hr14005 : RAt r14005 x22_5 (Br 0) (Fr 3).toInt := hr14005
            refine lv_aload_n hx hb dX2_draw_53 rfl (lv_at hl 0 rfl) ?_
            refine getF (v := .int ft2_22) hx hb ht hown hK hP iTX2 0 2 rfl rfl (by decide) fl_RX2_23 rfl dX2_draw_54 ?_
            have B92 : ∀ (ft1_92 : Int32) (ft2_92 : Int32) (dt0_92 : Int64) (H : Heap) (locs : List Loc) (ls : Array Slot), (-1 : Int) ≤ ft2_92.toInt ∧ ft2_92.toInt ≤ 6 → va_P G vwCl ((uX2 cs adt qt (upv 2 ft2_92 (upv 1 ft1_92 Ft)) At Bt dt0_92) ++ ((uX3 cs adh qh Fh Ah Bh Dh) ++ (uX7 cs adr qr Fr Ar Br Dr))) H → va_D A0 ((uX2 cs adt qt (upv 2 ft2_92 (upv 1 ft1_92 Ft)) At Bt dt0_92) ++ ((uX3 cs adh qh Fh Ah Bh Dh) ++ (uX7 cs adr qr Fr Ar Br Dr))) → va_S A0 s.heap H locs → lv_has ls 6 [(0, .ref adt), (1, .ref adh), (2, .ref adr), (5, .int x22_5)] → W p l e (rmk 2 0 0) s m args below meth c H locs 0 0 (MQ below ((QDw G (fun u : Int32 × Int32 × Int64 => ((-1 : Int) ≤ u.2.1.toInt ∧ u.2.1.toInt ≤ 6) ∧ (True)) (fun u : Int32 × Int32 × Int64 => ((wX2 cs adt qt (upd (upd Ft 1 u.1) 2 u.2.1) At Bt u.2.2) ++ ((uX3 cs adh qh Fh Ah Bh Dh) ++ (uX7 cs adr qr Fr Ar Br Dr))))) A0) args s 0 0 A0) (F0 m 92 ls []) := by
              intro ft1_92 ft2_92 dt0_92 H locs ls hft2_92 hP hD hS hl
              obtain ⟨v48001, ev48001⟩ : ∃ z : Int32, z = x22_5 + 1 := ⟨_, rfl⟩
              have tv48001 : v48001.toInt = x22_5.toInt + 1 := by rw [ev48001]; exact addT rfl (by decide) (by omega)
              refine lv_iinc (v := v48001) (lv' := [(5, .int v48001), (0, .ref adt), (1, .ref adh), (2, .ref adr)]) hx hb dX2_draw_92 hl (k := 3) rfl (by rw [ev48001]; rfl) (by decide) rfl (fun ls hl => ?_)
              refine lv_goto (tgt := 22) hx hb dX2_draw_95 (by decide) ?_
              exact ih22 v48001 ft1_92 ft2_92 dt0_92 H locs ls (by omega) (by omega) (by omega) hP hD hS (lv_sub hl [1, 2, 3, 0] rfl)
            have B87 : ∀ (dt0_87 : Int64) (H : Heap) (locs : List Loc) (ls : Array Slot), va_P G vwCl ((uX2 cs adt qt (upv 2 ft2_22 (upv 1 ft1_22 Ft)) At Bt dt0_87) ++ ((uX3 cs adh qh Fh Ah Bh Dh) ++ (uX7 cs adr qr Fr Ar Br Dr))) H → va_D A0 ((uX2 cs adt qt (upv 2 ft2_22 (upv 1 ft1_22 Ft)) At Bt dt0_87) ++ ((uX3 cs adh qh Fh Ah Bh Dh) ++ (uX7 cs adr qr Fr Ar Br Dr))) → va_S A0 s.heap H locs → lv_has ls 6 [(0, .ref adt), (1, .ref adh), (2, .ref adr), (5, .int x22_5)] → W p l e (rmk 2 0 0) s m args below meth c H locs 0 0 (MQ below ((QDw G (fun u : Int32 × Int32 × Int64 => ((-1 : Int) ≤ u.2.1.toInt ∧ u.2.1.toInt ≤ 6) ∧ (True)) (fun u : Int32 × Int32 × Int64 => ((wX2 cs adt qt (upd (upd Ft 1 u.1) 2 u.2.1) At Bt u.2.2) ++ ((uX3 cs adh qh Fh Ah Bh Dh) ++ (uX7 cs adr qr Fr Ar Br Dr))))) A0) args s 0 0 A0) (F0 m 87 ls []) := by
              intro dt0_87 H locs ls hP hD hS hl
              refine lv_aload_n hx hb dX2_draw_87 rfl (lv_at hl 0 rfl) ?_
              refine lv_aload_n hx hb dX2_draw_88 rfl (lv_at hl 1 rfl) ?_
              refine behDw (wr := (uX7 cs adr qr Fr Ar Br Dr)) (runVD (As := [.ref adh]) (rest := []) ⟨hx, hb, hml, hown, ht⟩ (sX2_move l G cs adt qt (upv 2 ft2_22 (upv 1 ft1_22 Ft)) At Bt dt0_87 (IB_pv (k := 2) (IB_pv (k := 1) hIt (i32b _)) (show (-1 : Int) ≤ ft2_22.toInt ∧ ft2_22.toInt ≤ 6 by omega)) adh qh Fh Ah Bh Dh hIh  (show 0 ≤ ft2_22.toInt from (by omega))) okV_RX2_44 ⟨by decide, by decide⟩ hK hP hD [0, 1, 2, 3, 4, 5, 6, 7, 8] rfl (by decide) rfl 0 rfl rfl hl.1 rfl (Nat.le_of_ble_eq_true rfl) dX2_draw_89 ⟨(Nat.le_of_ble_eq_true rfl), (Nat.le_of_ble_eq_true rfl)⟩) hP hD hS hA [0, 1, 2, 3, 4, 5, 6, 7, 8] [9, 10] rfl rfl (by decide) (by decide) (fun u H locs hu hP hD hS => ?_)
              obtain ⟨x45001, d45002⟩ := u
              obtain ⟨hbx45001, hr45003⟩ := hu
              have hbx45001 : (-1 : Int) ≤ x45001.toInt ∧ x45001.toInt ≤ 6 := hbx45001
              have hP : va_P G vwCl ((uX2 cs adt qt (upv 2 x45001 (upv 1 ft1_22 Ft)) At Bt d45002) ++ ((uX3 cs adh qh Fh Ah Bh Dh) ++ (uX7 cs adr qr Fr Ar Br Dr))) H := hP.sub [2, 3, 4, 5, 6, 7, 8, 9, 10, 0, 1] rfl
              have hD : va_D A0 ((uX2 cs adt qt (upv 2 x45001 (upv 1 ft1_22 Ft)) At Bt d45002) ++ ((uX3 cs adh qh Fh Ah Bh Dh) ++ (uX7 cs adr qr Fr Ar Br Dr))) := hD.sub [2, 3, 4, 5, 6, 7, 8, 9, 10, 0, 1] (by decide) rfl
              exact B92 ft1_22 x45001 d45002 H locs ls (by omega) hP hD hS (lv_sub hl [0, 1, 2, 3] rfl)
            refine lv_icmp_ne (tgt := 87) hx hb dX2_draw_57 (by decide) (fun c14006 => ?_) (fun c14006 => ?_)
            · have zc14006 := neK rfl rfl c14006
              exact B87 dt0_22 H locs ls hP hD hS (lv_sub hl [0, 1, 2, 3] rfl)
            · have zc14006 := eqK rfl rfl c14006
              refine lv_aload_n hx hb dX2_draw_60 rfl (lv_at hl 0 rfl) ?_
              refine lv_bipush (v := 100) hx hb dX2_draw_61 (by decide) ?_
              refine behDi (wr := ((uX3 cs adh qh Fh Ah Bh Dh) ++ (uX7 cs adr qr Fr Ar Br Dr))) (runVD (As := [.int 100]) (rest := []) ⟨hx, hb, hml, hown, ht⟩ (sX2_next l G cs adt qt (upv 2 ft2_22 (upv 1 ft1_22 Ft)) At Bt dt0_22 (IB_pv (k := 2) (IB_pv (k := 1) hIt (i32b _)) (show (-1 : Int) ≤ ft2_22.toInt ∧ ft2_22.toInt ≤ 6 by omega)) 100 ) okV_RX2_35 ⟨by decide, by decide⟩ hK hP hD [0] rfl (by decide) rfl 0 rfl rfl hl.1 rfl (Nat.le_of_ble_eq_true rfl) dX2_draw_63 ⟨(Nat.le_of_ble_eq_true rfl), (Nat.le_of_ble_eq_true rfl)⟩) hP hD hS hA [0] [1, 2, 3, 4, 5, 6, 7, 8, 9, 10] rfl rfl (by decide) (by decide) (fun r9 u H locs hu hP hD hS => ?_)
              obtain ⟨d14007, rfl⟩ : ∃ z, z = u := ⟨_, rfl⟩
              obtain ⟨r14008, rfl⟩ : ∃ z, z = r9 := ⟨_, rfl⟩
              have hr14008 := hu
              have hP : va_P G vwCl ((uX2 cs adt qt (upv 2 ft2_22 (upv 1 ft1_22 Ft)) At Bt d14007) ++ ((uX3 cs adh qh Fh Ah Bh Dh) ++ (uX7 cs adr qr Fr Ar Br Dr))) H := hP.sub [10, 0, 1, 2, 3, 4, 5, 6, 7, 8, 9] rfl
              have hD : va_D A0 ((uX2 cs adt qt (upv 2 ft2_22 (upv 1 ft1_22 Ft)) At Bt d14007) ++ ((uX3 cs adh qh Fh Ah Bh Dh) ++ (uX7 cs adr qr Fr Ar Br Dr))) := hD.sub [10, 0, 1, 2, 3, 4, 5, 6, 7, 8, 9] (by decide) rfl
              refine lv_aload_n hx hb dX2_draw_66 rfl (lv_at hl 1 rfl) ?_
              refine getF (v := .ref (qh 8)) hx hb ht hown hK hP iTX3 1 8 rfl rfl (by decide) fl_RX2_38 rfl dX2_draw_67 ?_
              refine lv_aload_n hx hb dX2_draw_70 rfl (lv_at hl 0 rfl) ?_
              refine getF (v := .int ft2_22) hx hb ht hown hK hP iTX2 0 2 rfl rfl (by decide) fl_RX2_23 rfl dX2_draw_71 ?_
              refine va_iald hx hb hK.1 hP 3 0 rfl rfl (inK rfl (by omega) (by decide)) dX2_draw_74 ?_
              refine lv_topi (fun v14009 ev14009 => ?_)
              refine lv_icmp_ge (tgt := 87) hx hb dX2_draw_75 (by decide) (fun c14010 => ?_) (fun c14010 => ?_)
              · have zc14010 := leK rfl rfl c14010
                exact B87 d14007 H locs ls hP hD hS (lv_sub hl [0, 1, 2, 3] rfl)
              · have zc14010 := nleK rfl rfl c14010
                refine lv_aload_n hx hb dX2_draw_78 rfl (lv_at hl 0 rfl) ?_
                refine lv_iload hx hb dX2_draw_79 (lv_at hl 3 rfl) ?_
                refine putD hx hb ht hown hK hP hD hS iTX2 tyX2 tyX2_ok nmX2 0 1 rfl rfl (by decide) fl_RX2_15 rfl rfl rfl (Nat.le_of_ble_eq_true rfl) dX2_draw_81 (fun H locs hP hD hS => ?_)
                have hP : va_P G vwCl ((uX2 cs adt qt (upv 2 ft2_22 (upv 1 x22_5 Ft)) At Bt d14007) ++ ((uX3 cs adh qh Fh Ah Bh Dh) ++ (uX7 cs adr qr Fr Ar Br Dr))) H := hP
                have hD : va_D A0 ((uX2 cs adt qt (upv 2 ft2_22 (upv 1 x22_5 Ft)) At Bt d14007) ++ ((uX3 cs adh qh Fh Ah Bh Dh) ++ (uX7 cs adr qr Fr Ar Br Dr))) := hD
                refine lv_goto (tgt := 92) hx hb dX2_draw_84 (by decide) ?_
                exact B92 x22_5 ft2_22 d14007 H locs ls (by omega) hP hD hS (lv_sub hl [0, 1, 2, 3] rfl)
  exact B22 _ 0 (-1 : Int32) r2 d1 H locs ls (Nat.lt_succ_self _) (by decide) (by omega) hP hD hS (lv_sub hl [1, 2, 3, 0] rfl)

set_option maxRecDepth 100000 in
set_option maxHeartbeats 16000000 in
theorem sX4_askedFirst (l : Launch) (G : va_G) (cs : Nat → ClassId) (adt : Nat) (qt : Nat → Nat) (Ft : Nat → Int32) (At : Nat → Nat → Int32) (Bt : Nat → Nat → Int64) (Dt : Int64) (hIt : IX4 Ft At) (adh : Nat) (qh : Nat → Nat) (Fh : Nat → Int32) (Ah : Nat → Nat → Int32) (Bh : Nat → Nat → Int64) (Dh : Int64) (hIh : IX3 Fh Ah) (a2 : Int32) (a3 : Int32) (ha2 : (1 : Int) ≤ a2.toInt ∧ a2.toInt ≤ 63) : ∀ sz : Nat, Met l yX4_askedFirst (wk yX4_askedFirst cX4_askedFirst 6 (some .int)) (rmk 1 0 0) (PreP G (TY cs) [.ref adt, .ref adh, .int a2, .int a3] ((uX4 cs adt qt Ft At Bt Dt) ++ (uX3 cs adh qh Fh Ah Bh Dh)) sz) (QRi (fun r : Int32 => True) sz) 0 0 (fun q => sz ≤ q) := by
  refine mkP (Qc := QRi (fun r : Int32 => True)) (by decide) (by simp [lg_sl, Value.category]) ?_
  intro p e s m args below meth c ls hx hb hml hr hlk hown ht hK hP hS hl
  have hl : lv_has ls 6 [(0, .ref adt), (1, .ref adh), (2, .int a2), (3, .int a3)] := hl
  refine lv_aload_n hx hb dX4_askedFirst_0 rfl (lv_at hl 1 rfl) ?_
  refine lv_iload_n hx hb dX4_askedFirst_1 rfl (lv_at hl 2 rfl) ?_
  refine lv_iload_n hx hb dX4_askedFirst_2 rfl (lv_at hl 3 rfl) ?_
  refine behR (runVP (As := [.int a2, .int a3]) (rest := []) ⟨hx, hb, hml, hown, ht⟩ (sX3_whoSayYes l G cs adh qh Fh Ah Bh Dh hIh a2 a3 ) okV_RX4_32 ⟨by decide, by decide⟩ hK hP [2, 3, 4, 5, 6, 7, 8, 9] rfl 2 rfl rfl hl.1 rfl (Nat.le_of_ble_eq_true rfl) dX4_askedFirst_3 ⟨by decide, by decide⟩) hP hS (fun _ h => h) (fun r1 H locs hr1 hP hS => ?_)
  have hr1 : (0 : Int) ≤ r1.toInt ∧ r1.toInt ≤ 63 := hr1
  refine lv_istore (lv' := [(4, .int r1), (0, .ref adt), (1, .ref adh), (2, .int a2), (3, .int a3)]) hx hb dX4_askedFirst_6 hl (by decide) rfl (fun ls hl => ?_)
  refine lv_iload_n hx hb dX4_askedFirst_8 rfl (lv_at hl 3 rfl) ?_
  refine lv_iload hx hb dX4_askedFirst_9 (lv_at hl 0 rfl) ?_
  refine lv_iconst (v := (-1)) hx hb dX4_askedFirst_11 (by decide) ?_
  refine lv_ixor hx hb dX4_askedFirst_12 ?_
  refine lv_topi (fun v2 ev2 => ?_)
  refine lv_iand hx hb dX4_askedFirst_13 ?_
  refine lv_topi (fun v3 ev3 => ?_)
  have tv3 : 0 ≤ v3.toInt ∧ v3.toInt ≤ 63 := by rw [ev3]; exact andA 6 rfl (by omega) (by decide)
  refine lv_istore (lv' := [(5, .int v3), (4, .int r1), (0, .ref adt), (1, .ref adh), (2, .int a2), (3, .int a3)]) hx hb dX4_askedFirst_14 hl (by decide) rfl (fun ls hl => ?_)
  refine lv_iload hx hb dX4_askedFirst_16 (lv_at hl 1 rfl) ?_
  refine lv_if_eq (tgt := 48) hx hb dX4_askedFirst_18 (by decide) (fun c4 => ?_) (fun c4 => ?_)
  · have zc4 := eqK rfl (show (0 : Int32).toInt = 0 by decide) c4
    refine lv_iconst (v := (-1)) hx hb dX4_askedFirst_48 (by decide) ?_
    exact retRi hx hb hr hlk hS dX4_askedFirst_49 (trivial)
  · have zc4 := neK rfl (show (0 : Int32).toInt = 0 by decide) c4
    refine lv_iload hx hb dX4_askedFirst_21 (lv_at hl 0 rfl) ?_
    refine lv_if_eq (tgt := 48) hx hb dX4_askedFirst_23 (by decide) (fun c5 => ?_) (fun c5 => ?_)
    · have zc5 := eqK rfl (show (0 : Int32).toInt = 0 by decide) c5
      refine lv_iconst (v := (-1)) hx hb dX4_askedFirst_48 (by decide) ?_
      exact retRi hx hb hr hlk hS dX4_askedFirst_49 (trivial)
    · have zc5 := neK rfl (show (0 : Int32).toInt = 0 by decide) c5
      refine lv_aload_n hx hb dX4_askedFirst_26 rfl (lv_at hl 2 rfl) ?_
      refine getF (v := .ref (qt 0)) hx hb ht hown hK hP iTX4 0 0 rfl rfl (by decide) fl_RX4_11 rfl dX4_askedFirst_27 ?_
      refine lv_iload hx hb dX4_askedFirst_30 (lv_at hl 1 rfl) ?_
      refine va_iald hx hb hK.1 hP 1 0 rfl rfl (inK rfl (by omega) (by decide)) dX4_askedFirst_32 ?_
      refine lv_topi (fun v6 ev6 => ?_)
      refine lv_iconst (v := (-1)) hx hb dX4_askedFirst_33 (by decide) ?_
      refine lv_icmp_eq (tgt := 48) hx hb dX4_askedFirst_34 (by decide) (fun c7 => ?_) (fun c7 => ?_)
      · have zc7 := eqK rfl (show (-1 : Int32).toInt = (-1) by decide) c7
        refine lv_iconst (v := (-1)) hx hb dX4_askedFirst_48 (by decide) ?_
        exact retRi hx hb hr hlk hS dX4_askedFirst_49 (trivial)
      · have zc7 := neK rfl (show (-1 : Int32).toInt = (-1) by decide) c7
        refine lv_aload_n hx hb dX4_askedFirst_37 rfl (lv_at hl 2 rfl) ?_
        refine getF (v := .ref (qt 0)) hx hb ht hown hK hP iTX4 0 0 rfl rfl (by decide) fl_RX4_11 rfl dX4_askedFirst_38 ?_
        refine lv_iload hx hb dX4_askedFirst_41 (lv_at hl 0 rfl) ?_
        refine va_iald hx hb hK.1 hP 1 0 rfl rfl (inK rfl (by omega) (by decide)) dX4_askedFirst_43 ?_
        refine lv_topi (fun v8 ev8 => ?_)
        refine lv_iconst (v := (-1)) hx hb dX4_askedFirst_44 (by decide) ?_
        refine lv_icmp_ne (tgt := 50) hx hb dX4_askedFirst_45 (by decide) (fun c9 => ?_) (fun c9 => ?_)
        · have zc9 := neK rfl (show (-1 : Int32).toInt = (-1) by decide) c9
          refine lv_iconst (v := 1) hx hb dX4_askedFirst_50 (by decide) ?_
          refine lv_aload_n hx hb dX4_askedFirst_51 rfl (lv_at hl 2 rfl) ?_
          refine getF (v := .ref (qt 0)) hx hb ht hown hK hP iTX4 0 0 rfl rfl (by decide) fl_RX4_11 rfl dX4_askedFirst_52 ?_
          refine lv_iload hx hb dX4_askedFirst_55 (lv_at hl 1 rfl) ?_
          refine va_iald hx hb hK.1 hP 1 0 rfl rfl (inK rfl (by omega) (by decide)) dX4_askedFirst_57 ?_
          refine lv_topi (fun v10 ev10 => ?_)
          refine lv_aload_n hx hb dX4_askedFirst_58 rfl (lv_at hl 2 rfl) ?_
          refine getF (v := .ref (qt 0)) hx hb ht hown hK hP iTX4 0 0 rfl rfl (by decide) fl_RX4_11 rfl dX4_askedFirst_59 ?_
          refine lv_iload hx hb dX4_askedFirst_62 (lv_at hl 0 rfl) ?_
          refine va_iald hx hb hK.1 hP 1 0 rfl rfl (inK rfl (by omega) (by decide)) dX4_askedFirst_64 ?_
          refine lv_topi (fun v11 ev11 => ?_)
          refine va_mmax hx hb (by rw [hml]; exact hl.1.symm) hown (ht _ mth_RX4_38) (ht _ mth_max_st) (ht _ mth_in) (ht _ mth_max_co) (Nat.le_of_ble_eq_true rfl) (Nat.le_of_ble_eq_true rfl) (Nat.zero_le _) (Nat.zero_le _) dX4_askedFirst_65 ?_
          refine lv_topi (fun v12 ev12 => ?_)
          have tv12 := maxK (a := v10) (b := v11)
          rw [← ev12] at tv12
          refine lv_iadd hx hb dX4_askedFirst_68 ?_
          refine lv_topi (fun v13 ev13 => ?_)
          exact retRi hx hb hr hlk hS dX4_askedFirst_69 (trivial)
        · have zc9 := eqK rfl (show (-1 : Int32).toInt = (-1) by decide) c9
          refine lv_iconst (v := (-1)) hx hb dX4_askedFirst_48 (by decide) ?_
          exact retRi hx hb hr hlk hS dX4_askedFirst_49 (trivial)

set_option maxRecDepth 100000 in
set_option maxHeartbeats 16000000 in
theorem sX4_fewestOf (l : Launch) (G : va_G) (cs : Nat → ClassId) (adt : Nat) (qt : Nat → Nat) (Ft : Nat → Int32) (At : Nat → Nat → Int32) (Bt : Nat → Nat → Int64) (Dt : Int64) (hIt : IX4 Ft At) (adh : Nat) (qh : Nat → Nat) (Fh : Nat → Int32) (Ah : Nat → Nat → Int32) (Bh : Nat → Nat → Int64) (Dh : Int64) (hIh : IX3 Fh Ah) (a2 : Int32) (ha2 : (1 : Int) ≤ a2.toInt ∧ a2.toInt ≤ 63) : ∀ sz : Nat, Met l yX4_fewestOf (wk yX4_fewestOf cX4_fewestOf 6 (some .int)) (rmk 2 0 0) (PreP G (TY cs) [.ref adt, .ref adh, .int a2] ((uX4 cs adt qt Ft At Bt Dt) ++ (uX3 cs adh qh Fh Ah Bh Dh)) sz) (QRi (fun r : Int32 => True) sz) 0 0 (fun q => sz ≤ q) := by
  refine mkP (Qc := QRi (fun r : Int32 => True)) (by decide) (by simp [lg_sl, Value.category]) ?_
  intro p e s m args below meth c ls hx hb hml hr hlk hown ht hK hP hS hl
  have hl : lv_has ls 6 [(0, .ref adt), (1, .ref adh), (2, .int a2)] := hl
  refine lv_iload_n hx hb dX4_fewestOf_0 rfl (lv_at hl 2 rfl) ?_
  refine behR (runTP (As := [.int a2]) (rest := []) ⟨hx, hb, hml, hown, ht⟩ (sJ6_bitCount_0f7a4 l G cs a2 ) okT_RX4_26 ⟨by decide, by decide⟩ hK hP [] rfl hl.1 rfl (Nat.le_of_ble_eq_true rfl) dX4_fewestOf_1 ⟨by decide, by decide⟩) hP hS (fun _ h => h) (fun r1 H locs hr1 hP hS => ?_)
  refine lv_iconst (v := 1) hx hb dX4_fewestOf_4 (by decide) ?_
  refine lv_icmp_ne (tgt := 10) hx hb dX4_fewestOf_5 (by decide) (fun c2 => ?_) (fun c2 => ?_)
  · have zc2 := neK rfl (show (1 : Int32).toInt = 1 by decide) c2
    refine lv_iconst (v := (-1)) hx hb dX4_fewestOf_10 (by decide) ?_
    refine lv_istore_n (lv' := [(3, .int (-1)), (0, .ref adt), (1, .ref adh), (2, .int a2)]) hx hb dX4_fewestOf_11 rfl hl (by decide) rfl (fun ls hl => ?_)
    refine lv_iconst (v := 0) hx hb dX4_fewestOf_12 (by decide) ?_
    refine lv_istore (lv' := [(4, .int 0), (3, .int (-1)), (0, .ref adt), (1, .ref adh), (2, .int a2)]) hx hb dX4_fewestOf_13 hl (by decide) rfl (fun ls hl => ?_)
    have B15 : ∀ (n : Nat) (x15_3 : Int32) (x15_4 : Int32) (H : Heap) (locs : List Loc) (ls : Array Slot), (6 - x15_4.toInt).toNat < n → (0 : Int) ≤ x15_4.toInt ∧ x15_4.toInt ≤ 6 → va_P G vwCl ((uX4 cs adt qt Ft At Bt Dt) ++ (uX3 cs adh qh Fh Ah Bh Dh)) H → va_S (fun q => s.heap.size ≤ q) s.heap H locs → lv_has ls 6 [(0, .ref adt), (1, .ref adh), (2, .int a2), (3, .int x15_3), (4, .int x15_4)] → W p l e (rmk 2 0 0) s m args below meth c H locs 0 0 (MQ below (QRi (fun r : Int32 => True) s.heap.size) args s 0 0 (fun q => s.heap.size ≤ q)) (F0 m 15 ls []) := by
      intro n
      induction n with
      | zero => intro x15_3 x15_4 H locs ls hmeas hx15_4 hP hS hl; exact absurd hmeas (Nat.not_lt_zero _)
      | succ n ih15 =>
        intro x15_3 x15_4 H locs ls hmeas hx15_4 hP hS hl
        refine lv_iload hx hb dX4_fewestOf_15 (lv_at hl 4 rfl) ?_
        refine lv_bipush (v := 6) hx hb dX4_fewestOf_17 (by decide) ?_
        refine lv_icmp_ge (tgt := 58) hx hb dX4_fewestOf_19 (by decide) (fun c11001 => ?_) (fun c11001 => ?_)
        · have zc11001 := leK (show (6 : Int32).toInt = 6 by decide) rfl c11001
          refine lv_iload_n hx hb dX4_fewestOf_58 rfl (lv_at hl 3 rfl) ?_
          exact retRi hx hb hr hlk hS dX4_fewestOf_59 (trivial)
        · have zc11001 := nleK (show (6 : Int32).toInt = 6 by decide) rfl c11001
          refine lv_aload_n hx hb dX4_fewestOf_22 rfl (lv_at hl 0 rfl) ?_
          refine lv_aload_n hx hb dX4_fewestOf_23 rfl (lv_at hl 1 rfl) ?_
          refine lv_iload_n hx hb dX4_fewestOf_24 rfl (lv_at hl 2 rfl) ?_
          refine lv_iload hx hb dX4_fewestOf_25 (lv_at hl 4 rfl) ?_
          refine behR (runVP (As := [.ref adh, .int a2, .int x15_4]) (rest := []) ⟨hx, hb, hml, hown, ht⟩ (sX4_askedFirst l G cs adt qt Ft At Bt Dt hIt adh qh Fh Ah Bh Dh hIh a2 x15_4 (by omega)) okV_RX4_22 ⟨by decide, by decide⟩ hK hP [0, 1, 2, 3, 4, 5, 6, 7, 8, 9] rfl 0 rfl rfl hl.1 rfl (Nat.le_of_ble_eq_true rfl) dX4_fewestOf_27 ⟨by decide, by decide⟩) hP hS (fun _ h => h) (fun r11002 H locs hr11002 hP hS => ?_)
          refine lv_istore (lv' := [(5, .int r11002), (0, .ref adt), (1, .ref adh), (2, .int a2), (3, .int x15_3), (4, .int x15_4)]) hx hb dX4_fewestOf_30 hl (by decide) rfl (fun ls hl => ?_)
          refine lv_iload hx hb dX4_fewestOf_32 (lv_at hl 0 rfl) ?_
          refine lv_iconst (v := (-1)) hx hb dX4_fewestOf_34 (by decide) ?_
          have B52 : ∀ (x52_3 : Int32) (H : Heap) (locs : List Loc) (ls : Array Slot), va_P G vwCl ((uX4 cs adt qt Ft At Bt Dt) ++ (uX3 cs adh qh Fh Ah Bh Dh)) H → va_S (fun q => s.heap.size ≤ q) s.heap H locs → lv_has ls 6 [(0, .ref adt), (1, .ref adh), (2, .int a2), (3, .int x52_3), (4, .int x15_4)] → W p l e (rmk 2 0 0) s m args below meth c H locs 0 0 (MQ below (QRi (fun r : Int32 => True) s.heap.size) args s 0 0 (fun q => s.heap.size ≤ q)) (F0 m 52 ls []) := by
            intro x52_3 H locs ls hP hS hl
            obtain ⟨v31001, ev31001⟩ : ∃ z : Int32, z = x15_4 + 1 := ⟨_, rfl⟩
            have tv31001 : v31001.toInt = x15_4.toInt + 1 := by rw [ev31001]; exact addT rfl (by decide) (by omega)
            refine lv_iinc (v := v31001) (lv' := [(4, .int v31001), (0, .ref adt), (1, .ref adh), (2, .int a2), (3, .int x52_3)]) hx hb dX4_fewestOf_52 hl (k := 4) rfl (by rw [ev31001]; rfl) (by decide) rfl (fun ls hl => ?_)
            refine lv_goto (tgt := 15) hx hb dX4_fewestOf_55 (by decide) ?_
            exact ih15 x52_3 v31001 H locs ls (by omega) (by omega) hP hS (lv_sub hl [1, 2, 3, 4, 0] rfl)
          refine lv_icmp_eq (tgt := 52) hx hb dX4_fewestOf_35 (by decide) (fun c11003 => ?_) (fun c11003 => ?_)
          · have zc11003 := eqK rfl (show (-1 : Int32).toInt = (-1) by decide) c11003
            exact B52 x15_3 H locs ls hP hS (lv_sub hl [1, 2, 3, 4, 5] rfl)
          · have zc11003 := neK rfl (show (-1 : Int32).toInt = (-1) by decide) c11003
            refine lv_iload_n hx hb dX4_fewestOf_38 rfl (lv_at hl 4 rfl) ?_
            refine lv_iconst (v := (-1)) hx hb dX4_fewestOf_39 (by decide) ?_
            have B49 : ∀ (H : Heap) (locs : List Loc) (ls : Array Slot), va_P G vwCl ((uX4 cs adt qt Ft At Bt Dt) ++ (uX3 cs adh qh Fh Ah Bh Dh)) H → va_S (fun q => s.heap.size ≤ q) s.heap H locs → lv_has ls 6 [(0, .ref adt), (1, .ref adh), (2, .int a2), (4, .int x15_4), (5, .int r11002)] → W p l e (rmk 2 0 0) s m args below meth c H locs 0 0 (MQ below (QRi (fun r : Int32 => True) s.heap.size) args s 0 0 (fun q => s.heap.size ≤ q)) (F0 m 49 ls []) := by
              intro H locs ls hP hS hl
              refine lv_iload hx hb dX4_fewestOf_49 (lv_at hl 4 rfl) ?_
              refine lv_istore_n (lv' := [(3, .int r11002), (0, .ref adt), (1, .ref adh), (2, .int a2), (4, .int x15_4), (5, .int r11002)]) hx hb dX4_fewestOf_51 rfl hl (by decide) rfl (fun ls hl => ?_)
              exact B52 r11002 H locs ls hP hS (lv_sub hl [1, 2, 3, 0, 4] rfl)
            refine lv_icmp_eq (tgt := 49) hx hb dX4_fewestOf_40 (by decide) (fun c11004 => ?_) (fun c11004 => ?_)
            · have zc11004 := eqK rfl (show (-1 : Int32).toInt = (-1) by decide) c11004
              exact B49 H locs ls hP hS (lv_sub hl [1, 2, 3, 5, 0] rfl)
            · have zc11004 := neK rfl (show (-1 : Int32).toInt = (-1) by decide) c11004
              refine lv_iload hx hb dX4_fewestOf_43 (lv_at hl 0 rfl) ?_
              refine lv_iload_n hx hb dX4_fewestOf_45 rfl (lv_at hl 4 rfl) ?_
              refine lv_icmp_ge (tgt := 52) hx hb dX4_fewestOf_46 (by decide) (fun c11005 => ?_) (fun c11005 => ?_)
              · have zc11005 := leK rfl rfl c11005
                exact B52 x15_3 H locs ls hP hS (lv_sub hl [1, 2, 3, 4, 5] rfl)
              · have zc11005 := nleK rfl rfl c11005
                exact B49 H locs ls hP hS (lv_sub hl [1, 2, 3, 5, 0] rfl)
    exact B15 _ (-1) 0 H locs ls (Nat.lt_succ_self _) (by decide) hP hS (lv_sub hl [2, 3, 4, 1, 0] rfl)
  · have zc2 := eqK rfl (show (1 : Int32).toInt = 1 by decide) c2
    refine lv_iconst (v := 0) hx hb dX4_fewestOf_8 (by decide) ?_
    exact retRi hx hb hr hlk hS dX4_fewestOf_9 (trivial)

