set_option maxRecDepth 100000 in
set_option maxHeartbeats 16000000 in
theorem sX5_live (l : Launch) (G : va_G) (cs : Nat → ClassId) (adt : Nat) (qt : Nat → Nat) (Ft : Nat → Int32) (At : Nat → Nat → Int32) (Bt : Nat → Nat → Int64) (Dt : Int64) (hIt : IX5 Ft At) (adh : Nat) (qh : Nat → Nat) (Fh : Nat → Int32) (Ah : Nat → Nat → Int32) (Bh : Nat → Nat → Int64) (Dh : Int64) (hIh : IX3 Fh Ah) (a2 : Int32) (a3 : Int32) (ha3 : (0 : Int) ≤ a3.toInt ∧ a3.toInt ≤ 9) : ∀ sz : Nat, Met l yX5_live (wk yX5_live cX5_live 5 (some .int)) (rmk 3 0 0) (PreD G (TY cs) [.ref adt, .ref adh, .int a2, .int a3] ((uX5 cs adt qt Ft At Bt Dt) ++ (uX3 cs adh qh Fh Ah Bh Dh)) sz) ((QDi G (fun (r : Int32) (u : Int32 × (Nat → Int32) × (Nat → Int32)) => True) (fun u : Int32 × (Nat → Int32) × (Nat → Int32) => ((wX5 cs adt qt (upd Ft 3 u.1) (vA (vA At 0 u.2.1) 1 u.2.2) Bt Dt) ++ (uX3 cs adh qh Fh Ah Bh Dh)))) (va_A ((uX5 cs adt qt Ft At Bt Dt) ++ (uX3 cs adh qh Fh Ah Bh Dh)) sz)) 0 0 (va_A ((uX5 cs adt qt Ft At Bt Dt) ++ (uX3 cs adh qh Fh Ah Bh Dh)) sz) := by
  refine mkD (Qc := (QDi G (fun (r : Int32) (u : Int32 × (Nat → Int32) × (Nat → Int32)) => True) (fun u : Int32 × (Nat → Int32) × (Nat → Int32) => ((wX5 cs adt qt (upd Ft 3 u.1) (vA (vA At 0 u.2.1) 1 u.2.2) Bt Dt) ++ (uX3 cs adh qh Fh Ah Bh Dh))))) (by decide) (by simp [lg_sl, Value.category]) ?_
  intro p e s m args below meth c ls A0 hx hb hml hr hlk hown hmn ht hK hP hD hS hA hl
  have hl : lv_has ls 5 [(0, .ref adt), (1, .ref adh), (2, .int a2), (3, .int a3)] := hl
  refine lv_aload_n hx hb dX5_live_0 rfl (lv_at hl 0 rfl) ?_
  refine lv_aload_n hx hb dX5_live_1 rfl (lv_at hl 1 rfl) ?_
  refine lv_iload_n hx hb dX5_live_2 rfl (lv_at hl 2 rfl) ?_
  refine lv_iload_n hx hb dX5_live_3 rfl (lv_at hl 3 rfl) ?_
  refine behR (runVP (As := [.ref adh, .int a2, .int a3]) (rest := []) ⟨hx, hb, hml, hown, ht⟩ (sX5_audible l G cs adt qt Ft At Bt Dt hIt adh qh Fh Ah Bh Dh hIh a2 a3 (by omega)) okV_RX5_63 ⟨by decide, by decide⟩ hK hP [0, 1, 2, 3, 4, 5, 6, 7, 8, 9, 10] rfl 0 rfl rfl hl.1 rfl (Nat.le_of_ble_eq_true rfl) dX5_live_4 ⟨by decide, by decide⟩) hP hS hA (fun r1 H locs hr1 hP hS => ?_)
  have hr1 : r1.toInt = 0 ∨ (0 ≤ a2.toInt ∧ a2.toInt ≤ 6) := hr1
  refine lv_istore (lv' := [(4, .int r1), (0, .ref adt), (1, .ref adh), (2, .int a2), (3, .int a3)]) hx hb dX5_live_7 hl (by decide) rfl (fun ls hl => ?_)
  refine lv_iload hx hb dX5_live_9 (lv_at hl 0 rfl) ?_
  have B36 : ∀ (ft3_36 : Int32) (at0_36 : (Nat → Int32)) (H : Heap) (locs : List Loc) (ls : Array Slot), va_P G vwCl ((uX5 cs adt qt (upv 3 ft3_36 Ft) (vB 0 at0_36 At) Bt Dt) ++ (uX3 cs adh qh Fh Ah Bh Dh)) H → va_D A0 ((uX5 cs adt qt (upv 3 ft3_36 Ft) (vB 0 at0_36 At) Bt Dt) ++ (uX3 cs adh qh Fh Ah Bh Dh)) → va_S A0 s.heap H locs → lv_has ls 5 [(0, .ref adt), (1, .ref adh), (4, .int r1)] → W p l e (rmk 3 0 0) s m args below meth c H locs 0 0 (MQ below ((QDi G (fun (r : Int32) (u : Int32 × (Nat → Int32) × (Nat → Int32)) => True) (fun u : Int32 × (Nat → Int32) × (Nat → Int32) => ((wX5 cs adt qt (upd Ft 3 u.1) (vA (vA At 0 u.2.1) 1 u.2.2) Bt Dt) ++ (uX3 cs adh qh Fh Ah Bh Dh)))) A0) args s 0 0 A0) (F0 m 36 ls []) := by
    intro ft3_36 at0_36 H locs ls hP hD hS hl
    refine lv_aload_n hx hb dX5_live_36 rfl (lv_at hl 0 rfl) ?_
    refine lv_aload_n hx hb dX5_live_37 rfl (lv_at hl 1 rfl) ?_
    refine lv_iconst (v := (-1)) hx hb dX5_live_38 (by decide) ?_
    refine behDi (wr := ([] : va_W)) (runVD (As := [.ref adh, .int (-1)]) (rest := []) ⟨hx, hb, hml, hown, ht⟩ (sX5_pass l G cs adt qt (upv 3 ft3_36 Ft) (vB 0 at0_36 At) Bt Dt (IB_av (k := 0) (IB_pv (k := 3) hIt (i32b _)) (AJ_full _)) adh qh Fh Ah Bh Dh hIh (-1) ) okV_RX5_67 ⟨by decide, by decide⟩ hK hP hD [0, 1, 2, 3, 4, 5, 6, 7, 8, 9, 10] rfl (by decide) rfl 0 rfl rfl hl.1 rfl (Nat.le_of_ble_eq_true rfl) dX5_live_39 ⟨(Nat.le_of_ble_eq_true rfl), (Nat.le_of_ble_eq_true rfl)⟩) hP hD hS hA [0, 1, 2, 3, 4, 5, 6, 7, 8, 9, 10] [] rfl rfl (by decide) (by decide) (fun r9 u H locs hu hP hD hS => ?_)
    obtain ⟨g23001, g23002⟩ := u
    have kk23004 : (-1 : Int32).toInt = (-1) := by decide
    obtain ⟨r23003, rfl⟩ : ∃ z, z = r9 := ⟨_, rfl⟩
    have hr23003 := hu
    have hr23003 : (0 : Int) ≤ r23003.toInt ∧ r23003.toInt ≤ 1 := hr23003
    have hP : va_P G vwCl ((uX5 cs adt qt (upv 3 ft3_36 Ft) (vB 1 g23002 (vB 0 g23001 At)) Bt Dt) ++ (uX3 cs adh qh Fh Ah Bh Dh)) H := hP.sub [0, 1, 2, 3, 4, 5, 6, 7, 8, 9, 10] rfl
    have hD : va_D A0 ((uX5 cs adt qt (upv 3 ft3_36 Ft) (vB 1 g23002 (vB 0 g23001 At)) Bt Dt) ++ (uX3 cs adh qh Fh Ah Bh Dh)) := hD.sub [0, 1, 2, 3, 4, 5, 6, 7, 8, 9, 10] (by decide) rfl
    refine lv_pop hx hb dX5_live_42 rfl ?_
    refine lv_iload hx hb dX5_live_43 (lv_at hl 2 rfl) ?_
    exact retDi (ft3_36, g23001, g23002) hx hb hr hlk hP hD hS dX5_live_45 (trivial) (Nat.le_of_ble_eq_true rfl) (Nat.le_of_ble_eq_true rfl)
  refine lv_if_le (tgt := 36) hx hb dX5_live_11 (by decide) (fun c2 => ?_) (fun c2 => ?_)
  · have zc2 := leK rfl (show (0 : Int32).toInt = 0 by decide) c2
    exact B36 (Ft 3) (At 0) H locs ls hP hD hS (lv_sub hl [1, 2, 0] rfl)
  · have zc2 := nleK rfl (show (0 : Int32).toInt = 0 by decide) c2
    refine lv_aload_n hx hb dX5_live_14 rfl (lv_at hl 1 rfl) ?_
    refine getF (v := .ref (qt 0)) hx hb ht hown hK hP iTX5 0 0 rfl rfl (by decide) fl_RX5_9 rfl dX5_live_15 ?_
    refine lv_iload_n hx hb dX5_live_18 rfl (lv_at hl 3 rfl) ?_
    refine lv_dup2_11 hx hb dX5_live_19 rfl rfl ?_
    refine va_iald hx hb hK.1 hP 1 0 rfl rfl (inK rfl (by omega) (by decide)) dX5_live_20 ?_
    refine lv_topi (fun v3 ev3 => ?_)
    refine lv_iload hx hb dX5_live_21 (lv_at hl 0 rfl) ?_
    refine lv_isub hx hb dX5_live_23 ?_
    refine lv_topi (fun v4 ev4 => ?_)
    refine va_iast hx hb hK.1 hP hD hS 1 0 rfl rfl (inK rfl (by omega) (by decide)) dX5_live_24 (fun H locs hP hD hS => ?_)
    obtain ⟨g5, hP, hD⟩ : ∃ g5 : Nat → Int32, va_P G vwCl ((uX5 cs adt qt Ft (vB 0 g5 At) Bt Dt) ++ (uX3 cs adh qh Fh Ah Bh Dh)) H ∧ va_D A0 ((uX5 cs adt qt Ft (vB 0 g5 At) Bt Dt) ++ (uX3 cs adh qh Fh Ah Bh Dh)) := ⟨upd (At 0) a2.toNatClampNeg v4, hP, hD⟩
    refine lv_aload_n hx hb dX5_live_25 rfl (lv_at hl 1 rfl) ?_
    refine lv_dup hx hb dX5_live_26 rfl ?_
    refine getF (v := .int (Ft 3)) hx hb ht hown hK hP iTX5 0 3 rfl rfl (by decide) fl_RX5_44 rfl dX5_live_27 ?_
    refine lv_iload hx hb dX5_live_30 (lv_at hl 0 rfl) ?_
    refine lv_iadd hx hb dX5_live_32 ?_
    refine lv_topi (fun v6 ev6 => ?_)
    refine putD hx hb ht hown hK hP hD hS iTX5 tyX5 tyX5_ok nmX5 0 3 rfl rfl (by decide) fl_RX5_44 rfl rfl rfl (Nat.le_of_ble_eq_true rfl) dX5_live_33 (fun H locs hP hD hS => ?_)
    have hP : va_P G vwCl ((uX5 cs adt qt (upv 3 v6 Ft) (vB 0 g5 At) Bt Dt) ++ (uX3 cs adh qh Fh Ah Bh Dh)) H := hP
    have hD : va_D A0 ((uX5 cs adt qt (upv 3 v6 Ft) (vB 0 g5 At) Bt Dt) ++ (uX3 cs adh qh Fh Ah Bh Dh)) := hD
    exact B36 v6 g5 H locs ls hP hD hS (lv_sub hl [1, 2, 0] rfl)

set_option maxRecDepth 100000 in
set_option maxHeartbeats 16000000 in
theorem sX9_push (l : Launch) (G : va_G) (cs : Nat → ClassId) (adt : Nat) (qt : Nat → Nat) (Ft : Nat → Int32) (At : Nat → Nat → Int32) (Bt : Nat → Nat → Int64) (Dt : Int64) (hIt : IX9 Ft At) (a1 : Int32) : ∀ sz : Nat, Met l yX9_push (wk yX9_push cX9_push 3 none) (rmk 0 0 0) (PreD G (TY cs) [.ref adt, .int a1] (uX9 cs adt qt Ft At Bt Dt) sz) ((QDw G (fun u : Int32 × (Nat → Int32) => ((0 : Int) ≤ u.1.toInt ∧ u.1.toInt ≤ 900) ∧ (True)) (fun u : Int32 × (Nat → Int32) => (wX9 cs adt qt (upd Ft 1 u.1) (vA At 0 u.2) Bt Dt))) (va_A (uX9 cs adt qt Ft At Bt Dt) sz)) 0 0 (va_A (uX9 cs adt qt Ft At Bt Dt) sz) := by
  refine mkD (Qc := (QDw G (fun u : Int32 × (Nat → Int32) => ((0 : Int) ≤ u.1.toInt ∧ u.1.toInt ≤ 900) ∧ (True)) (fun u : Int32 × (Nat → Int32) => (wX9 cs adt qt (upd Ft 1 u.1) (vA At 0 u.2) Bt Dt)))) (by decide) (by simp [lg_sl, Value.category]) ?_
  intro p e s m args below meth c ls A0 hx hb hml hr hlk hown hmn ht hK hP hD hS hA hl
  have hl : lv_has ls 3 [(0, .ref adt), (1, .int a1)] := hl
  refine lv_bipush (v := 24) hx hb dX9_push_0 (by decide) ?_
  refine lv_istore_n (lv' := [(2, .int 24), (0, .ref adt), (1, .int a1)]) hx hb dX9_push_2 rfl hl (by decide) rfl (fun ls hl => ?_)
  have B3 : ∀ (n : Nat) (x3_2 : Int32) (ft1_3 : Int32) (at0_3 : (Nat → Int32)) (H : Heap) (locs : List Loc) (ls : Array Slot), (x3_2.toInt - (-8)).toNat < n → (-8 : Int) ≤ x3_2.toInt ∧ x3_2.toInt ≤ 24 → (0 : Int) ≤ ft1_3.toInt ∧ ft1_3.toInt ≤ 900 → va_P G vwCl (uX9 cs adt qt (upv 1 ft1_3 Ft) (vB 0 at0_3 At) Bt Dt) H → va_D A0 (uX9 cs adt qt (upv 1 ft1_3 Ft) (vB 0 at0_3 At) Bt Dt) → va_S A0 s.heap H locs → lv_has ls 3 [(0, .ref adt), (1, .int a1), (2, .int x3_2)] → W p l e (rmk 0 0 0) s m args below meth c H locs 0 0 (MQ below ((QDw G (fun u : Int32 × (Nat → Int32) => ((0 : Int) ≤ u.1.toInt ∧ u.1.toInt ≤ 900) ∧ (True)) (fun u : Int32 × (Nat → Int32) => (wX9 cs adt qt (upd Ft 1 u.1) (vA At 0 u.2) Bt Dt))) A0) args s 0 0 A0) (F0 m 3 ls []) := by
    intro n
    induction n with
    | zero => intro x3_2 ft1_3 at0_3 H locs ls hmeas hx3_2 hft1_3 hP hD hS hl; exact absurd hmeas (Nat.not_lt_zero _)
    | succ n ih3 =>
      intro x3_2 ft1_3 at0_3 H locs ls hmeas hx3_2 hft1_3 hP hD hS hl
      refine lv_iload_n hx hb dX9_push_3 rfl (lv_at hl 2 rfl) ?_
      refine lv_if_lt (tgt := 46) hx hb dX9_push_4 (by decide) (fun c3001 => ?_) (fun c3001 => ?_)
      · have zc3001 := ltK rfl (show (0 : Int32).toInt = 0 by decide) c3001
        exact retDw (ft1_3, at0_3) hx hb hr hlk hP hD hS dX9_push_46 (⟨show (0 : Int) ≤ ft1_3.toInt ∧ ft1_3.toInt ≤ 900 by omega, trivial⟩) (Nat.le_of_ble_eq_true rfl) (Nat.le_of_ble_eq_true rfl)
      · have zc3001 := nltK rfl (show (0 : Int32).toInt = 0 by decide) c3001
        refine lv_aload_n hx hb dX9_push_7 rfl (lv_at hl 0 rfl) ?_
        refine getF (v := .int ft1_3) hx hb ht hown hK hP iTX9 0 1 rfl rfl (by decide) fl_RX9_15 rfl dX9_push_8 ?_
        refine lv_sipush (v := 900) hx hb dX9_push_11 (by decide) ?_
        refine lv_icmp_ge (tgt := 46) hx hb dX9_push_14 (by decide) (fun c3002 => ?_) (fun c3002 => ?_)
        · have zc3002 := leK (show (900 : Int32).toInt = 900 by decide) rfl c3002
          exact retDw (ft1_3, at0_3) hx hb hr hlk hP hD hS dX9_push_46 (⟨show (0 : Int) ≤ ft1_3.toInt ∧ ft1_3.toInt ≤ 900 by omega, trivial⟩) (Nat.le_of_ble_eq_true rfl) (Nat.le_of_ble_eq_true rfl)
        · have zc3002 := nleK (show (900 : Int32).toInt = 900 by decide) rfl c3002
          refine lv_aload_n hx hb dX9_push_17 rfl (lv_at hl 0 rfl) ?_
          refine getF (v := .ref (qt 0)) hx hb ht hown hK hP iTX9 0 0 rfl rfl (by decide) fl_RX9_9 rfl dX9_push_18 ?_
          refine lv_aload_n hx hb dX9_push_21 rfl (lv_at hl 0 rfl) ?_
          refine getF (v := .int ft1_3) hx hb ht hown hK hP iTX9 0 1 rfl rfl (by decide) fl_RX9_15 rfl dX9_push_22 ?_
          refine lv_iload_n hx hb dX9_push_25 rfl (lv_at hl 1 rfl) ?_
          refine lv_iload_n hx hb dX9_push_26 rfl (lv_at hl 2 rfl) ?_
          refine lv_ishr hx hb dX9_push_27 ?_
          refine lv_topi (fun v3003 ev3003 => ?_)
          refine lv_i2b hx hb dX9_push_28 rfl ?_
          refine lv_topi (fun v3004 ev3004 => ?_)
          refine va_bast hx hb hK.1 hP hD hS 1 1 rfl rfl (inK rfl (by omega) (by decide)) dX9_push_29 (fun H locs hP hD hS => ?_)
          obtain ⟨g3005, hP, hD⟩ : ∃ g3005 : Nat → Int32, va_P G vwCl (uX9 cs adt qt (upv 1 ft1_3 Ft) (vB 0 g3005 At) Bt Dt) H ∧ va_D A0 (uX9 cs adt qt (upv 1 ft1_3 Ft) (vB 0 g3005 At) Bt Dt) := ⟨upd at0_3 ft1_3.toNatClampNeg (vp_nar .byte v3004), hP, hD⟩
          refine lv_aload_n hx hb dX9_push_30 rfl (lv_at hl 0 rfl) ?_
          refine lv_dup hx hb dX9_push_31 rfl ?_
          refine getF (v := .int ft1_3) hx hb ht hown hK hP iTX9 0 1 rfl rfl (by decide) fl_RX9_15 rfl dX9_push_32 ?_
          refine lv_iconst (v := 1) hx hb dX9_push_35 (by decide) ?_
          refine lv_iadd hx hb dX9_push_36 ?_
          refine lv_topi (fun v3006 ev3006 => ?_)
          have tv3006 : v3006.toInt = ft1_3.toInt + 1 := by rw [ev3006]; exact addT rfl (show (1 : Int32).toInt = 1 by decide) (by omega)
          refine putD hx hb ht hown hK hP hD hS iTX9 tyX9 tyX9_ok nmX9 0 1 rfl rfl (by decide) fl_RX9_15 rfl rfl rfl (Nat.le_of_ble_eq_true rfl) dX9_push_37 (fun H locs hP hD hS => ?_)
          have hP : va_P G vwCl (uX9 cs adt qt (upv 1 v3006 Ft) (vB 0 g3005 At) Bt Dt) H := hP
          have hD : va_D A0 (uX9 cs adt qt (upv 1 v3006 Ft) (vB 0 g3005 At) Bt Dt) := hD
          obtain ⟨v3007, ev3007⟩ : ∃ z : Int32, z = x3_2 + (-8) := ⟨_, rfl⟩
          have tv3007 : v3007.toInt = x3_2.toInt + (-8) := by rw [ev3007]; exact addT rfl (by decide) (by omega)
          refine lv_iinc (v := v3007) (lv' := [(2, .int v3007), (0, .ref adt), (1, .int a1)]) hx hb dX9_push_40 hl (k := 2) rfl (by rw [ev3007]; rfl) (by decide) rfl (fun ls hl => ?_)
          refine lv_goto (tgt := 3) hx hb dX9_push_43 (by decide) ?_
          exact ih3 v3007 v3006 g3005 H locs ls (by omega) (by omega) (by omega) hP hD hS (lv_sub hl [1, 2, 0] rfl)
  exact B3 _ 24 (Ft 1) (At 0) s.heap [] ls (Nat.lt_succ_self _) (by decide) (hIt.1 1) hP hD hS (lv_sub hl [1, 2, 0] rfl)

set_option maxRecDepth 100000 in
set_option maxHeartbeats 16000000 in
theorem sX9_at (l : Launch) (G : va_G) (cs : Nat → ClassId) (adt : Nat) (qt : Nat → Nat) (Ft : Nat → Int32) (At : Nat → Nat → Int32) (Bt : Nat → Nat → Int64) (Dt : Int64) (hIt : IX9 Ft At) (a1 : Int32) : ∀ sz : Nat, Met l yX9_at (wk yX9_at cX9_at 2 (some .int)) (rmk 0 0 0) (PreP G (TY cs) [.ref adt, .int a1] (uX9 cs adt qt Ft At Bt Dt) sz) (QRi (fun r : Int32 => (0 : Int) ≤ r.toInt ∧ r.toInt ≤ 255) sz) 0 0 (fun q => sz ≤ q) := by
  refine mkP (Qc := QRi (fun r : Int32 => (0 : Int) ≤ r.toInt ∧ r.toInt ≤ 255)) (by decide) (by simp [lg_sl, Value.category]) ?_
  intro p e s m args below meth c ls hx hb hml hr hlk hown ht hK hP hS hl
  have hl : lv_has ls 2 [(0, .ref adt), (1, .int a1)] := hl
  refine lv_iload_n hx hb dX9_at_0 rfl (lv_at hl 1 rfl) ?_
  refine lv_if_lt (tgt := 25) hx hb dX9_at_1 (by decide) (fun c1 => ?_) (fun c1 => ?_)
  · have zc1 := ltK rfl (show (0 : Int32).toInt = 0 by decide) c1
    refine lv_iconst (v := 0) hx hb dX9_at_25 (by decide) ?_
    exact retRi hx hb hr hlk hS dX9_at_26 (show (0 : Int) ≤ (0 : Int32).toInt ∧ (0 : Int32).toInt ≤ 255 by have kk : (0 : Int32).toInt = 0 := (by decide); omega)
  · have zc1 := nltK rfl (show (0 : Int32).toInt = 0 by decide) c1
    refine lv_iload_n hx hb dX9_at_4 rfl (lv_at hl 1 rfl) ?_
    refine lv_aload_n hx hb dX9_at_5 rfl (lv_at hl 0 rfl) ?_
    refine getF (v := .int (Ft 1)) hx hb ht hown hK hP iTX9 0 1 rfl rfl (by decide) fl_RX9_15 rfl dX9_at_6 ?_
    have zf2 : (0 : Int) ≤ (Ft 1).toInt ∧ (Ft 1).toInt ≤ 900 := hIt.1 1
    refine lv_icmp_ge (tgt := 25) hx hb dX9_at_9 (by decide) (fun c3 => ?_) (fun c3 => ?_)
    · have zc3 := leK rfl rfl c3
      refine lv_iconst (v := 0) hx hb dX9_at_25 (by decide) ?_
      exact retRi hx hb hr hlk hS dX9_at_26 (show (0 : Int) ≤ (0 : Int32).toInt ∧ (0 : Int32).toInt ≤ 255 by have kk : (0 : Int32).toInt = 0 := (by decide); omega)
    · have zc3 := nleK rfl rfl c3
      refine lv_aload_n hx hb dX9_at_12 rfl (lv_at hl 0 rfl) ?_
      refine getF (v := .ref (qt 0)) hx hb ht hown hK hP iTX9 0 0 rfl rfl (by decide) fl_RX9_9 rfl dX9_at_13 ?_
      refine lv_iload_n hx hb dX9_at_16 rfl (lv_at hl 1 rfl) ?_
      refine va_bald hx hb hK.1 hP 1 1 rfl rfl (inK rfl (by omega) (by decide)) dX9_at_17 ?_
      refine lv_topi (fun v4 ev4 => ?_)
      refine lv_sipush (v := 255) hx hb dX9_at_18 (by decide) ?_
      refine lv_iand hx hb dX9_at_21 ?_
      refine lv_topi (fun v5 ev5 => ?_)
      have tv5 : 0 ≤ v5.toInt ∧ v5.toInt ≤ 255 := by rw [ev5]; exact andT 8 (by decide) (by decide) (by decide)
      refine lv_goto (tgt := 26) hx hb dX9_at_22 (by decide) ?_
      exact retRi hx hb hr hlk hS dX9_at_26 (show (0 : Int) ≤ v5.toInt ∧ v5.toInt ≤ 255 by omega)

set_option maxRecDepth 100000 in
set_option maxHeartbeats 16000000 in
theorem sX6_isBlank (l : Launch) (G : va_G) (cs : Nat → ClassId) (adt : Nat) (qt : Nat → Nat) (Ft : Nat → Int32) (At : Nat → Nat → Int32) (Bt : Nat → Nat → Int64) (Dt : Int64) (hIt : IX6 Ft At) (qtp : Nat → Nat) (Ftp : Nat → Int32) (Atp : Nat → Nat → Int32) (Btp : Nat → Nat → Int64) (Dtp : Int64) (hItp : IX9 Ftp Atp) (a1 : Int32) : ∀ sz : Nat, Met l yX6_isBlank (wk yX6_isBlank cX6_isBlank 2 (some .boolean)) (rmk 0 0 0) (PreP G (TY cs) [.ref adt, .int a1] ((uX6 cs adt qt Ft At Bt Dt) ++ (uX9 cs (qt 0) qtp Ftp Atp Btp Dtp)) sz) (QRi (fun r : Int32 => (0 : Int) ≤ r.toInt ∧ r.toInt ≤ 1) sz) 0 0 (fun q => sz ≤ q) := by
  refine mkP (Qc := QRi (fun r : Int32 => (0 : Int) ≤ r.toInt ∧ r.toInt ≤ 1)) (by decide) (by simp [lg_sl, Value.category]) ?_
  intro p e s m args below meth c ls hx hb hml hr hlk hown ht hK hP hS hl
  have hl : lv_has ls 2 [(0, .ref adt), (1, .int a1)] := hl
  refine lv_iload_n hx hb dX6_isBlank_0 rfl (lv_at hl 1 rfl) ?_
  refine lv_bipush (v := 32) hx hb dX6_isBlank_1 (by decide) ?_
  refine lv_icmp_eq (tgt := 12) hx hb dX6_isBlank_3 (by decide) (fun c1 => ?_) (fun c1 => ?_)
  · have zc1 := eqK rfl (show (32 : Int32).toInt = 32 by decide) c1
    refine lv_iconst (v := 1) hx hb dX6_isBlank_12 (by decide) ?_
    refine lv_goto (tgt := 17) hx hb dX6_isBlank_13 (by decide) ?_
    exact retRz hx hb hr hlk hS dX6_isBlank_17 (rfl) (show (0 : Int) ≤ (1 : Int32).toInt ∧ (1 : Int32).toInt ≤ 1 by have kk : (1 : Int32).toInt = 1 := (by decide); omega)
  · have zc1 := neK rfl (show (32 : Int32).toInt = 32 by decide) c1
    refine lv_iload_n hx hb dX6_isBlank_6 rfl (lv_at hl 1 rfl) ?_
    refine lv_bipush (v := 10) hx hb dX6_isBlank_7 (by decide) ?_
    refine lv_icmp_ne (tgt := 16) hx hb dX6_isBlank_9 (by decide) (fun c2 => ?_) (fun c2 => ?_)
    · have zc2 := neK rfl (show (10 : Int32).toInt = 10 by decide) c2
      refine lv_iconst (v := 0) hx hb dX6_isBlank_16 (by decide) ?_
      exact retRz hx hb hr hlk hS dX6_isBlank_17 (rfl) (show (0 : Int) ≤ (0 : Int32).toInt ∧ (0 : Int32).toInt ≤ 1 by have kk : (0 : Int32).toInt = 0 := (by decide); omega)
    · have zc2 := eqK rfl (show (10 : Int32).toInt = 10 by decide) c2
      refine lv_iconst (v := 1) hx hb dX6_isBlank_12 (by decide) ?_
      refine lv_goto (tgt := 17) hx hb dX6_isBlank_13 (by decide) ?_
      exact retRz hx hb hr hlk hS dX6_isBlank_17 (rfl) (show (0 : Int) ≤ (1 : Int32).toInt ∧ (1 : Int32).toInt ≤ 1 by have kk : (1 : Int32).toInt = 1 := (by decide); omega)

set_option maxRecDepth 100000 in
set_option maxHeartbeats 16000000 in
theorem sX6_kindOf (l : Launch) (G : va_G) (cs : Nat → ClassId) (adt : Nat) (qt : Nat → Nat) (Ft : Nat → Int32) (At : Nat → Nat → Int32) (Bt : Nat → Nat → Int64) (Dt : Int64) (hIt : IX6 Ft At) (qtp : Nat → Nat) (Ftp : Nat → Int32) (Atp : Nat → Nat → Int32) (Btp : Nat → Nat → Int64) (Dtp : Int64) (hItp : IX9 Ftp Atp) (a1 : Int32) : ∀ sz : Nat, Met l yX6_kindOf (wk yX6_kindOf cX6_kindOf 2 (some .int)) (rmk 0 0 0) (PreP G (TY cs) [.ref adt, .int a1] ((uX6 cs adt qt Ft At Bt Dt) ++ (uX9 cs (qt 0) qtp Ftp Atp Btp Dtp)) sz) (QRi (fun r : Int32 => (1 : Int) ≤ r.toInt ∧ r.toInt ≤ 4) sz) 0 0 (fun q => sz ≤ q) := by
  refine mkP (Qc := QRi (fun r : Int32 => (1 : Int) ≤ r.toInt ∧ r.toInt ≤ 4)) (by decide) (by simp [lg_sl, Value.category]) ?_
  intro p e s m args below meth c ls hx hb hml hr hlk hown ht hK hP hS hl
  have hl : lv_has ls 2 [(0, .ref adt), (1, .int a1)] := hl
  refine lv_iload_n hx hb dX6_kindOf_0 rfl (lv_at hl 1 rfl) ?_
  refine lv_bipush (v := 97) hx hb dX6_kindOf_1 (by decide) ?_
  have B14 : ∀ (H : Heap) (locs : List Loc) (ls : Array Slot), va_P G vwCl ((uX6 cs adt qt Ft At Bt Dt) ++ (uX9 cs (qt 0) qtp Ftp Atp Btp Dtp)) H → va_S (fun q => s.heap.size ≤ q) s.heap H locs → lv_has ls 2 [(1, .int a1)] → W p l e (rmk 0 0 0) s m args below meth c H locs 0 0 (MQ below (QRi (fun r : Int32 => (1 : Int) ≤ r.toInt ∧ r.toInt ≤ 4) s.heap.size) args s 0 0 (fun q => s.heap.size ≤ q)) (F0 m 14 ls []) := by
    intro H locs ls hP hS hl
    refine lv_iload_n hx hb dX6_kindOf_14 rfl (lv_at hl 0 rfl) ?_
    refine lv_bipush (v := 48) hx hb dX6_kindOf_15 (by decide) ?_
    have B28 : ∀ (H : Heap) (locs : List Loc) (ls : Array Slot), va_P G vwCl ((uX6 cs adt qt Ft At Bt Dt) ++ (uX9 cs (qt 0) qtp Ftp Atp Btp Dtp)) H → va_S (fun q => s.heap.size ≤ q) s.heap H locs → lv_has ls 2 [(1, .int a1)] → W p l e (rmk 0 0 0) s m args below meth c H locs 0 0 (MQ below (QRi (fun r : Int32 => (1 : Int) ≤ r.toInt ∧ r.toInt ≤ 4) s.heap.size) args s 0 0 (fun q => s.heap.size ≤ q)) (F0 m 28 ls []) := by
      intro H locs ls hP hS hl
      refine lv_iload_n hx hb dX6_kindOf_28 rfl (lv_at hl 0 rfl) ?_
      refine lv_bipush (v := 59) hx hb dX6_kindOf_29 (by decide) ?_
      refine lv_icmp_ne (tgt := 38) hx hb dX6_kindOf_31 (by decide) (fun c17001 => ?_) (fun c17001 => ?_)
      · have zc17001 := neK rfl (show (59 : Int32).toInt = 59 by decide) c17001
        refine lv_iconst (v := 4) hx hb dX6_kindOf_38 (by decide) ?_
        exact retRi hx hb hr hlk hS dX6_kindOf_39 (show (1 : Int) ≤ (4 : Int32).toInt ∧ (4 : Int32).toInt ≤ 4 by have kk : (4 : Int32).toInt = 4 := (by decide); omega)
      · have zc17001 := eqK rfl (show (59 : Int32).toInt = 59 by decide) c17001
        refine lv_iconst (v := 3) hx hb dX6_kindOf_34 (by decide) ?_
        refine lv_goto (tgt := 39) hx hb dX6_kindOf_35 (by decide) ?_
        exact retRi hx hb hr hlk hS dX6_kindOf_39 (show (1 : Int) ≤ (3 : Int32).toInt ∧ (3 : Int32).toInt ≤ 4 by have kk : (3 : Int32).toInt = 3 := (by decide); omega)
    refine lv_icmp_lt (tgt := 28) hx hb dX6_kindOf_17 (by decide) (fun c9001 => ?_) (fun c9001 => ?_)
    · have zc9001 := ltK rfl (show (48 : Int32).toInt = 48 by decide) c9001
      exact B28 H locs ls hP hS (lv_sub hl [0] rfl)
    · have zc9001 := nltK rfl (show (48 : Int32).toInt = 48 by decide) c9001
      refine lv_iload_n hx hb dX6_kindOf_20 rfl (lv_at hl 0 rfl) ?_
      refine lv_bipush (v := 57) hx hb dX6_kindOf_21 (by decide) ?_
      refine lv_icmp_gt (tgt := 28) hx hb dX6_kindOf_23 (by decide) (fun c9002 => ?_) (fun c9002 => ?_)
      · have zc9002 := ltK (show (57 : Int32).toInt = 57 by decide) rfl c9002
        exact B28 H locs ls hP hS (lv_sub hl [0] rfl)
      · have zc9002 := nltK (show (57 : Int32).toInt = 57 by decide) rfl c9002
        refine lv_iconst (v := 2) hx hb dX6_kindOf_26 (by decide) ?_
        exact retRi hx hb hr hlk hS dX6_kindOf_27 (show (1 : Int) ≤ (2 : Int32).toInt ∧ (2 : Int32).toInt ≤ 4 by have kk : (2 : Int32).toInt = 2 := (by decide); omega)
  refine lv_icmp_lt (tgt := 14) hx hb dX6_kindOf_3 (by decide) (fun c1 => ?_) (fun c1 => ?_)
  · have zc1 := ltK rfl (show (97 : Int32).toInt = 97 by decide) c1
    exact B14 s.heap [] ls hP hS (lv_sub hl [1] rfl)
  · have zc1 := nltK rfl (show (97 : Int32).toInt = 97 by decide) c1
    refine lv_iload_n hx hb dX6_kindOf_6 rfl (lv_at hl 1 rfl) ?_
    refine lv_bipush (v := 122) hx hb dX6_kindOf_7 (by decide) ?_
    refine lv_icmp_gt (tgt := 14) hx hb dX6_kindOf_9 (by decide) (fun c2 => ?_) (fun c2 => ?_)
    · have zc2 := ltK (show (122 : Int32).toInt = 122 by decide) rfl c2
      exact B14 s.heap [] ls hP hS (lv_sub hl [1] rfl)
    · have zc2 := nltK (show (122 : Int32).toInt = 122 by decide) rfl c2
      refine lv_iconst (v := 1) hx hb dX6_kindOf_12 (by decide) ?_
      exact retRi hx hb hr hlk hS dX6_kindOf_13 (show (1 : Int) ≤ (1 : Int32).toInt ∧ (1 : Int32).toInt ≤ 4 by have kk : (1 : Int32).toInt = 1 := (by decide); omega)

set_option maxRecDepth 100000 in
set_option maxHeartbeats 16000000 in
theorem sX6_advance (l : Launch) (G : va_G) (cs : Nat → ClassId) (adt : Nat) (qt : Nat → Nat) (Ft : Nat → Int32) (At : Nat → Nat → Int32) (Bt : Nat → Nat → Int64) (Dt : Int64) (hIt : IX6 Ft At) (qtp : Nat → Nat) (Ftp : Nat → Int32) (Atp : Nat → Nat → Int32) (Btp : Nat → Nat → Int64) (Dtp : Int64) (hItp : IX9 Ftp Atp) : ∀ sz : Nat, Met l yX6_advance (wk yX6_advance cX6_advance 1 none) (rmk 1 0 0) (PreD G (TY cs) [.ref adt] ((uX6 cs adt qt Ft At Bt Dt) ++ (uX9 cs (qt 0) qtp Ftp Atp Btp Dtp)) sz) ((QDw G (fun u : Int32 × Int32 × Int32 × Int32 => ((0 : Int) ≤ u.1.toInt ∧ u.1.toInt ≤ 900) ∧ ((0 : Int) ≤ u.2.1.toInt ∧ u.2.1.toInt ≤ 4) ∧ ((0 : Int) ≤ u.2.2.1.toInt ∧ u.2.2.1.toInt ≤ 900) ∧ (True)) (fun u : Int32 × Int32 × Int32 × Int32 => ((wX6 cs adt qt (upd (upd (upd (upd Ft 1 u.1) 2 u.2.1) 3 u.2.2.1) 4 u.2.2.2) At Bt Dt) ++ (uX9 cs (qt 0) qtp Ftp Atp Btp Dtp)))) (va_A ((uX6 cs adt qt Ft At Bt Dt) ++ (uX9 cs (qt 0) qtp Ftp Atp Btp Dtp)) sz)) 0 0 (va_A ((uX6 cs adt qt Ft At Bt Dt) ++ (uX9 cs (qt 0) qtp Ftp Atp Btp Dtp)) sz) := by
  refine mkD (Qc := (QDw G (fun u : Int32 × Int32 × Int32 × Int32 => ((0 : Int) ≤ u.1.toInt ∧ u.1.toInt ≤ 900) ∧ ((0 : Int) ≤ u.2.1.toInt ∧ u.2.1.toInt ≤ 4) ∧ ((0 : Int) ≤ u.2.2.1.toInt ∧ u.2.2.1.toInt ≤ 900) ∧ (True)) (fun u : Int32 × Int32 × Int32 × Int32 => ((wX6 cs adt qt (upd (upd (upd (upd Ft 1 u.1) 2 u.2.1) 3 u.2.2.1) 4 u.2.2.2) At Bt Dt) ++ (uX9 cs (qt 0) qtp Ftp Atp Btp Dtp))))) (by decide) (by simp [lg_sl, Value.category]) ?_
  intro p e s m args below meth c ls A0 hx hb hml hr hlk hown hmn ht hK hP hD hS hA hl
  have hl : lv_has ls 1 [(0, .ref adt)] := hl
  have B0 : ∀ (n : Nat) (ft1_0 : Int32) (H : Heap) (locs : List Loc) (ls : Array Slot), (900 - ft1_0.toInt).toNat < n → (0 : Int) ≤ ft1_0.toInt ∧ ft1_0.toInt ≤ 900 → va_P G vwCl ((uX6 cs adt qt (upv 1 ft1_0 Ft) At Bt Dt) ++ (uX9 cs (qt 0) qtp Ftp Atp Btp Dtp)) H → va_D A0 ((uX6 cs adt qt (upv 1 ft1_0 Ft) At Bt Dt) ++ (uX9 cs (qt 0) qtp Ftp Atp Btp Dtp)) → va_S A0 s.heap H locs → lv_has ls 1 [(0, .ref adt)] → W p l e (rmk 1 0 0) s m args below meth c H locs 0 0 (MQ below ((QDw G (fun u : Int32 × Int32 × Int32 × Int32 => ((0 : Int) ≤ u.1.toInt ∧ u.1.toInt ≤ 900) ∧ ((0 : Int) ≤ u.2.1.toInt ∧ u.2.1.toInt ≤ 4) ∧ ((0 : Int) ≤ u.2.2.1.toInt ∧ u.2.2.1.toInt ≤ 900) ∧ (True)) (fun u : Int32 × Int32 × Int32 × Int32 => ((wX6 cs adt qt (upd (upd (upd (upd Ft 1 u.1) 2 u.2.1) 3 u.2.2.1) 4 u.2.2.2) At Bt Dt) ++ (uX9 cs (qt 0) qtp Ftp Atp Btp Dtp)))) A0) args s 0 0 A0) (F0 m 0 ls []) := by
    intro n
    induction n with
    | zero => intro ft1_0 H locs ls hmeas hft1_0 hP hD hS hl; exact absurd hmeas (Nat.not_lt_zero _)
    | succ n ih0 =>
      intro ft1_0 H locs ls hmeas hft1_0 hP hD hS hl
      refine lv_aload_n hx hb dX6_advance_0 rfl (lv_at hl 0 rfl) ?_
      refine getF (v := .int ft1_0) hx hb ht hown hK hP iTX6 0 1 rfl rfl (by decide) fl_RX6_30 rfl dX6_advance_1 ?_
      refine lv_aload_n hx hb dX6_advance_4 rfl (lv_at hl 0 rfl) ?_
      refine getF (v := .ref (qt 0)) hx hb ht hown hK hP iTX6 0 0 rfl rfl (by decide) fl_RX6_12 rfl dX6_advance_5 ?_
      refine getF (v := .int (Ftp 1)) hx hb ht hown hK hP iTX9 1 1 rfl rfl (by decide) fl_RX6_165 rfl dX6_advance_8 ?_
      have zf1001 : (0 : Int) ≤ (Ftp 1).toInt ∧ (Ftp 1).toInt ≤ 900 := hItp.1 1
      have B45 : ∀ (H : Heap) (locs : List Loc) (ls : Array Slot), va_P G vwCl ((uX6 cs adt qt (upv 1 ft1_0 Ft) At Bt Dt) ++ (uX9 cs (qt 0) qtp Ftp Atp Btp Dtp)) H → va_D A0 ((uX6 cs adt qt (upv 1 ft1_0 Ft) At Bt Dt) ++ (uX9 cs (qt 0) qtp Ftp Atp Btp Dtp)) → va_S A0 s.heap H locs → lv_has ls 1 [(0, .ref adt)] → W p l e (rmk 1 0 0) s m args below meth c H locs 0 0 (MQ below ((QDw G (fun u : Int32 × Int32 × Int32 × Int32 => ((0 : Int) ≤ u.1.toInt ∧ u.1.toInt ≤ 900) ∧ ((0 : Int) ≤ u.2.1.toInt ∧ u.2.1.toInt ≤ 4) ∧ ((0 : Int) ≤ u.2.2.1.toInt ∧ u.2.2.1.toInt ≤ 900) ∧ (True)) (fun u : Int32 × Int32 × Int32 × Int32 => ((wX6 cs adt qt (upd (upd (upd (upd Ft 1 u.1) 2 u.2.1) 3 u.2.2.1) 4 u.2.2.2) At Bt Dt) ++ (uX9 cs (qt 0) qtp Ftp Atp Btp Dtp)))) A0) args s 0 0 A0) (F0 m 45 ls []) := by
        intro H locs ls hP hD hS hl
        refine lv_aload_n hx hb dX6_advance_45 rfl (lv_at hl 0 rfl) ?_
        refine lv_aload_n hx hb dX6_advance_46 rfl (lv_at hl 0 rfl) ?_
        refine getF (v := .int ft1_0) hx hb ht hown hK hP iTX6 0 1 rfl rfl (by decide) fl_RX6_30 rfl dX6_advance_47 ?_
        refine putD hx hb ht hown hK hP hD hS iTX6 tyX6 tyX6_ok nmX6 0 3 rfl rfl (by decide) fl_RX6_150 rfl rfl rfl (Nat.le_of_ble_eq_true rfl) dX6_advance_50 (fun H locs hP hD hS => ?_)
        have hP : va_P G vwCl ((uX6 cs adt qt (upv 3 ft1_0 (upv 1 ft1_0 Ft)) At Bt Dt) ++ (uX9 cs (qt 0) qtp Ftp Atp Btp Dtp)) H := hP
        have hD : va_D A0 ((uX6 cs adt qt (upv 3 ft1_0 (upv 1 ft1_0 Ft)) At Bt Dt) ++ (uX9 cs (qt 0) qtp Ftp Atp Btp Dtp)) := hD
        refine lv_aload_n hx hb dX6_advance_53 rfl (lv_at hl 0 rfl) ?_
        refine lv_iconst (v := 0) hx hb dX6_advance_54 (by decide) ?_
        refine putD hx hb ht hown hK hP hD hS iTX6 tyX6 tyX6_ok nmX6 0 4 rfl rfl (by decide) fl_RX6_147 rfl rfl rfl (Nat.le_of_ble_eq_true rfl) dX6_advance_55 (fun H locs hP hD hS => ?_)
        have hP : va_P G vwCl ((uX6 cs adt qt (upv 4 (0 : Int32) (upv 3 ft1_0 (upv 1 ft1_0 Ft))) At Bt Dt) ++ (uX9 cs (qt 0) qtp Ftp Atp Btp Dtp)) H := hP
        have hD : va_D A0 ((uX6 cs adt qt (upv 4 (0 : Int32) (upv 3 ft1_0 (upv 1 ft1_0 Ft))) At Bt Dt) ++ (uX9 cs (qt 0) qtp Ftp Atp Btp Dtp)) := hD
        refine lv_aload_n hx hb dX6_advance_58 rfl (lv_at hl 0 rfl) ?_
        refine lv_aload_n hx hb dX6_advance_59 rfl (lv_at hl 0 rfl) ?_
        refine getF (v := .int ft1_0) hx hb ht hown hK hP iTX6 0 1 rfl rfl (by decide) fl_RX6_30 rfl dX6_advance_60 ?_
        refine lv_aload_n hx hb dX6_advance_63 rfl (lv_at hl 0 rfl) ?_
        refine getF (v := .ref (qt 0)) hx hb ht hown hK hP iTX6 0 0 rfl rfl (by decide) fl_RX6_12 rfl dX6_advance_64 ?_
        refine getF (v := .int (Ftp 1)) hx hb ht hown hK hP iTX9 1 1 rfl rfl (by decide) fl_RX6_165 rfl dX6_advance_67 ?_
        have zf22001 : (0 : Int) ≤ (Ftp 1).toInt ∧ (Ftp 1).toInt ≤ 900 := hItp.1 1
        have B92 : ∀ (s92_0 : Int32) (H : Heap) (locs : List Loc) (ls : Array Slot), (0 : Int) ≤ s92_0.toInt ∧ s92_0.toInt ≤ 4 → (s92_0.toInt = 0 ∨ ft1_0.toInt < (Ftp 1).toInt) → va_P G vwCl ((uX6 cs adt qt (upv 4 (0 : Int32) (upv 3 ft1_0 (upv 1 ft1_0 Ft))) At Bt Dt) ++ (uX9 cs (qt 0) qtp Ftp Atp Btp Dtp)) H → va_D A0 ((uX6 cs adt qt (upv 4 (0 : Int32) (upv 3 ft1_0 (upv 1 ft1_0 Ft))) At Bt Dt) ++ (uX9 cs (qt 0) qtp Ftp Atp Btp Dtp)) → va_S A0 s.heap H locs → lv_has ls 1 [(0, .ref adt)] → W p l e (rmk 1 0 0) s m args below meth c H locs 0 0 (MQ below ((QDw G (fun u : Int32 × Int32 × Int32 × Int32 => ((0 : Int) ≤ u.1.toInt ∧ u.1.toInt ≤ 900) ∧ ((0 : Int) ≤ u.2.1.toInt ∧ u.2.1.toInt ≤ 4) ∧ ((0 : Int) ≤ u.2.2.1.toInt ∧ u.2.2.1.toInt ≤ 900) ∧ (True)) (fun u : Int32 × Int32 × Int32 × Int32 => ((wX6 cs adt qt (upd (upd (upd (upd Ft 1 u.1) 2 u.2.1) 3 u.2.2.1) 4 u.2.2.2) At Bt Dt) ++ (uX9 cs (qt 0) qtp Ftp Atp Btp Dtp)))) A0) args s 0 0 A0) (F0 m 92 ls [.int s92_0, .ref adt]) := by
          intro s92_0 H locs ls hs92_0 h92 hP hD hS hl
          refine putD hx hb ht hown hK hP hD hS iTX6 tyX6 tyX6_ok nmX6 0 2 rfl rfl (by decide) fl_RX6_36 rfl rfl rfl (Nat.le_of_ble_eq_true rfl) dX6_advance_92 (fun H locs hP hD hS => ?_)
          have hP : va_P G vwCl ((uX6 cs adt qt (upv 4 (0 : Int32) (upv 3 ft1_0 (upv 2 s92_0 (upv 1 ft1_0 Ft)))) At Bt Dt) ++ (uX9 cs (qt 0) qtp Ftp Atp Btp Dtp)) H := hP
          have hD : va_D A0 ((uX6 cs adt qt (upv 4 (0 : Int32) (upv 3 ft1_0 (upv 2 s92_0 (upv 1 ft1_0 Ft)))) At Bt Dt) ++ (uX9 cs (qt 0) qtp Ftp Atp Btp Dtp)) := hD
          refine lv_aload_n hx hb dX6_advance_95 rfl (lv_at hl 0 rfl) ?_
          refine getF (v := .int s92_0) hx hb ht hown hK hP iTX6 0 2 rfl rfl (by decide) fl_RX6_36 rfl dX6_advance_96 ?_
          refine lv_iconst (v := 3) hx hb dX6_advance_99 (by decide) ?_
          have B111 : ∀ (H : Heap) (locs : List Loc) (ls : Array Slot), (¬ s92_0.toInt = 0) → va_P G vwCl ((uX6 cs adt qt (upv 4 (0 : Int32) (upv 3 ft1_0 (upv 2 s92_0 (upv 1 ft1_0 Ft)))) At Bt Dt) ++ (uX9 cs (qt 0) qtp Ftp Atp Btp Dtp)) H → va_D A0 ((uX6 cs adt qt (upv 4 (0 : Int32) (upv 3 ft1_0 (upv 2 s92_0 (upv 1 ft1_0 Ft)))) At Bt Dt) ++ (uX9 cs (qt 0) qtp Ftp Atp Btp Dtp)) → va_S A0 s.heap H locs → lv_has ls 1 [(0, .ref adt)] → W p l e (rmk 1 0 0) s m args below meth c H locs 0 0 (MQ below ((QDw G (fun u : Int32 × Int32 × Int32 × Int32 => ((0 : Int) ≤ u.1.toInt ∧ u.1.toInt ≤ 900) ∧ ((0 : Int) ≤ u.2.1.toInt ∧ u.2.1.toInt ≤ 4) ∧ ((0 : Int) ≤ u.2.2.1.toInt ∧ u.2.2.1.toInt ≤ 900) ∧ (True)) (fun u : Int32 × Int32 × Int32 × Int32 => ((wX6 cs adt qt (upd (upd (upd (upd Ft 1 u.1) 2 u.2.1) 3 u.2.2.1) 4 u.2.2.2) At Bt Dt) ++ (uX9 cs (qt 0) qtp Ftp Atp Btp Dtp)))) A0) args s 0 0 A0) (F0 m 111 ls []) := by
            intro H locs ls h111 hP hD hS hl
            refine lv_aload_n hx hb dX6_advance_111 rfl (lv_at hl 0 rfl) ?_
            refine lv_dup hx hb dX6_advance_112 rfl ?_
            refine getF (v := .int ft1_0) hx hb ht hown hK hP iTX6 0 1 rfl rfl (by decide) fl_RX6_30 rfl dX6_advance_113 ?_
            refine lv_iconst (v := 1) hx hb dX6_advance_116 (by decide) ?_
            refine lv_iadd hx hb dX6_advance_117 ?_
            refine lv_topi (fun v100001 ev100001 => ?_)
            have tv100001 : v100001.toInt = ft1_0.toInt + 1 := by rw [ev100001]; exact addT rfl (show (1 : Int32).toInt = 1 by decide) (by omega)
            refine putD hx hb ht hown hK hP hD hS iTX6 tyX6 tyX6_ok nmX6 0 1 rfl rfl (by decide) fl_RX6_30 rfl rfl rfl (Nat.le_of_ble_eq_true rfl) dX6_advance_118 (fun H locs hP hD hS => ?_)
            have hP : va_P G vwCl ((uX6 cs adt qt (upv 4 (0 : Int32) (upv 3 ft1_0 (upv 2 s92_0 (upv 1 v100001 Ft)))) At Bt Dt) ++ (uX9 cs (qt 0) qtp Ftp Atp Btp Dtp)) H := hP
            have hD : va_D A0 ((uX6 cs adt qt (upv 4 (0 : Int32) (upv 3 ft1_0 (upv 2 s92_0 (upv 1 v100001 Ft)))) At Bt Dt) ++ (uX9 cs (qt 0) qtp Ftp Atp Btp Dtp)) := hD
            exact retDw (v100001, s92_0, ft1_0, (0 : Int32)) hx hb hr hlk hP hD hS dX6_advance_121 (⟨show (0 : Int) ≤ v100001.toInt ∧ v100001.toInt ≤ 900 by omega, show (0 : Int) ≤ s92_0.toInt ∧ s92_0.toInt ≤ 4 by omega, show (0 : Int) ≤ ft1_0.toInt ∧ ft1_0.toInt ≤ 900 by omega, trivial⟩) (Nat.le_of_ble_eq_true rfl) (Nat.le_of_ble_eq_true rfl)
          refine lv_icmp_eq (tgt := 111) hx hb dX6_advance_100 (by decide) (fun c45001 => ?_) (fun c45001 => ?_)
          · have zc45001 := eqK rfl (show (3 : Int32).toInt = 3 by decide) c45001
            exact B111 H locs ls (by have k0 : (0 : Int32).toInt = 0 := (by decide); have k1 : (1 : Int32).toInt = 1 := (by decide); omega) hP hD hS (lv_sub hl [0] rfl)
          · have zc45001 := neK rfl (show (3 : Int32).toInt = 3 by decide) c45001
            refine lv_aload_n hx hb dX6_advance_103 rfl (lv_at hl 0 rfl) ?_
            refine getF (v := .int s92_0) hx hb ht hown hK hP iTX6 0 2 rfl rfl (by decide) fl_RX6_36 rfl dX6_advance_104 ?_
            refine lv_iconst (v := 4) hx hb dX6_advance_107 (by decide) ?_
            refine lv_icmp_ne (tgt := 122) hx hb dX6_advance_108 (by decide) (fun c45002 => ?_) (fun c45002 => ?_)
            · have zc45002 := neK rfl (show (4 : Int32).toInt = 4 by decide) c45002
              have B122 : ∀ (n : Nat) (ft1_122 : Int32) (ft4_122 : Int32) (H : Heap) (locs : List Loc) (ls : Array Slot), (900 - ft1_122.toInt).toNat < n → (0 : Int) ≤ ft1_122.toInt ∧ ft1_122.toInt ≤ 900 → va_P G vwCl ((uX6 cs adt qt (upv 4 ft4_122 (upv 3 ft1_0 (upv 2 s92_0 (upv 1 ft1_122 Ft)))) At Bt Dt) ++ (uX9 cs (qt 0) qtp Ftp Atp Btp Dtp)) H → va_D A0 ((uX6 cs adt qt (upv 4 ft4_122 (upv 3 ft1_0 (upv 2 s92_0 (upv 1 ft1_122 Ft)))) At Bt Dt) ++ (uX9 cs (qt 0) qtp Ftp Atp Btp Dtp)) → va_S A0 s.heap H locs → lv_has ls 1 [(0, .ref adt)] → W p l e (rmk 1 0 0) s m args below meth c H locs 0 0 (MQ below ((QDw G (fun u : Int32 × Int32 × Int32 × Int32 => ((0 : Int) ≤ u.1.toInt ∧ u.1.toInt ≤ 900) ∧ ((0 : Int) ≤ u.2.1.toInt ∧ u.2.1.toInt ≤ 4) ∧ ((0 : Int) ≤ u.2.2.1.toInt ∧ u.2.2.1.toInt ≤ 900) ∧ (True)) (fun u : Int32 × Int32 × Int32 × Int32 => ((wX6 cs adt qt (upd (upd (upd (upd Ft 1 u.1) 2 u.2.1) 3 u.2.2.1) 4 u.2.2.2) At Bt Dt) ++ (uX9 cs (qt 0) qtp Ftp Atp Btp Dtp)))) A0) args s 0 0 A0) (F0 m 122 ls []) := by
                intro n
                induction n with
                | zero => intro ft1_122 ft4_122 H locs ls hmeas hft1_122 hP hD hS hl; exact absurd hmeas (Nat.not_lt_zero _)
                | succ n ih122 =>
                  intro ft1_122 ft4_122 H locs ls hmeas hft1_122 hP hD hS hl
                  refine lv_aload_n hx hb dX6_advance_122 rfl (lv_at hl 0 rfl) ?_
                  refine getF (v := .int ft1_122) hx hb ht hown hK hP iTX6 0 1 rfl rfl (by decide) fl_RX6_30 rfl dX6_advance_123 ?_
                  refine lv_aload_n hx hb dX6_advance_126 rfl (lv_at hl 0 rfl) ?_
                  refine getF (v := .ref (qt 0)) hx hb ht hown hK hP iTX6 0 0 rfl rfl (by decide) fl_RX6_12 rfl dX6_advance_127 ?_
                  refine getF (v := .int (Ftp 1)) hx hb ht hown hK hP iTX9 1 1 rfl rfl (by decide) fl_RX6_165 rfl dX6_advance_130 ?_
                  have zf54001 : (0 : Int) ≤ (Ftp 1).toInt ∧ (Ftp 1).toInt ≤ 900 := hItp.1 1
                  refine lv_icmp_ge (tgt := 214) hx hb dX6_advance_133 (by decide) (fun c54002 => ?_) (fun c54002 => ?_)
                  · have zc54002 := leK rfl rfl c54002
                    exact retDw (ft1_122, s92_0, ft1_0, ft4_122) hx hb hr hlk hP hD hS dX6_advance_214 (⟨show (0 : Int) ≤ ft1_122.toInt ∧ ft1_122.toInt ≤ 900 by omega, show (0 : Int) ≤ s92_0.toInt ∧ s92_0.toInt ≤ 4 by omega, show (0 : Int) ≤ ft1_0.toInt ∧ ft1_0.toInt ≤ 900 by omega, trivial⟩) (Nat.le_of_ble_eq_true rfl) (Nat.le_of_ble_eq_true rfl)
                  · have zc54002 := nleK rfl rfl c54002
                    refine lv_aload_n hx hb dX6_advance_136 rfl (lv_at hl 0 rfl) ?_
                    refine lv_aload_n hx hb dX6_advance_137 rfl (lv_at hl 0 rfl) ?_
                    refine getF (v := .ref (qt 0)) hx hb ht hown hK hP iTX6 0 0 rfl rfl (by decide) fl_RX6_12 rfl dX6_advance_138 ?_
                    refine lv_aload_n hx hb dX6_advance_141 rfl (lv_at hl 0 rfl) ?_
                    refine getF (v := .int ft1_122) hx hb ht hown hK hP iTX6 0 1 rfl rfl (by decide) fl_RX6_30 rfl dX6_advance_142 ?_
                    refine behR (runVP (As := [.int ft1_122]) (rest := [.ref adt]) ⟨hx, hb, hml, hown, ht⟩ (sX9_at l G cs (qt 0) qtp Ftp Atp Btp Dtp hItp ft1_122 ) okV_RX6_158 ⟨by decide, by decide⟩ hK hP [1, 2] rfl 1 rfl rfl hl.1 rfl (Nat.le_of_ble_eq_true rfl) dX6_advance_145 ⟨by decide, by decide⟩) hP hS hA (fun r54003 H locs hr54003 hP hS => ?_)
                    have hr54003 : (0 : Int) ≤ r54003.toInt ∧ r54003.toInt ≤ 255 := hr54003
                    refine behR (runVP (As := [.int r54003]) (rest := []) ⟨hx, hb, hml, hown, ht⟩ (sX6_kindOf l G cs adt qt (upv 4 ft4_122 (upv 3 ft1_0 (upv 2 s92_0 (upv 1 ft1_122 Ft)))) At Bt Dt (IB_pv (k := 4) (IB_pv (k := 3) (IB_pv (k := 2) (IB_pv (k := 1) hIt (show (0 : Int) ≤ ft1_122.toInt ∧ ft1_122.toInt ≤ 900 by omega)) (show (0 : Int) ≤ s92_0.toInt ∧ s92_0.toInt ≤ 4 by omega)) (show (0 : Int) ≤ ft1_0.toInt ∧ ft1_0.toInt ≤ 900 by omega)) (i32b _)) qtp Ftp Atp Btp Dtp hItp r54003 ) okV_RX6_171 ⟨by decide, by decide⟩ hK hP [0, 1, 2] rfl 0 rfl rfl hl.1 rfl (Nat.le_of_ble_eq_true rfl) dX6_advance_148 ⟨by decide, by decide⟩) hP hS hA (fun r54004 H locs hr54004 hP hS => ?_)
                    have hr54004 : (1 : Int) ≤ r54004.toInt ∧ r54004.toInt ≤ 4 := hr54004
                    refine lv_aload_n hx hb dX6_advance_151 rfl (lv_at hl 0 rfl) ?_
                    refine getF (v := .int s92_0) hx hb ht hown hK hP iTX6 0 2 rfl rfl (by decide) fl_RX6_36 rfl dX6_advance_152 ?_
                    refine lv_icmp_ne (tgt := 214) hx hb dX6_advance_155 (by decide) (fun c54005 => ?_) (fun c54005 => ?_)
                    · have zc54005 := neK rfl rfl c54005
                      exact retDw (ft1_122, s92_0, ft1_0, ft4_122) hx hb hr hlk hP hD hS dX6_advance_214 (⟨show (0 : Int) ≤ ft1_122.toInt ∧ ft1_122.toInt ≤ 900 by omega, show (0 : Int) ≤ s92_0.toInt ∧ s92_0.toInt ≤ 4 by omega, show (0 : Int) ≤ ft1_0.toInt ∧ ft1_0.toInt ≤ 900 by omega, trivial⟩) (Nat.le_of_ble_eq_true rfl) (Nat.le_of_ble_eq_true rfl)
                    · have zc54005 := eqK rfl rfl c54005
                      refine lv_aload_n hx hb dX6_advance_158 rfl (lv_at hl 0 rfl) ?_
                      refine getF (v := .int s92_0) hx hb ht hown hK hP iTX6 0 2 rfl rfl (by decide) fl_RX6_36 rfl dX6_advance_159 ?_
                      refine lv_iconst (v := 2) hx hb dX6_advance_162 (by decide) ?_
                      have B201 : ∀ (ft4_201 : Int32) (H : Heap) (locs : List Loc) (ls : Array Slot), va_P G vwCl ((uX6 cs adt qt (upv 4 ft4_201 (upv 3 ft1_0 (upv 2 s92_0 (upv 1 ft1_122 Ft)))) At Bt Dt) ++ (uX9 cs (qt 0) qtp Ftp Atp Btp Dtp)) H → va_D A0 ((uX6 cs adt qt (upv 4 ft4_201 (upv 3 ft1_0 (upv 2 s92_0 (upv 1 ft1_122 Ft)))) At Bt Dt) ++ (uX9 cs (qt 0) qtp Ftp Atp Btp Dtp)) → va_S A0 s.heap H locs → lv_has ls 1 [(0, .ref adt)] → W p l e (rmk 1 0 0) s m args below meth c H locs 0 0 (MQ below ((QDw G (fun u : Int32 × Int32 × Int32 × Int32 => ((0 : Int) ≤ u.1.toInt ∧ u.1.toInt ≤ 900) ∧ ((0 : Int) ≤ u.2.1.toInt ∧ u.2.1.toInt ≤ 4) ∧ ((0 : Int) ≤ u.2.2.1.toInt ∧ u.2.2.1.toInt ≤ 900) ∧ (True)) (fun u : Int32 × Int32 × Int32 × Int32 => ((wX6 cs adt qt (upd (upd (upd (upd Ft 1 u.1) 2 u.2.1) 3 u.2.2.1) 4 u.2.2.2) At Bt Dt) ++ (uX9 cs (qt 0) qtp Ftp Atp Btp Dtp)))) A0) args s 0 0 A0) (F0 m 201 ls []) := by
                        intro ft4_201 H locs ls hP hD hS hl
                        refine lv_aload_n hx hb dX6_advance_201 rfl (lv_at hl 0 rfl) ?_
                        refine lv_dup hx hb dX6_advance_202 rfl ?_
                        refine getF (v := .int ft1_122) hx hb ht hown hK hP iTX6 0 1 rfl rfl (by decide) fl_RX6_30 rfl dX6_advance_203 ?_
                        refine lv_iconst (v := 1) hx hb dX6_advance_206 (by decide) ?_
                        refine lv_iadd hx hb dX6_advance_207 ?_
                        refine lv_topi (fun v92001 ev92001 => ?_)
                        have tv92001 : v92001.toInt = ft1_122.toInt + 1 := by rw [ev92001]; exact addT rfl (show (1 : Int32).toInt = 1 by decide) (by omega)
                        refine putD hx hb ht hown hK hP hD hS iTX6 tyX6 tyX6_ok nmX6 0 1 rfl rfl (by decide) fl_RX6_30 rfl rfl rfl (Nat.le_of_ble_eq_true rfl) dX6_advance_208 (fun H locs hP hD hS => ?_)
                        have hP : va_P G vwCl ((uX6 cs adt qt (upv 4 ft4_201 (upv 3 ft1_0 (upv 2 s92_0 (upv 1 v92001 Ft)))) At Bt Dt) ++ (uX9 cs (qt 0) qtp Ftp Atp Btp Dtp)) H := hP
                        have hD : va_D A0 ((uX6 cs adt qt (upv 4 ft4_201 (upv 3 ft1_0 (upv 2 s92_0 (upv 1 v92001 Ft)))) At Bt Dt) ++ (uX9 cs (qt 0) qtp Ftp Atp Btp Dtp)) := hD
                        refine lv_goto (tgt := 122) hx hb dX6_advance_211 (by decide) ?_
                        exact ih122 v92001 ft4_201 H locs ls (by omega) (by omega) hP hD hS (lv_sub hl [0] rfl)
                      refine lv_icmp_ne (tgt := 201) hx hb dX6_advance_163 (by decide) (fun c54006 => ?_) (fun c54006 => ?_)
                      · have zc54006 := neK rfl (show (2 : Int32).toInt = 2 by decide) c54006
                        exact B201 ft4_122 H locs ls hP hD hS (lv_sub hl [0] rfl)
                      · have zc54006 := eqK rfl (show (2 : Int32).toInt = 2 by decide) c54006
                        refine lv_aload_n hx hb dX6_advance_166 rfl (lv_at hl 0 rfl) ?_
                        refine getF (v := .int ft4_122) hx hb ht hown hK hP iTX6 0 4 rfl rfl (by decide) fl_RX6_147 rfl dX6_advance_167 ?_
                        refine lv_ldc hx hb hown (ht _ ki_RX6_174) dX6_advance_170 ?_
                        refine lv_icmp_ge (tgt := 201) hx hb dX6_advance_172 (by decide) (fun c54007 => ?_) (fun c54007 => ?_)
                        · have zc54007 := leK (show (100000 : Int32).toInt = 100000 by decide) rfl c54007
                          exact B201 ft4_122 H locs ls hP hD hS (lv_sub hl [0] rfl)
                        · have zc54007 := nleK (show (100000 : Int32).toInt = 100000 by decide) rfl c54007
                          refine lv_aload_n hx hb dX6_advance_175 rfl (lv_at hl 0 rfl) ?_
                          refine lv_aload_n hx hb dX6_advance_176 rfl (lv_at hl 0 rfl) ?_
                          refine getF (v := .int ft4_122) hx hb ht hown hK hP iTX6 0 4 rfl rfl (by decide) fl_RX6_147 rfl dX6_advance_177 ?_
                          refine lv_bipush (v := 10) hx hb dX6_advance_180 (by decide) ?_
                          refine lv_imul hx hb dX6_advance_182 ?_
                          refine lv_topi (fun v54008 ev54008 => ?_)
                          refine lv_aload_n hx hb dX6_advance_183 rfl (lv_at hl 0 rfl) ?_
                          refine getF (v := .ref (qt 0)) hx hb ht hown hK hP iTX6 0 0 rfl rfl (by decide) fl_RX6_12 rfl dX6_advance_184 ?_
                          refine lv_aload_n hx hb dX6_advance_187 rfl (lv_at hl 0 rfl) ?_
                          refine getF (v := .int ft1_122) hx hb ht hown hK hP iTX6 0 1 rfl rfl (by decide) fl_RX6_30 rfl dX6_advance_188 ?_
                          refine behR (runVP (As := [.int ft1_122]) (rest := [.int v54008, .ref adt]) ⟨hx, hb, hml, hown, ht⟩ (sX9_at l G cs (qt 0) qtp Ftp Atp Btp Dtp hItp ft1_122 ) okV_RX6_158 ⟨by decide, by decide⟩ hK hP [1, 2] rfl 1 rfl rfl hl.1 rfl (Nat.le_of_ble_eq_true rfl) dX6_advance_191 ⟨by decide, by decide⟩) hP hS hA (fun r54009 H locs hr54009 hP hS => ?_)
                          have hr54009 : (0 : Int) ≤ r54009.toInt ∧ r54009.toInt ≤ 255 := hr54009
                          refine lv_iadd hx hb dX6_advance_194 ?_
                          refine lv_topi (fun v54010 ev54010 => ?_)
                          refine lv_bipush (v := 48) hx hb dX6_advance_195 (by decide) ?_
                          refine lv_isub hx hb dX6_advance_197 ?_
                          refine lv_topi (fun v54011 ev54011 => ?_)
                          refine putD hx hb ht hown hK hP hD hS iTX6 tyX6 tyX6_ok nmX6 0 4 rfl rfl (by decide) fl_RX6_147 rfl rfl rfl (Nat.le_of_ble_eq_true rfl) dX6_advance_198 (fun H locs hP hD hS => ?_)
                          have hP : va_P G vwCl ((uX6 cs adt qt (upv 4 v54011 (upv 3 ft1_0 (upv 2 s92_0 (upv 1 ft1_122 Ft)))) At Bt Dt) ++ (uX9 cs (qt 0) qtp Ftp Atp Btp Dtp)) H := hP
                          have hD : va_D A0 ((uX6 cs adt qt (upv 4 v54011 (upv 3 ft1_0 (upv 2 s92_0 (upv 1 ft1_122 Ft)))) At Bt Dt) ++ (uX9 cs (qt 0) qtp Ftp Atp Btp Dtp)) := hD
                          exact B201 v54011 H locs ls hP hD hS (lv_sub hl [0] rfl)
              exact B122 _ ft1_0 (0 : Int32) H locs ls (Nat.lt_succ_self _) (by omega) hP hD hS (lv_sub hl [0] rfl)
            · have zc45002 := eqK rfl (show (4 : Int32).toInt = 4 by decide) c45002
              exact B111 H locs ls (by have k0 : (0 : Int32).toInt = 0 := (by decide); have k1 : (1 : Int32).toInt = 1 := (by decide); omega) hP hD hS (lv_sub hl [0] rfl)
        refine lv_icmp_ge (tgt := 91) hx hb dX6_advance_70 (by decide) (fun c22002 => ?_) (fun c22002 => ?_)
        · have zc22002 := leK rfl rfl c22002
          refine lv_iconst (v := 0) hx hb dX6_advance_91 (by decide) ?_
          exact B92 0 H locs ls (by decide) (by have k0 : (0 : Int32).toInt = 0 := (by decide); omega) hP hD hS (lv_sub hl [0] rfl)
        · have zc22002 := nleK rfl rfl c22002
          refine lv_aload_n hx hb dX6_advance_73 rfl (lv_at hl 0 rfl) ?_
          refine lv_aload_n hx hb dX6_advance_74 rfl (lv_at hl 0 rfl) ?_
          refine getF (v := .ref (qt 0)) hx hb ht hown hK hP iTX6 0 0 rfl rfl (by decide) fl_RX6_12 rfl dX6_advance_75 ?_
          refine lv_aload_n hx hb dX6_advance_78 rfl (lv_at hl 0 rfl) ?_
          refine getF (v := .int ft1_0) hx hb ht hown hK hP iTX6 0 1 rfl rfl (by decide) fl_RX6_30 rfl dX6_advance_79 ?_
          refine behR (runVP (As := [.int ft1_0]) (rest := [.ref adt, .ref adt]) ⟨hx, hb, hml, hown, ht⟩ (sX9_at l G cs (qt 0) qtp Ftp Atp Btp Dtp hItp ft1_0 ) okV_RX6_158 ⟨by decide, by decide⟩ hK hP [1, 2] rfl 1 rfl rfl hl.1 rfl (Nat.le_of_ble_eq_true rfl) dX6_advance_82 ⟨by decide, by decide⟩) hP hS hA (fun r22003 H locs hr22003 hP hS => ?_)
          have hr22003 : (0 : Int) ≤ r22003.toInt ∧ r22003.toInt ≤ 255 := hr22003
          refine behR (runVP (As := [.int r22003]) (rest := [.ref adt]) ⟨hx, hb, hml, hown, ht⟩ (sX6_kindOf l G cs adt qt (upv 4 (0 : Int32) (upv 3 ft1_0 (upv 1 ft1_0 Ft))) At Bt Dt (IB_pv (k := 4) (IB_pv (k := 3) (IB_pv (k := 1) hIt (show (0 : Int) ≤ ft1_0.toInt ∧ ft1_0.toInt ≤ 900 by omega)) (show (0 : Int) ≤ ft1_0.toInt ∧ ft1_0.toInt ≤ 900 by omega)) (i32b _)) qtp Ftp Atp Btp Dtp hItp r22003 ) okV_RX6_171 ⟨by decide, by decide⟩ hK hP [0, 1, 2] rfl 0 rfl rfl hl.1 rfl (Nat.le_of_ble_eq_true rfl) dX6_advance_85 ⟨by decide, by decide⟩) hP hS hA (fun r22004 H locs hr22004 hP hS => ?_)
          have hr22004 : (1 : Int) ≤ r22004.toInt ∧ r22004.toInt ≤ 4 := hr22004
          refine lv_goto (tgt := 92) hx hb dX6_advance_88 (by decide) ?_
          exact B92 r22004 H locs ls (by omega) (by have k0 : (0 : Int32).toInt = 0 := (by decide); omega) hP hD hS (lv_sub hl [0] rfl)
      refine lv_icmp_ge (tgt := 45) hx hb dX6_advance_11 (by decide) (fun c1002 => ?_) (fun c1002 => ?_)
      · have zc1002 := leK rfl rfl c1002
        exact B45 H locs ls hP hD hS (lv_sub hl [0] rfl)
      · have zc1002 := nleK rfl rfl c1002
        refine lv_aload_n hx hb dX6_advance_14 rfl (lv_at hl 0 rfl) ?_
        refine lv_aload_n hx hb dX6_advance_15 rfl (lv_at hl 0 rfl) ?_
        refine getF (v := .ref (qt 0)) hx hb ht hown hK hP iTX6 0 0 rfl rfl (by decide) fl_RX6_12 rfl dX6_advance_16 ?_
        refine lv_aload_n hx hb dX6_advance_19 rfl (lv_at hl 0 rfl) ?_
        refine getF (v := .int ft1_0) hx hb ht hown hK hP iTX6 0 1 rfl rfl (by decide) fl_RX6_30 rfl dX6_advance_20 ?_
        refine behR (runVP (As := [.int ft1_0]) (rest := [.ref adt]) ⟨hx, hb, hml, hown, ht⟩ (sX9_at l G cs (qt 0) qtp Ftp Atp Btp Dtp hItp ft1_0 ) okV_RX6_158 ⟨by decide, by decide⟩ hK hP [1, 2] rfl 1 rfl rfl hl.1 rfl (Nat.le_of_ble_eq_true rfl) dX6_advance_23 ⟨by decide, by decide⟩) hP hS hA (fun r1003 H locs hr1003 hP hS => ?_)
        have hr1003 : (0 : Int) ≤ r1003.toInt ∧ r1003.toInt ≤ 255 := hr1003
        refine behR (runVP (As := [.int r1003]) (rest := []) ⟨hx, hb, hml, hown, ht⟩ (sX6_isBlank l G cs adt qt (upv 1 ft1_0 Ft) At Bt Dt (IB_pv (k := 1) hIt (show (0 : Int) ≤ ft1_0.toInt ∧ ft1_0.toInt ≤ 900 by omega)) qtp Ftp Atp Btp Dtp hItp r1003 ) okV_RX6_168 ⟨by decide, by decide⟩ hK hP [0, 1, 2] rfl 0 rfl rfl hl.1 rfl (Nat.le_of_ble_eq_true rfl) dX6_advance_26 ⟨by decide, by decide⟩) hP hS hA (fun r1004 H locs hr1004 hP hS => ?_)
        have hr1004 : (0 : Int) ≤ r1004.toInt ∧ r1004.toInt ≤ 1 := hr1004
        refine lv_if_eq (tgt := 45) hx hb dX6_advance_29 (by decide) (fun c1005 => ?_) (fun c1005 => ?_)
        · have zc1005 := eqK rfl (show (0 : Int32).toInt = 0 by decide) c1005
          exact B45 H locs ls hP hD hS (lv_sub hl [0] rfl)
        · have zc1005 := neK rfl (show (0 : Int32).toInt = 0 by decide) c1005
          refine lv_aload_n hx hb dX6_advance_32 rfl (lv_at hl 0 rfl) ?_
          refine lv_dup hx hb dX6_advance_33 rfl ?_
          refine getF (v := .int ft1_0) hx hb ht hown hK hP iTX6 0 1 rfl rfl (by decide) fl_RX6_30 rfl dX6_advance_34 ?_
          refine lv_iconst (v := 1) hx hb dX6_advance_37 (by decide) ?_
          refine lv_iadd hx hb dX6_advance_38 ?_
          refine lv_topi (fun v1006 ev1006 => ?_)
          have tv1006 : v1006.toInt = ft1_0.toInt + 1 := by rw [ev1006]; exact addT rfl (show (1 : Int32).toInt = 1 by decide) (by omega)
          refine putD hx hb ht hown hK hP hD hS iTX6 tyX6 tyX6_ok nmX6 0 1 rfl rfl (by decide) fl_RX6_30 rfl rfl rfl (Nat.le_of_ble_eq_true rfl) dX6_advance_39 (fun H locs hP hD hS => ?_)
          have hP : va_P G vwCl ((uX6 cs adt qt (upv 1 v1006 Ft) At Bt Dt) ++ (uX9 cs (qt 0) qtp Ftp Atp Btp Dtp)) H := hP
          have hD : va_D A0 ((uX6 cs adt qt (upv 1 v1006 Ft) At Bt Dt) ++ (uX9 cs (qt 0) qtp Ftp Atp Btp Dtp)) := hD
          refine lv_goto (tgt := 0) hx hb dX6_advance_42 (by decide) ?_
          exact ih0 v1006 H locs ls (by omega) (by omega) hP hD hS (lv_sub hl [0] rfl)
  exact B0 _ (Ft 1) s.heap [] ls (Nat.lt_succ_self _) (hIt.1 1) hP hD hS (lv_sub hl [0] rfl)

