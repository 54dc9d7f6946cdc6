set_option maxRecDepth 100000 in
set_option maxHeartbeats 16000000 in
theorem sX4_fewestFor (l : Launch) (G : va_G) (cs : Nat → ClassId) (adt : Nat) (qt : Nat → Nat) (Ft : Nat → Int32) (At : Nat → Nat → Int32) (Bt : Nat → Nat → Int64) (Dt : Int64) (hIt : IX4 Ft At) (adh : Nat) (qh : Nat → Nat) (Fh : Nat → Int32) (Ah : Nat → Nat → Int32) (Bh : Nat → Nat → Int64) (Dh : Int64) (hIh : IX3 Fh Ah) (a2 : Int32) (ha2 : (1 : Int) ≤ a2.toInt ∧ a2.toInt ≤ 63) : ∀ sz : Nat, Met l yX4_fewestFor (wk yX4_fewestFor cX4_fewestFor 4 (some .int)) (rmk 3 0 0) (PreD G (TY cs) [.ref adt, .ref adh, .int a2] ((uX4 cs adt qt Ft At Bt Dt) ++ (uX3 cs adh qh Fh Ah Bh Dh)) sz) ((QDi G (fun (r : Int32) (u : (Nat → Int32)) => True) (fun u : (Nat → Int32) => ((wX4 cs adt qt Ft (vA At 0 u) Bt Dt) ++ (uX3 cs adh qh Fh Ah Bh Dh)))) (va_A ((uX4 cs adt qt Ft At Bt Dt) ++ (uX3 cs adh qh Fh Ah Bh Dh)) sz)) 0 0 (va_A ((uX4 cs adt qt Ft At Bt Dt) ++ (uX3 cs adh qh Fh Ah Bh Dh)) sz) := by
  refine mkD (Qc := (QDi G (fun (r : Int32) (u : (Nat → Int32)) => True) (fun u : (Nat → Int32) => ((wX4 cs adt qt Ft (vA At 0 u) Bt Dt) ++ (uX3 cs adh qh Fh Ah Bh Dh))))) (by decide) (by simp [lg_sl, Value.category]) ?_
  intro p e s m args below meth c ls A0 hx hb hml hr hlk hown hmn ht hK hP hD hS hA hl
  have hl : lv_has ls 4 [(0, .ref adt), (1, .ref adh), (2, .int a2)] := hl
  refine lv_iconst (v := 1) hx hb dX4_fewestFor_0 (by decide) ?_
  refine lv_istore_n (lv' := [(3, .int 1), (0, .ref adt), (1, .ref adh), (2, .int a2)]) hx hb dX4_fewestFor_1 rfl hl (by decide) rfl (fun ls hl => ?_)
  have B2 : ∀ (n : Nat) (x2_3 : Int32) (at0_2 : (Nat → Int32)) (H : Heap) (locs : List Loc) (ls : Array Slot), (64 - x2_3.toInt).toNat < n → (1 : Int) ≤ x2_3.toInt ∧ x2_3.toInt ≤ 64 → va_P G vwCl ((uX4 cs adt qt Ft (vB 0 at0_2 At) Bt Dt) ++ (uX3 cs adh qh Fh Ah Bh Dh)) H → va_D A0 ((uX4 cs adt qt Ft (vB 0 at0_2 At) Bt Dt) ++ (uX3 cs adh qh Fh Ah Bh Dh)) → va_S A0 s.heap H locs → lv_has ls 4 [(0, .ref adt), (1, .ref adh), (2, .int a2), (3, .int x2_3)] → W p l e (rmk 3 0 0) s m args below meth c H locs 0 0 (MQ below ((QDi G (fun (r : Int32) (u : (Nat → Int32)) => True) (fun u : (Nat → Int32) => ((wX4 cs adt qt Ft (vA At 0 u) Bt Dt) ++ (uX3 cs adh qh Fh Ah Bh Dh)))) A0) args s 0 0 A0) (F0 m 2 ls []) := by
    intro n
    induction n with
    | zero => intro x2_3 at0_2 H locs ls hmeas hx2_3 hP hD hS hl; exact absurd hmeas (Nat.not_lt_zero _)
    | succ n ih2 =>
      intro x2_3 at0_2 H locs ls hmeas hx2_3 hP hD hS hl
      refine lv_iload_n hx hb dX4_fewestFor_2 rfl (lv_at hl 3 rfl) ?_
      refine lv_iload_n hx hb dX4_fewestFor_3 rfl (lv_at hl 2 rfl) ?_
      have B31 : ∀ (H : Heap) (locs : List Loc) (ls : Array Slot), va_P G vwCl ((uX4 cs adt qt Ft (vB 0 at0_2 At) Bt Dt) ++ (uX3 cs adh qh Fh Ah Bh Dh)) H → va_D A0 ((uX4 cs adt qt Ft (vB 0 at0_2 At) Bt Dt) ++ (uX3 cs adh qh Fh Ah Bh Dh)) → va_S A0 s.heap H locs → lv_has ls 4 [(0, .ref adt), (2, .int a2)] → W p l e (rmk 3 0 0) s m args below meth c H locs 0 0 (MQ below ((QDi G (fun (r : Int32) (u : (Nat → Int32)) => True) (fun u : (Nat → Int32) => ((wX4 cs adt qt Ft (vA At 0 u) Bt Dt) ++ (uX3 cs adh qh Fh Ah Bh Dh)))) A0) args s 0 0 A0) (F0 m 31 ls []) := by
        intro H locs ls hP hD hS hl
        refine lv_iload_n hx hb dX4_fewestFor_31 rfl (lv_at hl 1 rfl) ?_
        refine lv_iconst (v := 1) hx hb dX4_fewestFor_32 (by decide) ?_
        refine lv_icmp_lt (tgt := 51) hx hb dX4_fewestFor_33 (by decide) (fun c19001 => False.elim (by have zz := ltK rfl (show (1 : Int32).toInt = 1 by decide) c19001; omega)) (fun c19001 => ?_)
        refine lv_iload_n hx hb dX4_fewestFor_36 rfl (lv_at hl 1 rfl) ?_
        refine lv_bipush (v := 64) hx hb dX4_fewestFor_37 (by decide) ?_
        refine lv_icmp_ge (tgt := 51) hx hb dX4_fewestFor_39 (by decide) (fun c19002 => False.elim (by have zz := leK (show (64 : Int32).toInt = 64 by decide) rfl c19002; omega)) (fun c19002 => ?_)
        refine lv_aload_n hx hb dX4_fewestFor_42 rfl (lv_at hl 0 rfl) ?_
        refine getF (v := .ref (qt 0)) hx hb ht hown hK hP iTX4 0 0 rfl rfl (by decide) fl_RX4_11 rfl dX4_fewestFor_43 ?_
        refine lv_iload_n hx hb dX4_fewestFor_46 rfl (lv_at hl 1 rfl) ?_
        refine va_iald hx hb hK.1 hP 1 0 rfl rfl (inK rfl (by omega) (by decide)) dX4_fewestFor_47 ?_
        refine lv_topi (fun v19003 ev19003 => ?_)
        refine lv_goto (tgt := 52) hx hb dX4_fewestFor_48 (by decide) ?_
        exact retDi at0_2 hx hb hr hlk hP hD hS dX4_fewestFor_52 (trivial) (Nat.le_of_ble_eq_true rfl) (Nat.le_of_ble_eq_true rfl)
      refine lv_icmp_gt (tgt := 31) hx hb dX4_fewestFor_4 (by decide) (fun c3001 => ?_) (fun c3001 => ?_)
      · have zc3001 := ltK rfl rfl c3001
        exact B31 H locs ls hP hD hS (lv_sub hl [0, 2] rfl)
      · have zc3001 := nltK rfl rfl c3001
        refine lv_iload_n hx hb dX4_fewestFor_7 rfl (lv_at hl 3 rfl) ?_
        refine lv_bipush (v := 64) hx hb dX4_fewestFor_8 (by decide) ?_
        refine lv_icmp_ge (tgt := 31) hx hb dX4_fewestFor_10 (by decide) (fun c3002 => False.elim (by have zz := leK (show (64 : Int32).toInt = 64 by decide) rfl c3002; omega)) (fun c3002 => ?_)
        refine lv_aload_n hx hb dX4_fewestFor_13 rfl (lv_at hl 0 rfl) ?_
        refine getF (v := .ref (qt 0)) hx hb ht hown hK hP iTX4 0 0 rfl rfl (by decide) fl_RX4_11 rfl dX4_fewestFor_14 ?_
        refine lv_iload_n hx hb dX4_fewestFor_17 rfl (lv_at hl 3 rfl) ?_
        refine lv_aload_n hx hb dX4_fewestFor_18 rfl (lv_at hl 0 rfl) ?_
        refine lv_aload_n hx hb dX4_fewestFor_19 rfl (lv_at hl 1 rfl) ?_
        refine lv_iload_n hx hb dX4_fewestFor_20 rfl (lv_at hl 3 rfl) ?_
        refine behR (runVP (As := [.ref adh, .int x2_3]) (rest := [.int x2_3, .ref (qt 0)]) ⟨hx, hb, hml, hown, ht⟩ (sX4_fewestOf l G cs adt qt Ft (vB 0 at0_2 At) Bt Dt (IB_av (k := 0) hIt (AJ_full _)) adh qh Fh Ah Bh Dh hIh x2_3 (by omega)) okV_RX4_15 ⟨by decide, by decide⟩ hK hP [0, 1, 2, 3, 4, 5, 6, 7, 8, 9] rfl 0 rfl rfl hl.1 rfl (Nat.le_of_ble_eq_true rfl) dX4_fewestFor_21 ⟨by decide, by decide⟩) hP hS hA (fun r3003 H locs hr3003 hP hS => ?_)
        refine va_iast hx hb hK.1 hP hD hS 1 0 rfl rfl (inK rfl (by omega) (by decide)) dX4_fewestFor_24 (fun H locs hP hD hS => ?_)
        obtain ⟨g3004, hP, hD⟩ : ∃ g3004 : Nat → Int32, va_P G vwCl ((uX4 cs adt qt Ft (vB 0 g3004 At) Bt Dt) ++ (uX3 cs adh qh Fh Ah Bh Dh)) H ∧ va_D A0 ((uX4 cs adt qt Ft (vB 0 g3004 At) Bt Dt) ++ (uX3 cs adh qh Fh Ah Bh Dh)) := ⟨upd at0_2 x2_3.toNatClampNeg r3003, hP, hD⟩
        obtain ⟨v3005, ev3005⟩ : ∃ z : Int32, z = x2_3 + 1 := ⟨_, rfl⟩
        have tv3005 : v3005.toInt = x2_3.toInt + 1 := by rw [ev3005]; exact addT rfl (by decide) (by omega)
        refine lv_iinc (v := v3005) (lv' := [(3, .int v3005), (0, .ref adt), (1, .ref adh), (2, .int a2)]) hx hb dX4_fewestFor_25 hl (k := 3) rfl (by rw [ev3005]; rfl) (by decide) rfl (fun ls hl => ?_)
        refine lv_goto (tgt := 2) hx hb dX4_fewestFor_28 (by decide) ?_
        exact ih2 v3005 g3004 H locs ls (by omega) (by omega) hP hD hS (lv_sub hl [1, 2, 3, 0] rfl)
  exact B2 _ 1 (At 0) s.heap [] ls (Nat.lt_succ_self _) (by decide) hP hD hS (lv_sub hl [1, 2, 3, 0] rfl)

set_option maxRecDepth 100000 in
set_option maxHeartbeats 16000000 in
theorem sX4_firstFor (l : Launch) (G : va_G) (cs : Nat → ClassId) (adt : Nat) (qt : Nat → Nat) (Ft : Nat → Int32) (At : Nat → Nat → Int32) (Bt : Nat → Nat → Int64) (Dt : Int64) (hIt : IX4 Ft At) (adh : Nat) (qh : Nat → Nat) (Fh : Nat → Int32) (Ah : Nat → Nat → Int32) (Bh : Nat → Nat → Int64) (Dh : Int64) (hIh : IX3 Fh Ah) (a2 : Int32) (ha2 : (1 : Int) ≤ a2.toInt ∧ a2.toInt ≤ 63) : ∀ sz : Nat, Met l yX4_firstFor (wk yX4_firstFor cX4_firstFor 5 (some .int)) (rmk 4 0 0) (PreD G (TY cs) [.ref adt, .ref adh, .int a2] ((uX4 cs adt qt Ft At Bt Dt) ++ (uX3 cs adh qh Fh Ah Bh Dh)) sz) ((QDi G (fun (r : Int32) (u : (Nat → Int32)) => True) (fun u : (Nat → Int32) => ((wX4 cs adt qt Ft (vA At 0 u) Bt Dt) ++ (uX3 cs adh qh Fh Ah Bh Dh)))) (va_A ((uX4 cs adt qt Ft At Bt Dt) ++ (uX3 cs adh qh Fh Ah Bh Dh)) sz)) 0 0 (va_A ((uX4 cs adt qt Ft At Bt Dt) ++ (uX3 cs adh qh Fh Ah Bh Dh)) sz) := by
  refine mkD (Qc := (QDi G (fun (r : Int32) (u : (Nat → Int32)) => True) (fun u : (Nat → Int32) => ((wX4 cs adt qt Ft (vA At 0 u) Bt Dt) ++ (uX3 cs adh qh Fh Ah Bh Dh))))) (by decide) (by simp [lg_sl, Value.category]) ?_
  intro p e s m args below meth c ls A0 hx hb hml hr hlk hown hmn ht hK hP hD hS hA hl
  have hl : lv_has ls 5 [(0, .ref adt), (1, .ref adh), (2, .int a2)] := hl
  refine lv_aload_n hx hb dX4_firstFor_0 rfl (lv_at hl 0 rfl) ?_
  refine lv_aload_n hx hb dX4_firstFor_1 rfl (lv_at hl 1 rfl) ?_
  refine lv_iload_n hx hb dX4_firstFor_2 rfl (lv_at hl 2 rfl) ?_
  refine behDi (wr := ([] : va_W)) (runVD (As := [.ref adh, .int a2]) (rest := []) ⟨hx, hb, hml, hown, ht⟩ (sX4_fewestFor l G cs adt qt Ft At Bt Dt hIt adh qh Fh Ah Bh Dh hIh a2 (by omega)) okV_RX4_19 ⟨by decide, by decide⟩ hK hP hD [0, 1, 2, 3, 4, 5, 6, 7, 8, 9] rfl (by decide) rfl 0 rfl rfl hl.1 rfl (Nat.le_of_ble_eq_true rfl) dX4_firstFor_3 ⟨(Nat.le_of_ble_eq_true rfl), (Nat.le_of_ble_eq_true rfl)⟩) hP hD hS hA [0, 1, 2, 3, 4, 5, 6, 7, 8, 9] [] rfl rfl (by decide) (by decide) (fun r9 u H locs hu hP hD hS => ?_)
  obtain ⟨g1, rfl⟩ : ∃ z, z = u := ⟨_, rfl⟩
  obtain ⟨r2, rfl⟩ : ∃ z, z = r9 := ⟨_, rfl⟩
  have hr2 := hu
  have hP : va_P G vwCl ((uX4 cs adt qt Ft (vB 0 g1 At) Bt Dt) ++ (uX3 cs adh qh Fh Ah Bh Dh)) H := hP.sub [0, 1, 2, 3, 4, 5, 6, 7, 8, 9] rfl
  have hD : va_D A0 ((uX4 cs adt qt Ft (vB 0 g1 At) Bt Dt) ++ (uX3 cs adh qh Fh Ah Bh Dh)) := hD.sub [0, 1, 2, 3, 4, 5, 6, 7, 8, 9] (by decide) rfl
  refine lv_istore_n (lv' := [(3, .int r2), (0, .ref adt), (1, .ref adh), (2, .int a2)]) hx hb dX4_firstFor_6 rfl hl (by decide) rfl (fun ls hl => ?_)
  refine lv_iload_n hx hb dX4_firstFor_7 rfl (lv_at hl 0 rfl) ?_
  refine lv_iconst (v := 1) hx hb dX4_firstFor_8 (by decide) ?_
  refine lv_icmp_ge (tgt := 14) hx hb dX4_firstFor_9 (by decide) (fun c3 => ?_) (fun c3 => ?_)
  · have zc3 := leK (show (1 : Int32).toInt = 1 by decide) rfl c3
    refine lv_iconst (v := 0) hx hb dX4_firstFor_14 (by decide) ?_
    refine lv_istore (lv' := [(4, .int 0), (3, .int r2), (0, .ref adt), (1, .ref adh), (2, .int a2)]) hx hb dX4_firstFor_15 hl (by decide) rfl (fun ls hl => ?_)
    have B17 : ∀ (n : Nat) (x17_4 : Int32) (H : Heap) (locs : List Loc) (ls : Array Slot), (6 - x17_4.toInt).toNat < n → (0 : Int) ≤ x17_4.toInt ∧ x17_4.toInt ≤ 6 → va_P G vwCl ((uX4 cs adt qt Ft (vB 0 g1 At) Bt Dt) ++ (uX3 cs adh qh Fh Ah Bh Dh)) H → va_D A0 ((uX4 cs adt qt Ft (vB 0 g1 At) Bt Dt) ++ (uX3 cs adh qh Fh Ah Bh Dh)) → va_S A0 s.heap H locs → lv_has ls 5 [(0, .ref adt), (1, .ref adh), (2, .int a2), (3, .int r2), (4, .int x17_4)] → W p l e (rmk 4 0 0) s m args below meth c H locs 0 0 (MQ below ((QDi G (fun (r : Int32) (u : (Nat → Int32)) => True) (fun u : (Nat → Int32) => ((wX4 cs adt qt Ft (vA At 0 u) Bt Dt) ++ (uX3 cs adh qh Fh Ah Bh Dh)))) A0) args s 0 0 A0) (F0 m 17 ls []) := by
      intro n
      induction n with
      | zero => intro x17_4 H locs ls hmeas hx17_4 hP hD hS hl; exact absurd hmeas (Nat.not_lt_zero _)
      | succ n ih17 =>
        intro x17_4 H locs ls hmeas hx17_4 hP hD hS hl
        refine lv_iload hx hb dX4_firstFor_17 (lv_at hl 4 rfl) ?_
        refine lv_bipush (v := 6) hx hb dX4_firstFor_19 (by decide) ?_
        refine lv_icmp_ge (tgt := 45) hx hb dX4_firstFor_21 (by decide) (fun c13001 => ?_) (fun c13001 => ?_)
        · have zc13001 := leK (show (6 : Int32).toInt = 6 by decide) rfl c13001
          refine lv_iconst (v := (-1)) hx hb dX4_firstFor_45 (by decide) ?_
          exact retDi g1 hx hb hr hlk hP hD hS dX4_firstFor_46 (trivial) (Nat.le_of_ble_eq_true rfl) (Nat.le_of_ble_eq_true rfl)
        · have zc13001 := nleK (show (6 : Int32).toInt = 6 by decide) rfl c13001
          refine lv_aload_n hx hb dX4_firstFor_24 rfl (lv_at hl 0 rfl) ?_
          refine lv_aload_n hx hb dX4_firstFor_25 rfl (lv_at hl 1 rfl) ?_
          refine lv_iload_n hx hb dX4_firstFor_26 rfl (lv_at hl 2 rfl) ?_
          refine lv_iload hx hb dX4_firstFor_27 (lv_at hl 4 rfl) ?_
          refine behR (runVP (As := [.ref adh, .int a2, .int x17_4]) (rest := []) ⟨hx, hb, hml, hown, ht⟩ (sX4_askedFirst l G cs adt qt Ft (vB 0 g1 At) Bt Dt (IB_av (k := 0) hIt (AJ_full _)) adh qh Fh Ah Bh Dh hIh a2 x17_4 (by omega)) okV_RX4_22 ⟨by decide, by decide⟩ hK hP [0, 1, 2, 3, 4, 5, 6, 7, 8, 9] rfl 0 rfl rfl hl.1 rfl (Nat.le_of_ble_eq_true rfl) dX4_firstFor_29 ⟨by decide, by decide⟩) hP hS hA (fun r13002 H locs hr13002 hP hS => ?_)
          refine lv_iload_n hx hb dX4_firstFor_32 rfl (lv_at hl 3 rfl) ?_
          refine lv_icmp_ne (tgt := 39) hx hb dX4_firstFor_33 (by decide) (fun c13003 => ?_) (fun c13003 => ?_)
          · have zc13003 := neK rfl rfl c13003
            obtain ⟨v13004, ev13004⟩ : ∃ z : Int32, z = x17_4 + 1 := ⟨_, rfl⟩
            have tv13004 : v13004.toInt = x17_4.toInt + 1 := by rw [ev13004]; exact addT rfl (by decide) (by omega)
            refine lv_iinc (v := v13004) (lv' := [(4, .int v13004), (0, .ref adt), (1, .ref adh), (2, .int a2), (3, .int r2)]) hx hb dX4_firstFor_39 hl (k := 4) rfl (by rw [ev13004]; rfl) (by decide) rfl (fun ls hl => ?_)
            refine lv_goto (tgt := 17) hx hb dX4_firstFor_42 (by decide) ?_
            exact ih17 v13004 H locs ls (by omega) (by omega) hP hD hS (lv_sub hl [1, 2, 3, 4, 0] rfl)
          · have zc13003 := eqK rfl rfl c13003
            refine lv_iload hx hb dX4_firstFor_36 (lv_at hl 4 rfl) ?_
            exact retDi g1 hx hb hr hlk hP hD hS dX4_firstFor_38 (trivial) (Nat.le_of_ble_eq_true rfl) (Nat.le_of_ble_eq_true rfl)
    exact B17 _ 0 H locs ls (Nat.lt_succ_self _) (by decide) hP hD hS (lv_sub hl [2, 3, 4, 1, 0] rfl)
  · have zc3 := nleK (show (1 : Int32).toInt = 1 by decide) rfl c3
    refine lv_iconst (v := (-1)) hx hb dX4_firstFor_12 (by decide) ?_
    exact retDi g1 hx hb hr hlk hP hD hS dX4_firstFor_13 (trivial) (Nat.le_of_ble_eq_true rfl) (Nat.le_of_ble_eq_true rfl)

set_option maxRecDepth 100000 in
set_option maxHeartbeats 16000000 in
theorem sX4_areApart (l : Launch) (G : va_G) (cs : Nat → ClassId) (adt : Nat) (qt : Nat → Nat) (Ft : Nat → Int32) (At : Nat → Nat → Int32) (Bt : Nat → Nat → Int64) (Dt : Int64) (hIt : IX4 Ft At) (adh : Nat) (qh : Nat → Nat) (Fh : Nat → Int32) (Ah : Nat → Nat → Int32) (Bh : Nat → Nat → Int64) (Dh : Int64) (hIh : IX3 Fh Ah) (a2 : Int32) (a3 : Int32) : ∀ sz : Nat, Met l yX4_areApart (wk yX4_areApart cX4_areApart 7 (some .boolean)) (rmk 0 0 0) (PreP G (TY cs) [.ref adt, .ref adh, .int a2, .int a3] ((uX4 cs adt qt Ft At Bt Dt) ++ (uX3 cs adh qh Fh Ah Bh Dh)) sz) (QRi (fun r : Int32 => (0 : Int) ≤ r.toInt ∧ r.toInt ≤ 1) sz) 0 0 (fun q => sz ≤ q) := by
  refine mkP (Qc := QRi (fun r : Int32 => (0 : Int) ≤ r.toInt ∧ r.toInt ≤ 1)) (by decide) (by simp [lg_sl, Value.category]) ?_
  intro p e s m args below meth c ls hx hb hml hr hlk hown ht hK hP hS hl
  have hl : lv_has ls 7 [(0, .ref adt), (1, .ref adh), (2, .int a2), (3, .int a3)] := hl
  refine lv_iconst (v := 0) hx hb dX4_areApart_0 (by decide) ?_
  refine lv_istore (lv' := [(4, .int 0), (0, .ref adt), (1, .ref adh), (2, .int a2), (3, .int a3)]) hx hb dX4_areApart_1 hl (by decide) rfl (fun ls hl => ?_)
  have B3 : ∀ (n : Nat) (x3_4 : Int32) (H : Heap) (locs : List Loc) (ls : Array Slot), (6 - x3_4.toInt).toNat < n → (0 : Int) ≤ x3_4.toInt ∧ x3_4.toInt ≤ 6 → va_P G vwCl ((uX4 cs adt qt Ft At Bt Dt) ++ (uX3 cs adh qh Fh Ah Bh Dh)) H → va_S (fun q => s.heap.size ≤ q) s.heap H locs → lv_has ls 7 [(1, .ref adh), (2, .int a2), (3, .int a3), (4, .int x3_4)] → W p l e (rmk 0 0 0) s m args below meth c H locs 0 0 (MQ below (QRi (fun r : Int32 => (0 : Int) ≤ r.toInt ∧ r.toInt ≤ 1) s.heap.size) args s 0 0 (fun q => s.heap.size ≤ q)) (F0 m 3 ls []) := by
    intro n
    induction n with
    | zero => intro x3_4 H locs ls hmeas hx3_4 hP hS hl; exact absurd hmeas (Nat.not_lt_zero _)
    | succ n ih3 =>
      intro x3_4 H locs ls hmeas hx3_4 hP hS hl
      refine lv_iload hx hb dX4_areApart_3 (lv_at hl 3 rfl) ?_
      refine lv_aload_n hx hb dX4_areApart_5 rfl (lv_at hl 0 rfl) ?_
      refine getF (v := .int (Fh 6)) hx hb ht hown hK hP iTX3 2 6 rfl rfl (by decide) fl_RX4_47 rfl dX4_areApart_6 ?_
      have zf3001 : (0 : Int) ≤ (Fh 6).toInt ∧ (Fh 6).toInt ≤ 6 := hIh.1 6
      refine lv_icmp_ge (tgt := 86) hx hb dX4_areApart_9 (by decide) (fun c3002 => ?_) (fun c3002 => ?_)
      · have zc3002 := leK rfl rfl c3002
        refine lv_iconst (v := 1) hx hb dX4_areApart_86 (by decide) ?_
        exact retRz hx hb hr hlk hS dX4_areApart_87 (rfl) (show (0 : Int) ≤ (1 : Int32).toInt ∧ (1 : Int32).toInt ≤ 1 by have kk : (1 : Int32).toInt = 1 := (by decide); omega)
      · have zc3002 := nleK rfl rfl c3002
        refine lv_iconst (v := 0) hx hb dX4_areApart_12 (by decide) ?_
        refine lv_istore (lv' := [(5, .int 0), (1, .ref adh), (2, .int a2), (3, .int a3), (4, .int x3_4)]) hx hb dX4_areApart_13 hl (by decide) rfl (fun ls hl => ?_)
        have B15 : ∀ (n : Nat) (x15_5 : Int32) (H : Heap) (locs : List Loc) (ls : Array Slot), (5 - x15_5.toInt).toNat < n → (0 : Int) ≤ x15_5.toInt ∧ x15_5.toInt ≤ 5 → va_P G vwCl ((uX4 cs adt qt Ft At Bt Dt) ++ (uX3 cs adh qh Fh Ah Bh Dh)) H → va_S (fun q => s.heap.size ≤ q) s.heap H locs → lv_has ls 7 [(1, .ref adh), (2, .int a2), (3, .int a3), (4, .int x3_4), (5, .int x15_5)] → W p l e (rmk 0 0 0) s m args below meth c H locs 0 0 (MQ below (QRi (fun r : Int32 => (0 : Int) ≤ r.toInt ∧ r.toInt ≤ 1) s.heap.size) args s 0 0 (fun q => s.heap.size ≤ q)) (F0 m 15 ls []) := by
          intro n
          induction n with
          | zero => intro x15_5 H locs ls hmeas hx15_5 hP hS hl; exact absurd hmeas (Nat.not_lt_zero _)
          | succ n ih15 =>
            intro x15_5 H locs ls hmeas hx15_5 hP hS hl
            refine lv_iload hx hb dX4_areApart_15 (lv_at hl 4 rfl) ?_
            refine lv_iload hx hb dX4_areApart_17 (lv_at hl 3 rfl) ?_
            refine lv_icmp_ge (tgt := 80) hx hb dX4_areApart_19 (by decide) (fun c9001 => ?_) (fun c9001 => ?_)
            · have zc9001 := leK rfl rfl c9001
              obtain ⟨v9002, ev9002⟩ : ∃ z : Int32, z = x3_4 + 1 := ⟨_, rfl⟩
              have tv9002 : v9002.toInt = x3_4.toInt + 1 := by rw [ev9002]; exact addT rfl (by decide) (by omega)
              refine lv_iinc (v := v9002) (lv' := [(4, .int v9002), (1, .ref adh), (2, .int a2), (3, .int a3), (5, .int x15_5)]) hx hb dX4_areApart_80 hl (k := 3) rfl (by rw [ev9002]; rfl) (by decide) rfl (fun ls hl => ?_)
              refine lv_goto (tgt := 3) hx hb dX4_areApart_83 (by decide) ?_
              exact ih3 v9002 H locs ls (by omega) (by omega) hP hS (lv_sub hl [1, 2, 3, 0] rfl)
            · have zc9001 := nleK rfl rfl c9001
              refine lv_iload_n hx hb dX4_areApart_22 rfl (lv_at hl 1 rfl) ?_
              refine lv_iload hx hb dX4_areApart_23 (lv_at hl 3 rfl) ?_
              refine lv_ishr hx hb dX4_areApart_25 ?_
              refine lv_topi (fun v9003 ev9003 => ?_)
              refine lv_iconst (v := 1) hx hb dX4_areApart_26 (by decide) ?_
              refine lv_iand hx hb dX4_areApart_27 ?_
              refine lv_topi (fun v9004 ev9004 => ?_)
              have tv9004 : 0 ≤ v9004.toInt ∧ v9004.toInt ≤ 1 := by rw [ev9004]; exact andT 1 (by decide) (by decide) (by decide)
              have B45 : ∀ (s45_0 : Int32) (H : Heap) (locs : List Loc) (ls : Array Slot), (0 : Int) ≤ s45_0.toInt ∧ s45_0.toInt ≤ 1 → va_P G vwCl ((uX4 cs adt qt Ft At Bt Dt) ++ (uX3 cs adh qh Fh Ah Bh Dh)) H → va_S (fun q => s.heap.size ≤ q) s.heap H locs → lv_has ls 7 [(1, .ref adh), (2, .int a2), (3, .int a3), (4, .int x3_4), (5, .int x15_5)] → W p l e (rmk 0 0 0) s m args below meth c H locs 0 0 (MQ below (QRi (fun r : Int32 => (0 : Int) ≤ r.toInt ∧ r.toInt ≤ 1) s.heap.size) args s 0 0 (fun q => s.heap.size ≤ q)) (F0 m 45 ls [.int s45_0]) := by
                intro s45_0 H locs ls hs45_0 hP hS hl
                refine lv_istore (lv' := [(6, .int s45_0), (1, .ref adh), (2, .int a2), (3, .int a3), (4, .int x3_4), (5, .int x15_5)]) hx hb dX4_areApart_45 hl (by decide) rfl (fun ls hl => ?_)
                refine lv_iload hx hb dX4_areApart_47 (lv_at hl 0 rfl) ?_
                have B74 : ∀ (H : Heap) (locs : List Loc) (ls : Array Slot), va_P G vwCl ((uX4 cs adt qt Ft At Bt Dt) ++ (uX3 cs adh qh Fh Ah Bh Dh)) H → va_S (fun q => s.heap.size ≤ q) s.heap H locs → lv_has ls 7 [(1, .ref adh), (2, .int a2), (3, .int a3), (4, .int x3_4), (5, .int x15_5)] → W p l e (rmk 0 0 0) s m args below meth c H locs 0 0 (MQ below (QRi (fun r : Int32 => (0 : Int) ≤ r.toInt ∧ r.toInt ≤ 1) s.heap.size) args s 0 0 (fun q => s.heap.size ≤ q)) (F0 m 74 ls []) := by
                  intro H locs ls hP hS hl
                  obtain ⟨v44001, ev44001⟩ : ∃ z : Int32, z = x15_5 + 1 := ⟨_, rfl⟩
                  have tv44001 : v44001.toInt = x15_5.toInt + 1 := by rw [ev44001]; exact addT rfl (by decide) (by omega)
                  refine lv_iinc (v := v44001) (lv' := [(5, .int v44001), (1, .ref adh), (2, .int a2), (3, .int a3), (4, .int x3_4)]) hx hb dX4_areApart_74 hl (k := 4) rfl (by rw [ev44001]; rfl) (by decide) rfl (fun ls hl => ?_)
                  refine lv_goto (tgt := 15) hx hb dX4_areApart_77 (by decide) ?_
                  exact ih15 v44001 H locs ls (by omega) (by omega) hP hS (lv_sub hl [1, 2, 3, 4, 0] rfl)
                refine lv_if_eq (tgt := 74) hx hb dX4_areApart_49 (by decide) (fun c27001 => ?_) (fun c27001 => ?_)
                · have zc27001 := eqK rfl (show (0 : Int32).toInt = 0 by decide) c27001
                  exact B74 H locs ls hP hS (lv_sub hl [1, 2, 3, 4, 5] rfl)
                · have zc27001 := neK rfl (show (0 : Int32).toInt = 0 by decide) c27001
                  refine lv_aload_n hx hb dX4_areApart_52 rfl (lv_at hl 1 rfl) ?_
                  refine getF (v := .ref (qh 12)) hx hb ht hown hK hP iTX3 2 12 rfl rfl (by decide) fl_RX4_51 rfl dX4_areApart_53 ?_
                  refine lv_iload hx hb dX4_areApart_56 (lv_at hl 4 rfl) ?_
                  refine va_iald hx hb hK.1 hP 8 0 rfl rfl (inK rfl (by omega) (by decide)) dX4_areApart_58 ?_
                  refine lv_topi (fun v27002 ev27002 => ?_)
                  have zf27003 : (0 : Int) ≤ v27002.toInt ∧ v27002.toInt ≤ 63 := by rw [ev27002]; exact (hIh.2 12 _)
                  refine lv_aload_n hx hb dX4_areApart_59 rfl (lv_at hl 1 rfl) ?_
                  refine getF (v := .ref (qh 12)) hx hb ht hown hK hP iTX3 2 12 rfl rfl (by decide) fl_RX4_51 rfl dX4_areApart_60 ?_
                  refine lv_iload hx hb dX4_areApart_63 (lv_at hl 5 rfl) ?_
                  refine va_iald hx hb hK.1 hP 8 0 rfl rfl (inK rfl (by omega) (by decide)) dX4_areApart_65 ?_
                  refine lv_topi (fun v27004 ev27004 => ?_)
                  have zf27005 : (0 : Int) ≤ v27004.toInt ∧ v27004.toInt ≤ 63 := by rw [ev27004]; exact (hIh.2 12 _)
                  refine lv_ixor hx hb dX4_areApart_66 ?_
                  refine lv_topi (fun v27006 ev27006 => ?_)
                  have tv27006 : 0 ≤ v27006.toInt ∧ v27006.toInt ≤ 63 := by rw [ev27006]; exact xorA 6 rfl rfl (by omega) (by omega) (by decide)
                  refine lv_iload_n hx hb dX4_areApart_67 rfl (lv_at hl 3 rfl) ?_
                  refine lv_iand hx hb dX4_areApart_68 ?_
                  refine lv_topi (fun v27007 ev27007 => ?_)
                  have tv27007 : 0 ≤ v27007.toInt ∧ v27007.toInt ≤ 63 := by rw [ev27007]; exact andA 6 rfl (by omega) (by decide)
                  refine lv_if_ne (tgt := 74) hx hb dX4_areApart_69 (by decide) (fun c27008 => ?_) (fun c27008 => ?_)
                  · have zc27008 := neK rfl (show (0 : Int32).toInt = 0 by decide) c27008
                    exact B74 H locs ls hP hS (lv_sub hl [1, 2, 3, 4, 5] rfl)
                  · have zc27008 := eqK rfl (show (0 : Int32).toInt = 0 by decide) c27008
                    refine lv_iconst (v := 0) hx hb dX4_areApart_72 (by decide) ?_
                    exact retRz hx hb hr hlk hS dX4_areApart_73 (rfl) (show (0 : Int) ≤ (0 : Int32).toInt ∧ (0 : Int32).toInt ≤ 1 by have kk : (0 : Int32).toInt = 0 := (by decide); omega)
              have B44 : ∀ (H : Heap) (locs : List Loc) (ls : Array Slot), va_P G vwCl ((uX4 cs adt qt Ft At Bt Dt) ++ (uX3 cs adh qh Fh Ah Bh Dh)) H → va_S (fun q => s.heap.size ≤ q) s.heap H locs → lv_has ls 7 [(1, .ref adh), (2, .int a2), (3, .int a3), (4, .int x3_4), (5, .int x15_5)] → W p l e (rmk 0 0 0) s m args below meth c H locs 0 0 (MQ below (QRi (fun r : Int32 => (0 : Int) ≤ r.toInt ∧ r.toInt ≤ 1) s.heap.size) args s 0 0 (fun q => s.heap.size ≤ q)) (F0 m 44 ls []) := by
                intro H locs ls hP hS hl
                refine lv_iconst (v := 0) hx hb dX4_areApart_44 (by decide) ?_
                exact B45 0 H locs ls (by decide) hP hS (lv_sub hl [0, 1, 2, 3, 4] rfl)
              refine lv_if_eq (tgt := 44) hx hb dX4_areApart_28 (by decide) (fun c9005 => ?_) (fun c9005 => ?_)
              · have zc9005 := eqK rfl (show (0 : Int32).toInt = 0 by decide) c9005
                exact B44 H locs ls hP hS (lv_sub hl [0, 1, 2, 3, 4] rfl)
              · have zc9005 := neK rfl (show (0 : Int32).toInt = 0 by decide) c9005
                refine lv_iload_n hx hb dX4_areApart_31 rfl (lv_at hl 1 rfl) ?_
                refine lv_iload hx hb dX4_areApart_32 (lv_at hl 4 rfl) ?_
                refine lv_ishr hx hb dX4_areApart_34 ?_
                refine lv_topi (fun v9006 ev9006 => ?_)
                refine lv_iconst (v := 1) hx hb dX4_areApart_35 (by decide) ?_
                refine lv_iand hx hb dX4_areApart_36 ?_
                refine lv_topi (fun v9007 ev9007 => ?_)
                have tv9007 : 0 ≤ v9007.toInt ∧ v9007.toInt ≤ 1 := by rw [ev9007]; exact andT 1 (by decide) (by decide) (by decide)
                refine lv_if_eq (tgt := 44) hx hb dX4_areApart_37 (by decide) (fun c9008 => ?_) (fun c9008 => ?_)
                · have zc9008 := eqK rfl (show (0 : Int32).toInt = 0 by decide) c9008
                  exact B44 H locs ls hP hS (lv_sub hl [0, 1, 2, 3, 4] rfl)
                · have zc9008 := neK rfl (show (0 : Int32).toInt = 0 by decide) c9008
                  refine lv_iconst (v := 1) hx hb dX4_areApart_40 (by decide) ?_
                  refine lv_goto (tgt := 45) hx hb dX4_areApart_41 (by decide) ?_
                  exact B45 1 H locs ls (by decide) hP hS (lv_sub hl [0, 1, 2, 3, 4] rfl)
        exact B15 _ 0 H locs ls (Nat.lt_succ_self _) (by decide) hP hS (lv_sub hl [1, 2, 3, 4, 0] rfl)
  exact B3 _ 0 s.heap [] ls (Nat.lt_succ_self _) (by decide) hP hS (lv_sub hl [2, 3, 4, 0] rfl)

set_option maxRecDepth 100000 in
set_option maxHeartbeats 16000000 in
theorem sX4_listFor (l : Launch) (G : va_G) (cs : Nat → ClassId) (adt : Nat) (qt : Nat → Nat) (Ft : Nat → Int32) (At : Nat → Nat → Int32) (Bt : Nat → Nat → Int64) (Dt : Int64) (hIt : IX4 Ft At) (adh : Nat) (qh : Nat → Nat) (Fh : Nat → Int32) (Ah : Nat → Nat → Int32) (Bh : Nat → Nat → Int64) (Dh : Int64) (hIh : IX3 Fh Ah) (a2 : Int32) : ∀ sz : Nat, Met l yX4_listFor (wk yX4_listFor cX4_listFor 6 (some .int)) (rmk 1 0 0) (PreP G (TY cs) [.ref adt, .ref adh, .int a2] ((uX4 cs adt qt Ft At Bt Dt) ++ (uX3 cs adh qh Fh Ah Bh Dh)) sz) (QRi (fun r : Int32 => True) sz) 0 0 (fun q => sz ≤ q) := by
  refine mkP (Qc := QRi (fun r : Int32 => True)) (by decide) (by simp [lg_sl, Value.category]) ?_
  intro p e s m args below meth c ls hx hb hml hr hlk hown ht hK hP hS hl
  have hl : lv_has ls 6 [(0, .ref adt), (1, .ref adh), (2, .int a2)] := hl
  refine lv_iconst (v := (-1)) hx hb dX4_listFor_0 (by decide) ?_
  refine lv_istore_n (lv' := [(3, .int (-1)), (0, .ref adt), (1, .ref adh), (2, .int a2)]) hx hb dX4_listFor_1 rfl hl (by decide) rfl (fun ls hl => ?_)
  refine lv_iconst (v := 0) hx hb dX4_listFor_2 (by decide) ?_
  refine lv_istore (lv' := [(4, .int 0), (3, .int (-1)), (0, .ref adt), (1, .ref adh), (2, .int a2)]) hx hb dX4_listFor_3 hl (by decide) rfl (fun ls hl => ?_)
  have B5 : ∀ (n : Nat) (x5_3 : Int32) (x5_4 : Int32) (H : Heap) (locs : List Loc) (ls : Array Slot), (64 - x5_4.toInt).toNat < n → (-1 : Int) ≤ x5_3.toInt ∧ x5_3.toInt ≤ 63 → (0 : Int) ≤ x5_4.toInt ∧ x5_4.toInt ≤ 64 → va_P G vwCl ((uX4 cs adt qt Ft At Bt Dt) ++ (uX3 cs adh qh Fh Ah Bh Dh)) H → va_S (fun q => s.heap.size ≤ q) s.heap H locs → lv_has ls 6 [(0, .ref adt), (1, .ref adh), (2, .int a2), (3, .int x5_3), (4, .int x5_4)] → W p l e (rmk 1 0 0) s m args below meth c H locs 0 0 (MQ below (QRi (fun r : Int32 => True) s.heap.size) args s 0 0 (fun q => s.heap.size ≤ q)) (F0 m 5 ls []) := by
    intro n
    induction n with
    | zero => intro x5_3 x5_4 H locs ls hmeas hx5_3 hx5_4 hP hS hl; exact absurd hmeas (Nat.not_lt_zero _)
    | succ n ih5 =>
      intro x5_3 x5_4 H locs ls hmeas hx5_3 hx5_4 hP hS hl
      refine lv_iload hx hb dX4_listFor_5 (lv_at hl 4 rfl) ?_
      refine lv_bipush (v := 64) hx hb dX4_listFor_7 (by decide) ?_
      refine lv_icmp_ge (tgt := 61) hx hb dX4_listFor_9 (by decide) (fun c5001 => ?_) (fun c5001 => ?_)
      · have zc5001 := leK (show (64 : Int32).toInt = 64 by decide) rfl c5001
        refine lv_iload_n hx hb dX4_listFor_61 rfl (lv_at hl 3 rfl) ?_
        exact retRi hx hb hr hlk hS dX4_listFor_62 (trivial)
      · have zc5001 := nleK (show (64 : Int32).toInt = 64 by decide) rfl c5001
        refine lv_iload_n hx hb dX4_listFor_12 rfl (lv_at hl 3 rfl) ?_
        refine lv_iconst (v := (-1)) hx hb dX4_listFor_13 (by decide) ?_
        have B34 : ∀ (s34_0 : Int32) (H : Heap) (locs : List Loc) (ls : Array Slot), (0 : Int) ≤ s34_0.toInt ∧ s34_0.toInt ≤ 1 → va_P G vwCl ((uX4 cs adt qt Ft At Bt Dt) ++ (uX3 cs adh qh Fh Ah Bh Dh)) H → va_S (fun q => s.heap.size ≤ q) s.heap H locs → lv_has ls 6 [(0, .ref adt), (1, .ref adh), (2, .int a2), (3, .int x5_3), (4, .int x5_4)] → W p l e (rmk 1 0 0) s m args below meth c H locs 0 0 (MQ below (QRi (fun r : Int32 => True) s.heap.size) args s 0 0 (fun q => s.heap.size ≤ q)) (F0 m 34 ls [.int s34_0]) := by
          intro s34_0 H locs ls hs34_0 hP hS hl
          refine lv_istore (lv' := [(5, .int s34_0), (0, .ref adt), (1, .ref adh), (2, .int a2), (3, .int x5_3), (4, .int x5_4)]) hx hb dX4_listFor_34 hl (by decide) rfl (fun ls hl => ?_)
          refine lv_iload hx hb dX4_listFor_36 (lv_at hl 0 rfl) ?_
          have B55 : ∀ (x55_3 : Int32) (H : Heap) (locs : List Loc) (ls : Array Slot), (-1 : Int) ≤ x55_3.toInt ∧ x55_3.toInt ≤ 63 → va_P G vwCl ((uX4 cs adt qt Ft At Bt Dt) ++ (uX3 cs adh qh Fh Ah Bh Dh)) H → va_S (fun q => s.heap.size ≤ q) s.heap H locs → lv_has ls 6 [(0, .ref adt), (1, .ref adh), (2, .int a2), (3, .int x55_3), (4, .int x5_4)] → W p l e (rmk 1 0 0) s m args below meth c H locs 0 0 (MQ below (QRi (fun r : Int32 => True) s.heap.size) args s 0 0 (fun q => s.heap.size ≤ q)) (F0 m 55 ls []) := by
            intro x55_3 H locs ls hx55_3 hP hS hl
            obtain ⟨v30001, ev30001⟩ : ∃ z : Int32, z = x5_4 + 1 := ⟨_, rfl⟩
            have tv30001 : v30001.toInt = x5_4.toInt + 1 := by rw [ev30001]; exact addT rfl (by decide) (by omega)
            refine lv_iinc (v := v30001) (lv' := [(4, .int v30001), (0, .ref adt), (1, .ref adh), (2, .int a2), (3, .int x55_3)]) hx hb dX4_listFor_55 hl (k := 4) rfl (by rw [ev30001]; rfl) (by decide) rfl (fun ls hl => ?_)
            refine lv_goto (tgt := 5) hx hb dX4_listFor_58 (by decide) ?_
            exact ih5 x55_3 v30001 H locs ls (by omega) (by omega) (by omega) hP hS (lv_sub hl [1, 2, 3, 4, 0] rfl)
          refine lv_if_eq (tgt := 55) hx hb dX4_listFor_38 (by decide) (fun c19001 => ?_) (fun c19001 => ?_)
          · have zc19001 := eqK rfl (show (0 : Int32).toInt = 0 by decide) c19001
            exact B55 x5_3 H locs ls (by omega) hP hS (lv_sub hl [1, 2, 3, 4, 5] rfl)
          · have zc19001 := neK rfl (show (0 : Int32).toInt = 0 by decide) c19001
            refine lv_aload_n hx hb dX4_listFor_41 rfl (lv_at hl 1 rfl) ?_
            refine lv_aload_n hx hb dX4_listFor_42 rfl (lv_at hl 2 rfl) ?_
            refine lv_iload_n hx hb dX4_listFor_43 rfl (lv_at hl 3 rfl) ?_
            refine lv_iload hx hb dX4_listFor_44 (lv_at hl 5 rfl) ?_
            refine behR (runVP (As := [.ref adh, .int a2, .int x5_4]) (rest := []) ⟨hx, hb, hml, hown, ht⟩ (sX4_areApart l G cs adt qt Ft At Bt Dt hIt adh qh Fh Ah Bh Dh hIh a2 x5_4 ) okV_RX4_43 ⟨by decide, by decide⟩ hK hP [0, 1, 2, 3, 4, 5, 6, 7, 8, 9] rfl 0 rfl rfl hl.1 rfl (Nat.le_of_ble_eq_true rfl) dX4_listFor_46 ⟨by decide, by decide⟩) hP hS (fun _ h => h) (fun r19002 H locs hr19002 hP hS => ?_)
            have hr19002 : (0 : Int) ≤ r19002.toInt ∧ r19002.toInt ≤ 1 := hr19002
            refine lv_if_eq (tgt := 55) hx hb dX4_listFor_49 (by decide) (fun c19003 => ?_) (fun c19003 => ?_)
            · have zc19003 := eqK rfl (show (0 : Int32).toInt = 0 by decide) c19003
              exact B55 x5_3 H locs ls (by omega) hP hS (lv_sub hl [1, 2, 3, 4, 5] rfl)
            · have zc19003 := neK rfl (show (0 : Int32).toInt = 0 by decide) c19003
              refine lv_iload hx hb dX4_listFor_52 (lv_at hl 5 rfl) ?_
              refine lv_istore_n (lv' := [(3, .int x5_4), (5, .int s34_0), (0, .ref adt), (1, .ref adh), (2, .int a2), (4, .int x5_4)]) hx hb dX4_listFor_54 rfl hl (by decide) rfl (fun ls hl => ?_)
              exact B55 x5_4 H locs ls (by omega) hP hS (lv_sub hl [2, 3, 4, 0, 5] rfl)
        have B29 : ∀ (H : Heap) (locs : List Loc) (ls : Array Slot), va_P G vwCl ((uX4 cs adt qt Ft At Bt Dt) ++ (uX3 cs adh qh Fh Ah Bh Dh)) H → va_S (fun q => s.heap.size ≤ q) s.heap H locs → lv_has ls 6 [(0, .ref adt), (1, .ref adh), (2, .int a2), (3, .int x5_3), (4, .int x5_4)] → W p l e (rmk 1 0 0) s m args below meth c H locs 0 0 (MQ below (QRi (fun r : Int32 => True) s.heap.size) args s 0 0 (fun q => s.heap.size ≤ q)) (F0 m 29 ls []) := by
          intro H locs ls hP hS hl
          refine lv_iconst (v := 1) hx hb dX4_listFor_29 (by decide) ?_
          refine lv_goto (tgt := 34) hx hb dX4_listFor_30 (by decide) ?_
          exact B34 1 H locs ls (by decide) hP hS (lv_sub hl [0, 1, 2, 3, 4] rfl)
        refine lv_icmp_eq (tgt := 29) hx hb dX4_listFor_14 (by decide) (fun c5002 => ?_) (fun c5002 => ?_)
        · have zc5002 := eqK rfl (show (-1 : Int32).toInt = (-1) by decide) c5002
          exact B29 H locs ls hP hS (lv_sub hl [0, 1, 2, 3, 4] rfl)
        · have zc5002 := neK rfl (show (-1 : Int32).toInt = (-1) by decide) c5002
          refine lv_iload hx hb dX4_listFor_17 (lv_at hl 4 rfl) ?_
          refine behR (runTP (As := [.int x5_4]) (rest := []) ⟨hx, hb, hml, hown, ht⟩ (sJ6_bitCount_0f7a4 l G cs x5_4 ) okT_RX4_26 ⟨by decide, by decide⟩ hK hP [] rfl hl.1 rfl (Nat.le_of_ble_eq_true rfl) dX4_listFor_19 ⟨by decide, by decide⟩) hP hS (fun _ h => h) (fun r5003 H locs hr5003 hP hS => ?_)
          refine lv_iload_n hx hb dX4_listFor_22 rfl (lv_at hl 3 rfl) ?_
          refine behR (runTP (As := [.int x5_3]) (rest := [.int r5003]) ⟨hx, hb, hml, hown, ht⟩ (sJ6_bitCount_0f7a4 l G cs x5_3 ) okT_RX4_26 ⟨by decide, by decide⟩ hK hP [] rfl hl.1 rfl (Nat.le_of_ble_eq_true rfl) dX4_listFor_23 ⟨by decide, by decide⟩) hP hS (fun _ h => h) (fun r5004 H locs hr5004 hP hS => ?_)
          refine lv_icmp_ge (tgt := 33) hx hb dX4_listFor_26 (by decide) (fun c5005 => ?_) (fun c5005 => ?_)
          · have zc5005 := leK rfl rfl c5005
            refine lv_iconst (v := 0) hx hb dX4_listFor_33 (by decide) ?_
            exact B34 0 H locs ls (by decide) hP hS (lv_sub hl [0, 1, 2, 3, 4] rfl)
          · have zc5005 := nleK rfl rfl c5005
            exact B29 H locs ls hP hS (lv_sub hl [0, 1, 2, 3, 4] rfl)
  exact B5 _ (-1) 0 s.heap [] ls (Nat.lt_succ_self _) (by decide) (by decide) hP hS (lv_sub hl [2, 3, 4, 1, 0] rfl)

set_option maxRecDepth 100000 in
set_option maxHeartbeats 16000000 in
theorem sX4_slateSum (l : Launch) (G : va_G) (cs : Nat → ClassId) (adt : Nat) (qt : Nat → Nat) (Ft : Nat → Int32) (At : Nat → Nat → Int32) (Bt : Nat → Nat → Int64) (Dt : Int64) (hIt : IX4 Ft At) (adh : Nat) (qh : Nat → Nat) (Fh : Nat → Int32) (Ah : Nat → Nat → Int32) (Bh : Nat → Nat → Int64) (Dh : Int64) (hIh : IX3 Fh Ah) (a2 : Int32) (ha2 : (0 : Int) ≤ a2.toInt ∧ a2.toInt ≤ 5) : ∀ sz : Nat, Met l yX4_slateSum (wk yX4_slateSum cX4_slateSum 5 (some .int)) (rmk 0 0 0) (PreP G (TY cs) [.ref adt, .ref adh, .int a2] ((uX4 cs adt qt Ft At Bt Dt) ++ (uX3 cs adh qh Fh Ah Bh Dh)) sz) (QRi (fun r : Int32 => True) sz) 0 0 (fun q => sz ≤ q) := by
  refine mkP (Qc := QRi (fun r : Int32 => True)) (by decide) (by simp [lg_sl, Value.category]) ?_
  intro p e s m args below meth c ls hx hb hml hr hlk hown ht hK hP hS hl
  have hl : lv_has ls 5 [(0, .ref adt), (1, .ref adh), (2, .int a2)] := hl
  refine lv_iconst (v := 0) hx hb dX4_slateSum_0 (by decide) ?_
  refine lv_istore_n (lv' := [(3, .int 0), (0, .ref adt), (1, .ref adh), (2, .int a2)]) hx hb dX4_slateSum_1 rfl hl (by decide) rfl (fun ls hl => ?_)
  refine lv_iconst (v := 0) hx hb dX4_slateSum_2 (by decide) ?_
  refine lv_istore (lv' := [(4, .int 0), (3, .int 0), (0, .ref adt), (1, .ref adh), (2, .int a2)]) hx hb dX4_slateSum_3 hl (by decide) rfl (fun ls hl => ?_)
  have B5 : ∀ (n : Nat) (x5_3 : Int32) (x5_4 : Int32) (H : Heap) (locs : List Loc) (ls : Array Slot), (6 - x5_4.toInt).toNat < n → (0 : Int) ≤ x5_4.toInt ∧ x5_4.toInt ≤ 6 → va_P G vwCl ((uX4 cs adt qt Ft At Bt Dt) ++ (uX3 cs adh qh Fh Ah Bh Dh)) H → va_S (fun q => s.heap.size ≤ q) s.heap H locs → lv_has ls 5 [(1, .ref adh), (2, .int a2), (3, .int x5_3), (4, .int x5_4)] → W p l e (rmk 0 0 0) s m args below meth c H locs 0 0 (MQ below (QRi (fun r : Int32 => True) s.heap.size) args s 0 0 (fun q => s.heap.size ≤ q)) (F0 m 5 ls []) := by
    intro n
    induction n with
    | zero => intro x5_3 x5_4 H locs ls hmeas hx5_4 hP hS hl; exact absurd hmeas (Nat.not_lt_zero _)
    | succ n ih5 =>
      intro x5_3 x5_4 H locs ls hmeas hx5_4 hP hS hl
      refine lv_iload hx hb dX4_slateSum_5 (lv_at hl 3 rfl) ?_
      refine lv_aload_n hx hb dX4_slateSum_7 rfl (lv_at hl 0 rfl) ?_
      refine getF (v := .int (Fh 6)) hx hb ht hown hK hP iTX3 2 6 rfl rfl (by decide) fl_RX4_47 rfl dX4_slateSum_8 ?_
      have zf5001 : (0 : Int) ≤ (Fh 6).toInt ∧ (Fh 6).toInt ≤ 6 := hIh.1 6
      refine lv_icmp_ge (tgt := 35) hx hb dX4_slateSum_11 (by decide) (fun c5002 => ?_) (fun c5002 => ?_)
      · have zc5002 := leK rfl rfl c5002
        refine lv_iload_n hx hb dX4_slateSum_35 rfl (lv_at hl 2 rfl) ?_
        exact retRi hx hb hr hlk hS dX4_slateSum_36 (trivial)
      · have zc5002 := nleK rfl rfl c5002
        refine lv_iload_n hx hb dX4_slateSum_14 rfl (lv_at hl 2 rfl) ?_
        refine lv_aload_n hx hb dX4_slateSum_15 rfl (lv_at hl 0 rfl) ?_
        refine getF (v := .ref (qh 13)) hx hb ht hown hK hP iTX3 2 13 rfl rfl (by decide) fl_RX4_70 rfl dX4_slateSum_16 ?_
        refine lv_iload_n hx hb dX4_slateSum_19 rfl (lv_at hl 1 rfl) ?_
        refine lv_bipush (v := 6) hx hb dX4_slateSum_20 (by decide) ?_
        refine lv_imul hx hb dX4_slateSum_22 ?_
        refine lv_topi (fun v5003 ev5003 => ?_)
        have tv5003 : v5003.toInt = a2.toInt * 6 := by rw [ev5003]; exact mulT rfl (show (6 : Int32).toInt = 6 by decide) (by omega)
        refine lv_iload hx hb dX4_slateSum_23 (lv_at hl 3 rfl) ?_
        refine lv_iadd hx hb dX4_slateSum_25 ?_
        refine lv_topi (fun v5004 ev5004 => ?_)
        have tv5004 : v5004.toInt = v5003.toInt + x5_4.toInt := by rw [ev5004]; exact addT rfl rfl (by omega)
        refine va_iald hx hb hK.1 hP 9 0 rfl rfl (inK rfl (by omega) (by decide)) dX4_slateSum_26 ?_
        refine lv_topi (fun v5005 ev5005 => ?_)
        refine lv_iadd hx hb dX4_slateSum_27 ?_
        refine lv_topi (fun v5006 ev5006 => ?_)
        refine lv_istore_n (lv' := [(3, .int v5006), (1, .ref adh), (2, .int a2), (4, .int x5_4)]) hx hb dX4_slateSum_28 rfl hl (by decide) rfl (fun ls hl => ?_)
        obtain ⟨v5007, ev5007⟩ : ∃ z : Int32, z = x5_4 + 1 := ⟨_, rfl⟩
        have tv5007 : v5007.toInt = x5_4.toInt + 1 := by rw [ev5007]; exact addT rfl (by decide) (by omega)
        refine lv_iinc (v := v5007) (lv' := [(4, .int v5007), (3, .int v5006), (1, .ref adh), (2, .int a2)]) hx hb dX4_slateSum_29 hl (k := 3) rfl (by rw [ev5007]; rfl) (by decide) rfl (fun ls hl => ?_)
        refine lv_goto (tgt := 5) hx hb dX4_slateSum_32 (by decide) ?_
        exact ih5 v5006 v5007 H locs ls (by omega) (by omega) hP hS (lv_sub hl [2, 3, 1, 0] rfl)
  exact B5 _ 0 0 s.heap [] ls (Nat.lt_succ_self _) (by decide) hP hS (lv_sub hl [3, 4, 1, 0] rfl)

set_option maxRecDepth 100000 in
set_option maxHeartbeats 16000000 in
theorem sX4_hasInAll (l : Launch) (G : va_G) (cs : Nat → ClassId) (adt : Nat) (qt : Nat → Nat) (Ft : Nat → Int32) (At : Nat → Nat → Int32) (Bt : Nat → Nat → Int64) (Dt : Int64) (hIt : IX4 Ft At) (adh : Nat) (qh : Nat → Nat) (Fh : Nat → Int32) (Ah : Nat → Nat → Int32) (Bh : Nat → Nat → Int64) (Dh : Int64) (hIh : IX3 Fh Ah) (a2 : Int32) (ha2 : (0 : Int) ≤ a2.toInt ∧ a2.toInt ≤ 5) : ∀ sz : Nat, Met l yX4_hasInAll (wk yX4_hasInAll cX4_hasInAll 3 (some .int)) (rmk 1 0 0) (PreP G (TY cs) [.ref adt, .ref adh, .int a2] ((uX4 cs adt qt Ft At Bt Dt) ++ (uX3 cs adh qh Fh Ah Bh Dh)) sz) (QRi (fun r : Int32 => True) sz) 0 0 (fun q => sz ≤ q) := by
  refine mkP (Qc := QRi (fun r : Int32 => True)) (by decide) (by simp [lg_sl, Value.category]) ?_
  intro p e s m args below meth c ls hx hb hml hr hlk hown ht hK hP hS hl
  have hl : lv_has ls 3 [(0, .ref adt), (1, .ref adh), (2, .int a2)] := hl
  refine lv_iconst (v := 1) hx hb dX4_hasInAll_0 (by decide) ?_
  refine lv_aload_n hx hb dX4_hasInAll_1 rfl (lv_at hl 0 rfl) ?_
  refine lv_aload_n hx hb dX4_hasInAll_2 rfl (lv_at hl 1 rfl) ?_
  refine lv_iload_n hx hb dX4_hasInAll_3 rfl (lv_at hl 2 rfl) ?_
  refine behR (runVP (As := [.ref adh, .int a2]) (rest := [.int 1]) ⟨hx, hb, hml, hown, ht⟩ (sX4_slateSum l G cs adt qt Ft At Bt Dt hIt adh qh Fh Ah Bh Dh hIh a2 (by omega)) okV_RX4_67 ⟨by decide, by decide⟩ hK hP [0, 1, 2, 3, 4, 5, 6, 7, 8, 9] rfl 0 rfl rfl hl.1 rfl (Nat.le_of_ble_eq_true rfl) dX4_hasInAll_4 ⟨by decide, by decide⟩) hP hS (fun _ h => h) (fun r1 H locs hr1 hP hS => ?_)
  refine va_mmax hx hb (by rw [hml]; exact hl.1.symm) hown (ht _ mth_RX4_38) (ht _ mth_max_st) (ht _ mth_in) (ht _ mth_max_co) (Nat.le_of_ble_eq_true rfl) (Nat.le_of_ble_eq_true rfl) (Nat.zero_le _) (Nat.zero_le _) dX4_hasInAll_7 ?_
  refine lv_topi (fun v2 ev2 => ?_)
  have tv2 := maxK (a := (1 : Int32)) (b := r1)
  rw [← ev2] at tv2
  have kk3 : (1 : Int32).toInt = 1 := by decide
  exact retRi hx hb hr hlk hS dX4_hasInAll_10 (trivial)

