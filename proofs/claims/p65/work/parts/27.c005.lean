set_option maxRecDepth 100000 in
set_option maxHeartbeats 16000000 in
theorem sX5_chanceHere (l : Launch) (G : va_G) (cs : Nat → ClassId) (adt : Nat) (qt : Nat → Nat) (Ft : Nat → Int32) (At : Nat → Nat → Int32) (Bt : Nat → Nat → Int64) (Dt : Int64) (hIt : IX5 Ft At) : ∀ sz : Nat, Met l yX5_chanceHere (wk yX5_chanceHere cX5_chanceHere 1 (some .int)) (rmk 1 0 0) (PreP G (TY cs) [.ref adt] (uX5 cs adt qt Ft At Bt Dt) sz) (QRi (fun r : Int32 => True) sz) 0 0 (fun q => sz ≤ q) := by
  refine mkP (Qc := QRi (fun r : Int32 => True)) (by decide) (by simp [lg_sl, Value.category]) ?_
  intro p e s m args below meth c ls hx hb hml hr hlk hown ht hK hP hS hl
  have hl : lv_has ls 1 [(0, .ref adt)] := hl
  refine lv_aload_n hx hb dX5_chanceHere_0 rfl (lv_at hl 0 rfl) ?_
  refine lv_ldc hx hb hown (ht _ ki_RX5_24) dX5_chanceHere_1 ?_
  refine lv_aload_n hx hb dX5_chanceHere_3 rfl (lv_at hl 0 rfl) ?_
  refine getF (v := .int (Ft 3)) hx hb ht hown hK hP iTX5 0 3 rfl rfl (by decide) fl_RX5_44 rfl dX5_chanceHere_4 ?_
  refine lv_isub hx hb dX5_chanceHere_7 ?_
  refine lv_topi (fun v1 ev1 => ?_)
  refine lv_aload_n hx hb dX5_chanceHere_8 rfl (lv_at hl 0 rfl) ?_
  refine getF (v := .int (Ft 2)) hx hb ht hown hK hP iTX5 0 2 rfl rfl (by decide) fl_RX5_41 rfl dX5_chanceHere_9 ?_
  refine lv_isub hx hb dX5_chanceHere_12 ?_
  refine lv_topi (fun v2 ev2 => ?_)
  refine behR (runVP (As := [.int v2]) (rest := []) ⟨hx, hb, hml, hown, ht⟩ (sX5_chanceOf l G cs adt qt Ft At Bt Dt hIt v2 ) okV_RX5_55 ⟨by decide, by decide⟩ hK hP [0, 1, 2] rfl 0 rfl rfl hl.1 rfl (Nat.le_of_ble_eq_true rfl) dX5_chanceHere_13 ⟨by decide, by decide⟩) hP hS (fun _ h => h) (fun r3 H locs hr3 hP hS => ?_)
  exact retRi hx hb hr hlk hS dX5_chanceHere_16 (trivial)

set_option maxRecDepth 100000 in
set_option maxHeartbeats 16000000 in
theorem sX5_audible (l : Launch) (G : va_G) (cs : Nat → ClassId) (adt : Nat) (qt : Nat → Nat) (Ft : Nat → Int32) (At : Nat → Nat → Int32) (Bt : Nat → Nat → Int64) (Dt : Int64) (hIt : IX5 Ft At) (adh : Nat) (qh : Nat → Nat) (Fh : Nat → Int32) (Ah : Nat → Nat → Int32) (Bh : Nat → Nat → Int64) (Dh : Int64) (hIh : IX3 Fh Ah) (a2 : Int32) (a3 : Int32) (ha3 : (0 : Int) ≤ a3.toInt ∧ a3.toInt ≤ 9) : ∀ sz : Nat, Met l yX5_audible (wk yX5_audible cX5_audible 4 (some .int)) (rmk 2 0 0) (PreP G (TY cs) [.ref adt, .ref adh, .int a2, .int a3] ((uX5 cs adt qt Ft At Bt Dt) ++ (uX3 cs adh qh Fh Ah Bh Dh)) sz) (QRi (fun r : Int32 => r.toInt = 0 ∨ (0 ≤ a2.toInt ∧ a2.toInt ≤ 6)) sz) 0 0 (fun q => sz ≤ q) := by
  refine mkP (Qc := QRi (fun r : Int32 => r.toInt = 0 ∨ (0 ≤ a2.toInt ∧ a2.toInt ≤ 6))) (by decide) (by simp [lg_sl, Value.category]) ?_
  intro p e s m args below meth c ls hx hb hml hr hlk hown ht hK hP hS hl
  have hl : lv_has ls 4 [(0, .ref adt), (1, .ref adh), (2, .int a2), (3, .int a3)] := hl
  refine lv_iload_n hx hb dX5_audible_0 rfl (lv_at hl 2 rfl) ?_
  refine lv_if_lt (tgt := 29) hx hb dX5_audible_1 (by decide) (fun c1 => ?_) (fun c1 => ?_)
  · have zc1 := ltK rfl (show (0 : Int32).toInt = 0 by decide) c1
    refine lv_iconst (v := 0) hx hb dX5_audible_29 (by decide) ?_
    exact retRi hx hb hr hlk hS dX5_audible_30 (show (0 : Int32).toInt = 0 ∨ (0 ≤ a2.toInt ∧ a2.toInt ≤ 6) by have kk : (0 : Int32).toInt = 0 := (by decide); omega)
  · have zc1 := nltK rfl (show (0 : Int32).toInt = 0 by decide) c1
    refine lv_iload_n hx hb dX5_audible_4 rfl (lv_at hl 2 rfl) ?_
    refine lv_bipush (v := 7) hx hb dX5_audible_5 (by decide) ?_
    refine lv_icmp_ge (tgt := 29) hx hb dX5_audible_7 (by decide) (fun c2 => ?_) (fun c2 => ?_)
    · have zc2 := leK (show (7 : Int32).toInt = 7 by decide) rfl c2
      refine lv_iconst (v := 0) hx hb dX5_audible_29 (by decide) ?_
      exact retRi hx hb hr hlk hS dX5_audible_30 (show (0 : Int32).toInt = 0 ∨ (0 ≤ a2.toInt ∧ a2.toInt ≤ 6) by have kk : (0 : Int32).toInt = 0 := (by decide); omega)
    · have zc2 := nleK (show (7 : Int32).toInt = 7 by decide) rfl c2
      refine lv_aload_n hx hb dX5_audible_10 rfl (lv_at hl 0 rfl) ?_
      refine getF (v := .ref (qt 0)) hx hb ht hown hK hP iTX5 0 0 rfl rfl (by decide) fl_RX5_9 rfl dX5_audible_11 ?_
      refine lv_iload_n hx hb dX5_audible_14 rfl (lv_at hl 2 rfl) ?_
      refine va_iald hx hb hK.1 hP 1 0 rfl rfl (inK rfl (by omega) (by decide)) dX5_audible_15 ?_
      refine lv_topi (fun v3 ev3 => ?_)
      refine lv_aload_n hx hb dX5_audible_16 rfl (lv_at hl 1 rfl) ?_
      refine lv_iload_n hx hb dX5_audible_17 rfl (lv_at hl 2 rfl) ?_
      refine lv_iload_n hx hb dX5_audible_18 rfl (lv_at hl 3 rfl) ?_
      refine behR (runVP (As := [.int a2, .int a3]) (rest := [.int v3]) ⟨hx, hb, hml, hown, ht⟩ (sX3_heard l G cs adh qh Fh Ah Bh Dh hIh a2 a3 (by omega)) okV_RX5_59 ⟨by decide, by decide⟩ hK hP [3, 4, 5, 6, 7, 8, 9, 10] rfl 3 rfl rfl hl.1 rfl (Nat.le_of_ble_eq_true rfl) dX5_audible_19 ⟨by decide, by decide⟩) hP hS (fun _ h => h) (fun r4 H locs hr4 hP hS => ?_)
      refine lv_imul hx hb dX5_audible_22 ?_
      refine lv_topi (fun v5 ev5 => ?_)
      refine lv_bipush (v := 100) hx hb dX5_audible_23 (by decide) ?_
      refine lv_idiv hx hb dX5_audible_25 (by decide) ?_
      refine lv_topi (fun v6 ev6 => ?_)
      refine lv_goto (tgt := 30) hx hb dX5_audible_26 (by decide) ?_
      exact retRi hx hb hr hlk hS dX5_audible_30 (show v6.toInt = 0 ∨ (0 ≤ a2.toInt ∧ a2.toInt ≤ 6) by omega)

set_option maxRecDepth 100000 in
set_option maxHeartbeats 16000000 in
theorem sX5_copyFrom (l : Launch) (G : va_G) (cs : Nat → ClassId) (adt : Nat) (qt : Nat → Nat) (Ft : Nat → Int32) (At : Nat → Nat → Int32) (Bt : Nat → Nat → Int64) (Dt : Int64) (hIt : IX5 Ft At) (ado : Nat) (qo : Nat → Nat) (Fo : Nat → Int32) (Ao : Nat → Nat → Int32) (Bo : Nat → Nat → Int64) (Do : Int64) (hIo : IX5 Fo Ao) : ∀ sz : Nat, Met l yX5_copyFrom (wk yX5_copyFrom cX5_copyFrom 2 none) (rmk 1 0 0) (PreD G (TY cs) [.ref adt, .ref ado] ((uX5 cs adt qt Ft At Bt Dt) ++ (uX5 cs ado qo Fo Ao Bo Do)) sz) ((QDw G (fun u : Int32 × Int32 × (Nat → Int32) => True) (fun u : Int32 × Int32 × (Nat → Int32) => ((wX5 cs adt qt (upd (upd Ft 2 u.1) 3 u.2.1) (vA At 0 u.2.2) Bt Dt) ++ (uX5 cs ado qo Fo Ao Bo Do)))) (va_A ((uX5 cs adt qt Ft At Bt Dt) ++ (uX5 cs ado qo Fo Ao Bo Do)) sz)) 0 0 (va_A ((uX5 cs adt qt Ft At Bt Dt) ++ (uX5 cs ado qo Fo Ao Bo Do)) sz) := by
  refine mkD (Qc := (QDw G (fun u : Int32 × Int32 × (Nat → Int32) => True) (fun u : Int32 × Int32 × (Nat → Int32) => ((wX5 cs adt qt (upd (upd Ft 2 u.1) 3 u.2.1) (vA At 0 u.2.2) Bt Dt) ++ (uX5 cs ado qo Fo Ao Bo Do))))) (by decide) (by simp [lg_sl, Value.category]) ?_
  intro p e s m args below meth c ls A0 hx hb hml hr hlk hown hmn ht hK hP hD hS hA hl
  have hl : lv_has ls 2 [(0, .ref adt), (1, .ref ado)] := hl
  refine lv_aload_n hx hb dX5_copyFrom_0 rfl (lv_at hl 1 rfl) ?_
  refine getF (v := .ref (qo 0)) hx hb ht hown hK hP iTX5 3 0 rfl rfl (by decide) fl_RX5_9 rfl dX5_copyFrom_1 ?_
  refine lv_iconst (v := 0) hx hb dX5_copyFrom_4 (by decide) ?_
  refine lv_aload_n hx hb dX5_copyFrom_5 rfl (lv_at hl 0 rfl) ?_
  refine getF (v := .ref (qt 0)) hx hb ht hown hK hP iTX5 0 0 rfl rfl (by decide) fl_RX5_9 rfl dX5_copyFrom_6 ?_
  refine lv_iconst (v := 0) hx hb dX5_copyFrom_9 (by decide) ?_
  refine lv_bipush (v := 7) hx hb dX5_copyFrom_10 (by decide) ?_
  refine va_copyi hx hb (by rw [hml]; exact hl.1.symm) hown (ht _ cp_RX5_47) (ht _ cp_nat) (ht _ cp_st) (ht _ cp_in) hK.1 hP hD hS 4 1 0 0 rfl rfl rfl rfl rfl (by decide) (by decide) (by decide) (by decide) (by decide) (fun i hi9 => rfl) (Nat.le_of_ble_eq_true rfl) (Nat.le_of_ble_eq_true rfl) dX5_copyFrom_12 (fun H locs hP hD hS => ?_)
  obtain ⟨g1, hP, hD⟩ : ∃ g1 : Nat → Int32, va_P G vwCl ((uX5 cs adt qt Ft (vB 0 g1 At) Bt Dt) ++ (uX5 cs ado qo Fo Ao Bo Do)) H ∧ va_D A0 ((uX5 cs adt qt Ft (vB 0 g1 At) Bt Dt) ++ (uX5 cs ado qo Fo Ao Bo Do)) := ⟨_, hP, hD⟩
  refine lv_aload_n hx hb dX5_copyFrom_15 rfl (lv_at hl 0 rfl) ?_
  refine lv_aload_n hx hb dX5_copyFrom_16 rfl (lv_at hl 1 rfl) ?_
  refine getF (v := .int (Fo 2)) hx hb ht hown hK hP iTX5 3 2 rfl rfl (by decide) fl_RX5_41 rfl dX5_copyFrom_17 ?_
  refine putD hx hb ht hown hK hP hD hS iTX5 tyX5 tyX5_ok nmX5 0 2 rfl rfl (by decide) fl_RX5_41 rfl rfl rfl (Nat.le_of_ble_eq_true rfl) dX5_copyFrom_20 (fun H locs hP hD hS => ?_)
  have hP : va_P G vwCl ((uX5 cs adt qt (upv 2 (Fo 2) Ft) (vB 0 g1 At) Bt Dt) ++ (uX5 cs ado qo Fo Ao Bo Do)) H := hP
  have hD : va_D A0 ((uX5 cs adt qt (upv 2 (Fo 2) Ft) (vB 0 g1 At) Bt Dt) ++ (uX5 cs ado qo Fo Ao Bo Do)) := hD
  refine lv_aload_n hx hb dX5_copyFrom_23 rfl (lv_at hl 0 rfl) ?_
  refine lv_aload_n hx hb dX5_copyFrom_24 rfl (lv_at hl 1 rfl) ?_
  refine getF (v := .int (Fo 3)) hx hb ht hown hK hP iTX5 3 3 rfl rfl (by decide) fl_RX5_44 rfl dX5_copyFrom_25 ?_
  refine putD hx hb ht hown hK hP hD hS iTX5 tyX5 tyX5_ok nmX5 0 3 rfl rfl (by decide) fl_RX5_44 rfl rfl rfl (Nat.le_of_ble_eq_true rfl) dX5_copyFrom_28 (fun H locs hP hD hS => ?_)
  have hP : va_P G vwCl ((uX5 cs adt qt (upv 3 (Fo 3) (upv 2 (Fo 2) Ft)) (vB 0 g1 At) Bt Dt) ++ (uX5 cs ado qo Fo Ao Bo Do)) H := hP
  have hD : va_D A0 ((uX5 cs adt qt (upv 3 (Fo 3) (upv 2 (Fo 2) Ft)) (vB 0 g1 At) Bt Dt) ++ (uX5 cs ado qo Fo Ao Bo Do)) := hD
  exact retDw ((Fo 2), (Fo 3), g1) hx hb hr hlk hP hD hS dX5_copyFrom_31 (trivial) (Nat.le_of_ble_eq_true rfl) (Nat.le_of_ble_eq_true rfl)

set_option maxRecDepth 100000 in
set_option maxHeartbeats 16000000 in
theorem sX5_begin (l : Launch) (G : va_G) (cs : Nat → ClassId) (adt : Nat) (qt : Nat → Nat) (Ft : Nat → Int32) (At : Nat → Nat → Int32) (Bt : Nat → Nat → Int64) (Dt : Int64) (hIt : IX5 Ft At) (adh : Nat) (qh : Nat → Nat) (Fh : Nat → Int32) (Ah : Nat → Nat → Int32) (Bh : Nat → Nat → Int64) (Dh : Int64) (hIh : IX3 Fh Ah) : ∀ sz : Nat, Met l yX5_begin (wk yX5_begin cX5_begin 5 none) (rmk 1 0 0) (PreD G (TY cs) [.ref adt, .ref adh] ((uX5 cs adt qt Ft At Bt Dt) ++ (uX3 cs adh qh Fh Ah Bh Dh)) sz) ((QDw G (fun u : Int32 × Int32 × (Nat → Int32) => True) (fun u : Int32 × Int32 × (Nat → Int32) => ((wX5 cs adt qt (upd (upd Ft 2 u.1) 3 u.2.1) (vA At 0 u.2.2) Bt Dt) ++ (uX3 cs adh qh Fh Ah Bh Dh)))) (va_A ((uX5 cs adt qt Ft At Bt Dt) ++ (uX3 cs adh qh Fh Ah Bh Dh)) sz)) 0 0 (va_A ((uX5 cs adt qt Ft At Bt Dt) ++ (uX3 cs adh qh Fh Ah Bh Dh)) sz) := by
  refine mkD (Qc := (QDw G (fun u : Int32 × Int32 × (Nat → Int32) => True) (fun u : Int32 × Int32 × (Nat → Int32) => ((wX5 cs adt qt (upd (upd Ft 2 u.1) 3 u.2.1) (vA At 0 u.2.2) Bt Dt) ++ (uX3 cs adh qh Fh Ah Bh Dh))))) (by decide) (by simp [lg_sl, Value.category]) ?_
  intro p e s m args below meth c ls A0 hx hb hml hr hlk hown hmn ht hK hP hD hS hA hl
  have hl : lv_has ls 5 [(0, .ref adt), (1, .ref adh)] := hl
  refine lv_aload_n hx hb dX5_begin_0 rfl (lv_at hl 1 rfl) ?_
  refine behR (runVP (As := []) (rest := []) ⟨hx, hb, hml, hown, ht⟩ (sX3_allSits l G cs adh qh Fh Ah Bh Dh hIh ) okV_RX5_18 ⟨by decide, by decide⟩ hK hP [3, 4, 5, 6, 7, 8, 9, 10] rfl 3 rfl rfl hl.1 rfl (Nat.le_of_ble_eq_true rfl) dX5_begin_1 ⟨by decide, by decide⟩) hP hS hA (fun r1 H locs hr1 hP hS => ?_)
  refine lv_istore_n (lv' := [(2, .int r1), (0, .ref adt), (1, .ref adh)]) hx hb dX5_begin_4 rfl hl (by decide) rfl (fun ls hl => ?_)
  refine lv_ldc hx hb hown (ht _ ki_RX5_24) dX5_begin_5 ?_
  refine lv_istore_n (lv' := [(3, .int 1000000), (2, .int r1), (0, .ref adt), (1, .ref adh)]) hx hb dX5_begin_7 rfl hl (by decide) rfl (fun ls hl => ?_)
  refine lv_aload_n hx hb dX5_begin_8 rfl (lv_at hl 2 rfl) ?_
  refine getF (v := .ref (qt 0)) hx hb ht hown hK hP iTX5 0 0 rfl rfl (by decide) fl_RX5_9 rfl dX5_begin_9 ?_
  refine lv_iconst (v := 0) hx hb dX5_begin_12 (by decide) ?_
  refine behDv (wr := (((uX5 cs adt qt Ft At Bt Dt) ++ (uX3 cs adh qh Fh Ah Bh Dh))).take 1 ++ (((uX5 cs adt qt Ft At Bt Dt) ++ (uX3 cs adh qh Fh Ah Bh Dh))).drop 2) (runTD (As := [.ref (qt 0), .int 0]) (rest := []) ⟨hx, hb, hml, hown, ht⟩ (dJ7_fill_53178 l G cs (qt 0) 7 (by decide) 0 (At 0)) okT_RX5_25 ⟨by decide, by decide⟩ hK hP hD [1] rfl (by decide) rfl hl.1 rfl (Nat.le_of_ble_eq_true rfl) dX5_begin_13 ⟨(Nat.le_of_ble_eq_true rfl), (Nat.le_of_ble_eq_true rfl)⟩) hP hD hS hA [1] [0, 2, 3, 4, 5, 6, 7, 8, 9, 10] rfl rfl (by decide) (by decide) (fun g2 H locs hP hD hS => ?_)
  have hP : va_P G vwCl ((uX5 cs adt qt Ft (vB 0 g2 At) Bt Dt) ++ (uX3 cs adh qh Fh Ah Bh Dh)) H := hP.sub [0, 10, 1, 2, 3, 4, 5, 6, 7, 8, 9] rfl
  have hD : va_D A0 ((uX5 cs adt qt Ft (vB 0 g2 At) Bt Dt) ++ (uX3 cs adh qh Fh Ah Bh Dh)) := hD.sub [0, 10, 1, 2, 3, 4, 5, 6, 7, 8, 9] (by decide) rfl
  refine lv_iconst (v := 0) hx hb dX5_begin_16 (by decide) ?_
  refine lv_istore (lv' := [(4, .int 0), (3, .int 1000000), (2, .int r1), (0, .ref adt), (1, .ref adh)]) hx hb dX5_begin_17 hl (by decide) rfl (fun ls hl => ?_)
  have B19 : ∀ (n : Nat) (x19_3 : Int32) (x19_4 : Int32) (at0_19 : (Nat → Int32)) (H : Heap) (locs : List Loc) (ls : Array Slot), (7 - x19_4.toInt).toNat < n → (0 : Int) ≤ x19_4.toInt ∧ x19_4.toInt ≤ 7 → va_P G vwCl ((uX5 cs adt qt Ft (vB 0 at0_19 At) Bt Dt) ++ (uX3 cs adh qh Fh Ah Bh Dh)) H → va_D A0 ((uX5 cs adt qt Ft (vB 0 at0_19 At) Bt Dt) ++ (uX3 cs adh qh Fh Ah Bh Dh)) → va_S A0 s.heap H locs → lv_has ls 5 [(0, .ref adt), (1, .ref adh), (2, .int r1), (3, .int x19_3), (4, .int x19_4)] → W p l e (rmk 1 0 0) s m args below meth c H locs 0 0 (MQ below ((QDw G (fun u : Int32 × Int32 × (Nat → Int32) => True) (fun u : Int32 × Int32 × (Nat → Int32) => ((wX5 cs adt qt (upd (upd Ft 2 u.1) 3 u.2.1) (vA At 0 u.2.2) Bt Dt) ++ (uX3 cs adh qh Fh Ah Bh Dh)))) A0) args s 0 0 A0) (F0 m 19 ls []) := by
    intro n
    induction n with
    | zero => intro x19_3 x19_4 at0_19 H locs ls hmeas hx19_4 hP hD hS hl; exact absurd hmeas (Nat.not_lt_zero _)
    | succ n ih19 =>
      intro x19_3 x19_4 at0_19 H locs ls hmeas hx19_4 hP hD hS hl
      refine lv_iload hx hb dX5_begin_19 (lv_at hl 4 rfl) ?_
      refine lv_aload_n hx hb dX5_begin_21 rfl (lv_at hl 1 rfl) ?_
      refine getF (v := .int (Fh 5)) hx hb ht hown hK hP iTX3 3 5 rfl rfl (by decide) fl_RX5_31 rfl dX5_begin_22 ?_
      have zf12001 : (0 : Int) ≤ (Fh 5).toInt ∧ (Fh 5).toInt ≤ 7 := hIh.1 5
      refine lv_icmp_ge (tgt := 77) hx hb dX5_begin_25 (by decide) (fun c12002 => ?_) (fun c12002 => ?_)
      · have zc12002 := leK rfl rfl c12002
        refine lv_aload_n hx hb dX5_begin_77 rfl (lv_at hl 0 rfl) ?_
        refine lv_iload_n hx hb dX5_begin_78 rfl (lv_at hl 3 rfl) ?_
        refine putD hx hb ht hown hK hP hD hS iTX5 tyX5 tyX5_ok nmX5 0 2 rfl rfl (by decide) fl_RX5_41 rfl rfl rfl (Nat.le_of_ble_eq_true rfl) dX5_begin_79 (fun H locs hP hD hS => ?_)
        have hP : va_P G vwCl ((uX5 cs adt qt (upv 2 x19_3 Ft) (vB 0 at0_19 At) Bt Dt) ++ (uX3 cs adh qh Fh Ah Bh Dh)) H := hP
        have hD : va_D A0 ((uX5 cs adt qt (upv 2 x19_3 Ft) (vB 0 at0_19 At) Bt Dt) ++ (uX3 cs adh qh Fh Ah Bh Dh)) := hD
        refine lv_aload_n hx hb dX5_begin_82 rfl (lv_at hl 0 rfl) ?_
        refine lv_iconst (v := 0) hx hb dX5_begin_83 (by decide) ?_
        refine putD hx hb ht hown hK hP hD hS iTX5 tyX5 tyX5_ok nmX5 0 3 rfl rfl (by decide) fl_RX5_44 rfl rfl rfl (Nat.le_of_ble_eq_true rfl) dX5_begin_84 (fun H locs hP hD hS => ?_)
        have hP : va_P G vwCl ((uX5 cs adt qt (upv 3 (0 : Int32) (upv 2 x19_3 Ft)) (vB 0 at0_19 At) Bt Dt) ++ (uX3 cs adh qh Fh Ah Bh Dh)) H := hP
        have hD : va_D A0 ((uX5 cs adt qt (upv 3 (0 : Int32) (upv 2 x19_3 Ft)) (vB 0 at0_19 At) Bt Dt) ++ (uX3 cs adh qh Fh Ah Bh Dh)) := hD
        exact retDw (x19_3, (0 : Int32), at0_19) hx hb hr hlk hP hD hS dX5_begin_87 (trivial) (Nat.le_of_ble_eq_true rfl) (Nat.le_of_ble_eq_true rfl)
      · have zc12002 := nleK rfl rfl c12002
        refine lv_aload_n hx hb dX5_begin_28 rfl (lv_at hl 0 rfl) ?_
        refine getF (v := .ref (qt 0)) hx hb ht hown hK hP iTX5 0 0 rfl rfl (by decide) fl_RX5_9 rfl dX5_begin_29 ?_
        refine lv_iload hx hb dX5_begin_32 (lv_at hl 4 rfl) ?_
        refine lv_iload_n hx hb dX5_begin_34 rfl (lv_at hl 2 rfl) ?_
        have B60 : ∀ (s60_0 : Int32) (s60_1 : Int32) (H : Heap) (locs : List Loc) (ls : Array Slot), (0 : Int) ≤ s60_1.toInt ∧ s60_1.toInt ≤ 6 → va_P G vwCl ((uX5 cs adt qt Ft (vB 0 at0_19 At) Bt Dt) ++ (uX3 cs adh qh Fh Ah Bh Dh)) H → va_D A0 ((uX5 cs adt qt Ft (vB 0 at0_19 At) Bt Dt) ++ (uX3 cs adh qh Fh Ah Bh Dh)) → va_S A0 s.heap H locs → lv_has ls 5 [(0, .ref adt), (1, .ref adh), (2, .int r1), (3, .int x19_3), (4, .int x19_4)] → W p l e (rmk 1 0 0) s m args below meth c H locs 0 0 (MQ below ((QDw G (fun u : Int32 × Int32 × (Nat → Int32) => True) (fun u : Int32 × Int32 × (Nat → Int32) => ((wX5 cs adt qt (upd (upd Ft 2 u.1) 3 u.2.1) (vA At 0 u.2.2) Bt Dt) ++ (uX3 cs adh qh Fh Ah Bh Dh)))) A0) args s 0 0 A0) (F0 m 60 ls [.int s60_0, .int s60_1, .ref (qt 0)]) := by
          intro s60_0 s60_1 H locs ls hs60_1 hP hD hS hl
          refine va_iast hx hb hK.1 hP hD hS 1 0 rfl rfl (inK rfl (by omega) (by decide)) dX5_begin_60 (fun H locs hP hD hS => ?_)
          obtain ⟨g34001, hP, hD⟩ : ∃ g34001 : Nat → Int32, va_P G vwCl ((uX5 cs adt qt Ft (vB 0 g34001 At) Bt Dt) ++ (uX3 cs adh qh Fh Ah Bh Dh)) H ∧ va_D A0 ((uX5 cs adt qt Ft (vB 0 g34001 At) Bt Dt) ++ (uX3 cs adh qh Fh Ah Bh Dh)) := ⟨upd at0_19 s60_1.toNatClampNeg s60_0, hP, hD⟩
          refine lv_iload_n hx hb dX5_begin_61 rfl (lv_at hl 3 rfl) ?_
          refine lv_aload_n hx hb dX5_begin_62 rfl (lv_at hl 0 rfl) ?_
          refine getF (v := .ref (qt 0)) hx hb ht hown hK hP iTX5 0 0 rfl rfl (by decide) fl_RX5_9 rfl dX5_begin_63 ?_
          refine lv_iload hx hb dX5_begin_66 (lv_at hl 4 rfl) ?_
          refine va_iald hx hb hK.1 hP 1 0 rfl rfl (inK rfl (by omega) (by decide)) dX5_begin_68 ?_
          refine lv_topi (fun v34002 ev34002 => ?_)
          refine lv_isub hx hb dX5_begin_69 ?_
          refine lv_topi (fun v34003 ev34003 => ?_)
          refine lv_istore_n (lv' := [(3, .int v34003), (0, .ref adt), (1, .ref adh), (2, .int r1), (4, .int x19_4)]) hx hb dX5_begin_70 rfl hl (by decide) rfl (fun ls hl => ?_)
          obtain ⟨v34004, ev34004⟩ : ∃ z : Int32, z = x19_4 + 1 := ⟨_, rfl⟩
          have tv34004 : v34004.toInt = x19_4.toInt + 1 := by rw [ev34004]; exact addT rfl (by decide) (by omega)
          refine lv_iinc (v := v34004) (lv' := [(4, .int v34004), (3, .int v34003), (0, .ref adt), (1, .ref adh), (2, .int r1)]) hx hb dX5_begin_71 hl (k := 4) rfl (by rw [ev34004]; rfl) (by decide) rfl (fun ls hl => ?_)
          refine lv_goto (tgt := 19) hx hb dX5_begin_74 (by decide) ?_
          exact ih19 v34003 v34004 g34001 H locs ls (by omega) (by omega) hP hD hS (lv_sub hl [2, 3, 4, 1, 0] rfl)
        refine lv_if_ne (tgt := 42) hx hb dX5_begin_35 (by decide) (fun c12003 => ?_) (fun c12003 => ?_)
        · have zc12003 := neK rfl (show (0 : Int32).toInt = 0 by decide) c12003
          refine lv_aload_n hx hb dX5_begin_42 rfl (lv_at hl 1 rfl) ?_
          refine getF (v := .int (Fh 2)) hx hb ht hown hK hP iTX3 3 2 rfl rfl (by decide) fl_RX5_35 rfl dX5_begin_43 ?_
          refine lv_sipush (v := 10000) hx hb dX5_begin_46 (by decide) ?_
          refine lv_imul hx hb dX5_begin_49 ?_
          refine lv_topi (fun v12004 ev12004 => ?_)
          refine lv_aload_n hx hb dX5_begin_50 rfl (lv_at hl 1 rfl) ?_
          refine getF (v := .ref (qh 9)) hx hb ht hown hK hP iTX3 3 9 rfl rfl (by decide) fl_RX5_38 rfl dX5_begin_51 ?_
          refine lv_iload hx hb dX5_begin_54 (lv_at hl 4 rfl) ?_
          refine va_iald hx hb hK.1 hP 6 0 rfl rfl (inK rfl (by omega) (by decide)) dX5_begin_56 ?_
          refine lv_topi (fun v12005 ev12005 => ?_)
          refine lv_imul hx hb dX5_begin_57 ?_
          refine lv_topi (fun v12006 ev12006 => ?_)
          refine lv_iload_n hx hb dX5_begin_58 rfl (lv_at hl 2 rfl) ?_
          refine lv_idiv hx hb dX5_begin_59 (n0K rfl (by omega)) ?_
          refine lv_topi (fun v12007 ev12007 => ?_)
          exact B60 v12007 x19_4 H locs ls (by omega) hP hD hS (lv_sub hl [0, 1, 2, 3, 4] rfl)
        · have zc12003 := eqK rfl (show (0 : Int32).toInt = 0 by decide) c12003
          refine lv_iconst (v := 0) hx hb dX5_begin_38 (by decide) ?_
          refine lv_goto (tgt := 60) hx hb dX5_begin_39 (by decide) ?_
          exact B60 0 x19_4 H locs ls (by omega) hP hD hS (lv_sub hl [0, 1, 2, 3, 4] rfl)
  exact B19 _ 1000000 0 g2 H locs ls (Nat.lt_succ_self _) (by decide) hP hD hS (lv_sub hl [3, 4, 2, 1, 0] rfl)

set_option maxRecDepth 100000 in
set_option maxHeartbeats 16000000 in
theorem sX5_leave (l : Launch) (G : va_G) (cs : Nat → ClassId) (adt : Nat) (qt : Nat → Nat) (Ft : Nat → Int32) (At : Nat → Nat → Int32) (Bt : Nat → Nat → Int64) (Dt : Int64) (hIt : IX5 Ft At) (adh : Nat) (qh : Nat → Nat) (Fh : Nat → Int32) (Ah : Nat → Nat → Int32) (Bh : Nat → Nat → Int64) (Dh : Int64) (hIh : IX3 Fh Ah) (a2 : Int32) (ha2 : (0 : Int) ≤ a2.toInt ∧ a2.toInt ≤ 6) : ∀ sz : Nat, Met l yX5_leave (wk yX5_leave cX5_leave 7 none) (rmk 1 0 0) (PreD G (TY cs) [.ref adt, .ref adh, .int a2] ((uX5 cs adt qt Ft At Bt Dt) ++ (uX3 cs adh qh Fh Ah Bh Dh)) sz) ((QDw G (fun u : (Nat → Int32) => True) (fun u : (Nat → Int32) => ((wX5 cs adt qt Ft (vA At 1 u) Bt Dt) ++ (uX3 cs adh qh Fh Ah Bh Dh)))) (va_A ((uX5 cs adt qt Ft At Bt Dt) ++ (uX3 cs adh qh Fh Ah Bh Dh)) sz)) 0 0 (va_A ((uX5 cs adt qt Ft At Bt Dt) ++ (uX3 cs adh qh Fh Ah Bh Dh)) sz) := by
  refine mkD (Qc := (QDw G (fun u : (Nat → Int32) => True) (fun u : (Nat → Int32) => ((wX5 cs adt qt Ft (vA At 1 u) Bt Dt) ++ (uX3 cs adh qh Fh Ah Bh Dh))))) (by decide) (by simp [lg_sl, Value.category]) ?_
  intro p e s m args below meth c ls A0 hx hb hml hr hlk hown hmn ht hK hP hD hS hA hl
  have hl : lv_has ls 7 [(0, .ref adt), (1, .ref adh), (2, .int a2)] := hl
  refine lv_aload_n hx hb dX5_leave_0 rfl (lv_at hl 1 rfl) ?_
  refine getF (v := .ref (qh 10)) hx hb ht hown hK hP iTX3 3 10 rfl rfl (by decide) fl_RX5_75 rfl dX5_leave_1 ?_
  refine lv_iload_n hx hb dX5_leave_4 rfl (lv_at hl 2 rfl) ?_
  refine va_iald hx hb hK.1 hP 7 0 rfl rfl (inK rfl (by omega) (by decide)) dX5_leave_5 ?_
  refine lv_topi (fun v1 ev1 => ?_)
  have zf2 : (0 : Int) ≤ v1.toInt ∧ v1.toInt ≤ 127 := by rw [ev1]; exact (hIh.2 10 _)
  refine lv_istore_n (lv' := [(3, .int v1), (0, .ref adt), (1, .ref adh), (2, .int a2)]) hx hb dX5_leave_6 rfl hl (by decide) rfl (fun ls hl => ?_)
  refine lv_iload_n hx hb dX5_leave_7 rfl (lv_at hl 0 rfl) ?_
  refine behR (runTP (As := [.int v1]) (rest := []) ⟨hx, hb, hml, hown, ht⟩ (sJ6_bitCount_0f7a4 l G cs v1 ) okT_RX5_78 ⟨by decide, by decide⟩ hK hP [] rfl hl.1 rfl (Nat.le_of_ble_eq_true rfl) dX5_leave_8 ⟨by decide, by decide⟩) hP hS hA (fun r3 H locs hr3 hP hS => ?_)
  refine lv_istore (lv' := [(4, .int r3), (3, .int v1), (0, .ref adt), (1, .ref adh), (2, .int a2)]) hx hb dX5_leave_11 hl (by decide) rfl (fun ls hl => ?_)
  refine lv_iload hx hb dX5_leave_13 (lv_at hl 0 rfl) ?_
  have B39 : ∀ (s39_0 : Int32) (H : Heap) (locs : List Loc) (ls : Array Slot), va_P G vwCl ((uX5 cs adt qt Ft At Bt Dt) ++ (uX3 cs adh qh Fh Ah Bh Dh)) H → va_D A0 ((uX5 cs adt qt Ft At Bt Dt) ++ (uX3 cs adh qh Fh Ah Bh Dh)) → va_S A0 s.heap H locs → lv_has ls 7 [(0, .ref adt), (1, .ref adh), (2, .int a2), (3, .int v1), (4, .int r3)] → W p l e (rmk 1 0 0) s m args below meth c H locs 0 0 (MQ below ((QDw G (fun u : (Nat → Int32) => True) (fun u : (Nat → Int32) => ((wX5 cs adt qt Ft (vA At 1 u) Bt Dt) ++ (uX3 cs adh qh Fh Ah Bh Dh)))) A0) args s 0 0 A0) (F0 m 39 ls [.int s39_0]) := by
    intro s39_0 H locs ls hP hD hS hl
    refine lv_istore (lv' := [(5, .int s39_0), (0, .ref adt), (1, .ref adh), (2, .int a2), (3, .int v1), (4, .int r3)]) hx hb dX5_leave_39 hl (by decide) rfl (fun ls hl => ?_)
    refine lv_iload hx hb dX5_leave_41 (lv_at hl 0 rfl) ?_
    refine lv_if_ne (tgt := 47) hx hb dX5_leave_43 (by decide) (fun c24001 => ?_) (fun c24001 => ?_)
    · have zc24001 := neK rfl (show (0 : Int32).toInt = 0 by decide) c24001
      refine lv_iconst (v := 0) hx hb dX5_leave_47 (by decide) ?_
      refine lv_istore (lv' := [(6, .int 0), (5, .int s39_0), (0, .ref adt), (1, .ref adh), (2, .int a2), (3, .int v1), (4, .int r3)]) hx hb dX5_leave_48 hl (by decide) rfl (fun ls hl => ?_)
      have B50 : ∀ (n : Nat) (x50_6 : Int32) (at1_50 : (Nat → Int32)) (H : Heap) (locs : List Loc) (ls : Array Slot), (7 - x50_6.toInt).toNat < n → (0 : Int) ≤ x50_6.toInt ∧ x50_6.toInt ≤ 7 → va_P G vwCl ((uX5 cs adt qt Ft (vB 1 at1_50 At) Bt Dt) ++ (uX3 cs adh qh Fh Ah Bh Dh)) H → va_D A0 ((uX5 cs adt qt Ft (vB 1 at1_50 At) Bt Dt) ++ (uX3 cs adh qh Fh Ah Bh Dh)) → va_S A0 s.heap H locs → lv_has ls 7 [(0, .ref adt), (1, .ref adh), (2, .int a2), (3, .int v1), (4, .int r3), (5, .int s39_0), (6, .int x50_6)] → W p l e (rmk 1 0 0) s m args below meth c H locs 0 0 (MQ below ((QDw G (fun u : (Nat → Int32) => True) (fun u : (Nat → Int32) => ((wX5 cs adt qt Ft (vA At 1 u) Bt Dt) ++ (uX3 cs adh qh Fh Ah Bh Dh)))) A0) args s 0 0 A0) (F0 m 50 ls []) := by
        intro n
        induction n with
        | zero => intro x50_6 at1_50 H locs ls hmeas hx50_6 hP hD hS hl; exact absurd hmeas (Nat.not_lt_zero _)
        | succ n ih50 =>
          intro x50_6 at1_50 H locs ls hmeas hx50_6 hP hD hS hl
          refine lv_iload hx hb dX5_leave_50 (lv_at hl 6 rfl) ?_
          refine lv_aload_n hx hb dX5_leave_52 rfl (lv_at hl 1 rfl) ?_
          refine getF (v := .int (Fh 5)) hx hb ht hown hK hP iTX3 3 5 rfl rfl (by decide) fl_RX5_31 rfl dX5_leave_53 ?_
          have zf30001 : (0 : Int) ≤ (Fh 5).toInt ∧ (Fh 5).toInt ≤ 7 := hIh.1 5
          refine lv_icmp_ge (tgt := 86) hx hb dX5_leave_56 (by decide) (fun c30002 => ?_) (fun c30002 => ?_)
          · have zc30002 := leK rfl rfl c30002
            refine lv_aload_n hx hb dX5_leave_86 rfl (lv_at hl 0 rfl) ?_
            refine getF (v := .ref (qt 1)) hx hb ht hown hK hP iTX5 0 1 rfl rfl (by decide) fl_RX5_15 rfl dX5_leave_87 ?_
            refine lv_iload_n hx hb dX5_leave_90 rfl (lv_at hl 2 rfl) ?_
            refine lv_dup2_11 hx hb dX5_leave_91 rfl rfl ?_
            refine va_iald hx hb hK.1 hP 2 0 rfl rfl (inK rfl (by omega) (by decide)) dX5_leave_92 ?_
            refine lv_topi (fun v30003 ev30003 => ?_)
            refine lv_iload hx hb dX5_leave_93 (lv_at hl 5 rfl) ?_
            refine lv_iload hx hb dX5_leave_95 (lv_at hl 4 rfl) ?_
            refine lv_imul hx hb dX5_leave_97 ?_
            refine lv_topi (fun v30004 ev30004 => ?_)
            refine lv_isub hx hb dX5_leave_98 ?_
            refine lv_topi (fun v30005 ev30005 => ?_)
            refine va_iast hx hb hK.1 hP hD hS 2 0 rfl rfl (inK rfl (by omega) (by decide)) dX5_leave_99 (fun H locs hP hD hS => ?_)
            obtain ⟨g30006, hP, hD⟩ : ∃ g30006 : Nat → Int32, va_P G vwCl ((uX5 cs adt qt Ft (vB 1 g30006 At) Bt Dt) ++ (uX3 cs adh qh Fh Ah Bh Dh)) H ∧ va_D A0 ((uX5 cs adt qt Ft (vB 1 g30006 At) Bt Dt) ++ (uX3 cs adh qh Fh Ah Bh Dh)) := ⟨upd at1_50 a2.toNatClampNeg v30005, hP, hD⟩
            exact retDw g30006 hx hb hr hlk hP hD hS dX5_leave_100 (trivial) (Nat.le_of_ble_eq_true rfl) (Nat.le_of_ble_eq_true rfl)
          · have zc30002 := nleK rfl rfl c30002
            refine lv_iload_n hx hb dX5_leave_59 rfl (lv_at hl 3 rfl) ?_
            refine lv_iload hx hb dX5_leave_60 (lv_at hl 6 rfl) ?_
            refine lv_ishr hx hb dX5_leave_62 ?_
            refine lv_topi (fun v30007 ev30007 => ?_)
            refine lv_iconst (v := 1) hx hb dX5_leave_63 (by decide) ?_
            refine lv_iand hx hb dX5_leave_64 ?_
            refine lv_topi (fun v30008 ev30008 => ?_)
            have tv30008 : 0 ≤ v30008.toInt ∧ v30008.toInt ≤ 1 := by rw [ev30008]; exact andT 1 (by decide) (by decide) (by decide)
            have B80 : ∀ (at1_80 : (Nat → Int32)) (H : Heap) (locs : List Loc) (ls : Array Slot), va_P G vwCl ((uX5 cs adt qt Ft (vB 1 at1_80 At) Bt Dt) ++ (uX3 cs adh qh Fh Ah Bh Dh)) H → va_D A0 ((uX5 cs adt qt Ft (vB 1 at1_80 At) Bt Dt) ++ (uX3 cs adh qh Fh Ah Bh Dh)) → va_S A0 s.heap H locs → lv_has ls 7 [(0, .ref adt), (1, .ref adh), (2, .int a2), (3, .int v1), (4, .int r3), (5, .int s39_0), (6, .int x50_6)] → W p l e (rmk 1 0 0) s m args below meth c H locs 0 0 (MQ below ((QDw G (fun u : (Nat → Int32) => True) (fun u : (Nat → Int32) => ((wX5 cs adt qt Ft (vA At 1 u) Bt Dt) ++ (uX3 cs adh qh Fh Ah Bh Dh)))) A0) args s 0 0 A0) (F0 m 80 ls []) := by
              intro at1_80 H locs ls hP hD hS hl
              obtain ⟨v48001, ev48001⟩ : ∃ z : Int32, z = x50_6 + 1 := ⟨_, rfl⟩
              have tv48001 : v48001.toInt = x50_6.toInt + 1 := by rw [ev48001]; exact addT rfl (by decide) (by omega)
              refine lv_iinc (v := v48001) (lv' := [(6, .int v48001), (0, .ref adt), (1, .ref adh), (2, .int a2), (3, .int v1), (4, .int r3), (5, .int s39_0)]) hx hb dX5_leave_80 hl (k := 6) rfl (by rw [ev48001]; rfl) (by decide) rfl (fun ls hl => ?_)
              refine lv_goto (tgt := 50) hx hb dX5_leave_83 (by decide) ?_
              exact ih50 v48001 at1_80 H locs ls (by omega) (by omega) hP hD hS (lv_sub hl [1, 2, 3, 4, 5, 6, 0] rfl)
            refine lv_if_eq (tgt := 80) hx hb dX5_leave_65 (by decide) (fun c30009 => ?_) (fun c30009 => ?_)
            · have zc30009 := eqK rfl (show (0 : Int32).toInt = 0 by decide) c30009
              exact B80 at1_50 H locs ls hP hD hS (lv_sub hl [0, 1, 2, 3, 4, 5, 6] rfl)
            · have zc30009 := neK rfl (show (0 : Int32).toInt = 0 by decide) c30009
              refine lv_aload_n hx hb dX5_leave_68 rfl (lv_at hl 0 rfl) ?_
              refine getF (v := .ref (qt 1)) hx hb ht hown hK hP iTX5 0 1 rfl rfl (by decide) fl_RX5_15 rfl dX5_leave_69 ?_
              refine lv_iload hx hb dX5_leave_72 (lv_at hl 6 rfl) ?_
              refine lv_dup2_11 hx hb dX5_leave_74 rfl rfl ?_
              refine va_iald hx hb hK.1 hP 2 0 rfl rfl (inK rfl (by omega) (by decide)) dX5_leave_75 ?_
              refine lv_topi (fun v30010 ev30010 => ?_)
              refine lv_iload hx hb dX5_leave_76 (lv_at hl 5 rfl) ?_
              refine lv_iadd hx hb dX5_leave_78 ?_
              refine lv_topi (fun v30011 ev30011 => ?_)
              refine va_iast hx hb hK.1 hP hD hS 2 0 rfl rfl (inK rfl (by omega) (by decide)) dX5_leave_79 (fun H locs hP hD hS => ?_)
              obtain ⟨g30012, hP, hD⟩ : ∃ g30012 : Nat → Int32, va_P G vwCl ((uX5 cs adt qt Ft (vB 1 g30012 At) Bt Dt) ++ (uX3 cs adh qh Fh Ah Bh Dh)) H ∧ va_D A0 ((uX5 cs adt qt Ft (vB 1 g30012 At) Bt Dt) ++ (uX3 cs adh qh Fh Ah Bh Dh)) := ⟨upd at1_50 x50_6.toNatClampNeg v30011, hP, hD⟩
              exact B80 g30012 H locs ls hP hD hS (lv_sub hl [0, 1, 2, 3, 4, 5, 6] rfl)
      exact B50 _ 0 (At 1) H locs ls (Nat.lt_succ_self _) (by decide) hP hD hS (lv_sub hl [2, 3, 4, 5, 6, 1, 0] rfl)
    · have zc24001 := eqK rfl (show (0 : Int32).toInt = 0 by decide) c24001
      exact retDw (At 1) hx hb hr hlk hP hD hS dX5_leave_46 (trivial) (Nat.le_of_ble_eq_true rfl) (Nat.le_of_ble_eq_true rfl)
  refine lv_if_ne (tgt := 22) hx hb dX5_leave_15 (by decide) (fun c4 => ?_) (fun c4 => ?_)
  · have zc4 := neK rfl (show (0 : Int32).toInt = 0 by decide) c4
    refine lv_aload_n hx hb dX5_leave_22 rfl (lv_at hl 2 rfl) ?_
    refine getF (v := .ref (qt 0)) hx hb ht hown hK hP iTX5 0 0 rfl rfl (by decide) fl_RX5_9 rfl dX5_leave_23 ?_
    refine lv_iload_n hx hb dX5_leave_26 rfl (lv_at hl 4 rfl) ?_
    refine va_iald hx hb hK.1 hP 1 0 rfl rfl (inK rfl (by omega) (by decide)) dX5_leave_27 ?_
    refine lv_topi (fun v5 ev5 => ?_)
    refine lv_aload_n hx hb dX5_leave_28 rfl (lv_at hl 3 rfl) ?_
    refine getF (v := .int (Fh 1)) hx hb ht hown hK hP iTX3 3 1 rfl rfl (by decide) fl_RX5_83 rfl dX5_leave_29 ?_
    refine lv_imul hx hb dX5_leave_32 ?_
    refine lv_topi (fun v6 ev6 => ?_)
    refine lv_bipush (v := 100) hx hb dX5_leave_33 (by decide) ?_
    refine lv_idiv hx hb dX5_leave_35 (by decide) ?_
    refine lv_topi (fun v7 ev7 => ?_)
    refine lv_iload hx hb dX5_leave_36 (lv_at hl 0 rfl) ?_
    refine lv_idiv hx hb dX5_leave_38 (n0K rfl (by omega)) ?_
    refine lv_topi (fun v8 ev8 => ?_)
    exact B39 v8 H locs ls hP hD hS (lv_sub hl [2, 3, 4, 1, 0] rfl)
  · have zc4 := eqK rfl (show (0 : Int32).toInt = 0 by decide) c4
    refine lv_iconst (v := 0) hx hb dX5_leave_18 (by decide) ?_
    refine lv_goto (tgt := 39) hx hb dX5_leave_19 (by decide) ?_
    exact B39 0 H locs ls hP hD hS (lv_sub hl [2, 3, 4, 1, 0] rfl)

set_option maxRecDepth 100000 in
set_option maxHeartbeats 16000000 in
theorem sX5_pass (l : Launch) (G : va_G) (cs : Nat → ClassId) (adt : Nat) (qt : Nat → Nat) (Ft : Nat → Int32) (At : Nat → Nat → Int32) (Bt : Nat → Nat → Int64) (Dt : Int64) (hIt : IX5 Ft At) (adh : Nat) (qh : Nat → Nat) (Fh : Nat → Int32) (Ah : Nat → Nat → Int32) (Bh : Nat → Nat → Int64) (Dh : Int64) (hIh : IX3 Fh Ah) (a2 : Int32) : ∀ sz : Nat, Met l yX5_pass (wk yX5_pass cX5_pass 5 (some .boolean)) (rmk 2 0 0) (PreD G (TY cs) [.ref adt, .ref adh, .int a2] ((uX5 cs adt qt Ft At Bt Dt) ++ (uX3 cs adh qh Fh Ah Bh Dh)) sz) ((QDi G (fun (r : Int32) (u : (Nat → Int32) × (Nat → Int32)) => (0 : Int) ≤ r.toInt ∧ r.toInt ≤ 1) (fun u : (Nat → Int32) × (Nat → Int32) => ((wX5 cs adt qt Ft (vA (vA At 0 u.1) 1 u.2) Bt Dt) ++ (uX3 cs adh qh Fh Ah Bh Dh)))) (va_A ((uX5 cs adt qt Ft At Bt Dt) ++ (uX3 cs adh qh Fh Ah Bh Dh)) sz)) 0 0 (va_A ((uX5 cs adt qt Ft At Bt Dt) ++ (uX3 cs adh qh Fh Ah Bh Dh)) sz) := by
  refine mkD (Qc := (QDi G (fun (r : Int32) (u : (Nat → Int32) × (Nat → Int32)) => (0 : Int) ≤ r.toInt ∧ r.toInt ≤ 1) (fun u : (Nat → Int32) × (Nat → Int32) => ((wX5 cs adt qt Ft (vA (vA At 0 u.1) 1 u.2) Bt Dt) ++ (uX3 cs adh qh Fh Ah Bh Dh))))) (by decide) (by simp [lg_sl, Value.category]) ?_
  intro p e s m args below meth c ls A0 hx hb hml hr hlk hown hmn ht hK hP hD hS hA hl
  have hl : lv_has ls 5 [(0, .ref adt), (1, .ref adh), (2, .int a2)] := hl
  refine lv_aload_n hx hb dX5_pass_0 rfl (lv_at hl 0 rfl) ?_
  refine getF (v := .ref (qt 1)) hx hb ht hown hK hP iTX5 0 1 rfl rfl (by decide) fl_RX5_15 rfl dX5_pass_1 ?_
  refine lv_iconst (v := 0) hx hb dX5_pass_4 (by decide) ?_
  refine behDv (wr := (((uX5 cs adt qt Ft At Bt Dt) ++ (uX3 cs adh qh Fh Ah Bh Dh))).take 2 ++ (((uX5 cs adt qt Ft At Bt Dt) ++ (uX3 cs adh qh Fh Ah Bh Dh))).drop 3) (runTD (As := [.ref (qt 1), .int 0]) (rest := []) ⟨hx, hb, hml, hown, ht⟩ (dJ7_fill_53178 l G cs (qt 1) 7 (by decide) 0 (At 1)) okT_RX5_25 ⟨by decide, by decide⟩ hK hP hD [2] rfl (by decide) rfl hl.1 rfl (Nat.le_of_ble_eq_true rfl) dX5_pass_5 ⟨(Nat.le_of_ble_eq_true rfl), (Nat.le_of_ble_eq_true rfl)⟩) hP hD hS hA [2] [0, 1, 3, 4, 5, 6, 7, 8, 9, 10] rfl rfl (by decide) (by decide) (fun g1 H locs hP hD hS => ?_)
  have hP : va_P G vwCl ((uX5 cs adt qt Ft (vB 1 g1 At) Bt Dt) ++ (uX3 cs adh qh Fh Ah Bh Dh)) H := hP.sub [0, 1, 10, 2, 3, 4, 5, 6, 7, 8, 9] rfl
  have hD : va_D A0 ((uX5 cs adt qt Ft (vB 1 g1 At) Bt Dt) ++ (uX3 cs adh qh Fh Ah Bh Dh)) := hD.sub [0, 1, 10, 2, 3, 4, 5, 6, 7, 8, 9] (by decide) rfl
  refine lv_iconst (v := 0) hx hb dX5_pass_8 (by decide) ?_
  refine lv_istore_n (lv' := [(3, .int 0), (0, .ref adt), (1, .ref adh), (2, .int a2)]) hx hb dX5_pass_9 rfl hl (by decide) rfl (fun ls hl => ?_)
  have B10 : ∀ (n : Nat) (x10_3 : Int32) (at1_10 : (Nat → Int32)) (H : Heap) (locs : List Loc) (ls : Array Slot), (7 - x10_3.toInt).toNat < n → (0 : Int) ≤ x10_3.toInt ∧ x10_3.toInt ≤ 7 → va_P G vwCl ((uX5 cs adt qt Ft (vB 1 at1_10 At) Bt Dt) ++ (uX3 cs adh qh Fh Ah Bh Dh)) H → va_D A0 ((uX5 cs adt qt Ft (vB 1 at1_10 At) Bt Dt) ++ (uX3 cs adh qh Fh Ah Bh Dh)) → va_S A0 s.heap H locs → lv_has ls 5 [(0, .ref adt), (1, .ref adh), (2, .int a2), (3, .int x10_3)] → W p l e (rmk 2 0 0) s m args below meth c H locs 0 0 (MQ below ((QDi G (fun (r : Int32) (u : (Nat → Int32) × (Nat → Int32)) => (0 : Int) ≤ r.toInt ∧ r.toInt ≤ 1) (fun u : (Nat → Int32) × (Nat → Int32) => ((wX5 cs adt qt Ft (vA (vA At 0 u.1) 1 u.2) Bt Dt) ++ (uX3 cs adh qh Fh Ah Bh Dh)))) A0) args s 0 0 A0) (F0 m 10 ls []) := by
    intro n
    induction n with
    | zero => intro x10_3 at1_10 H locs ls hmeas hx10_3 hP hD hS hl; exact absurd hmeas (Nat.not_lt_zero _)
    | succ n ih10 =>
      intro x10_3 at1_10 H locs ls hmeas hx10_3 hP hD hS hl
      refine lv_iload_n hx hb dX5_pass_10 rfl (lv_at hl 3 rfl) ?_
      refine lv_aload_n hx hb dX5_pass_11 rfl (lv_at hl 1 rfl) ?_
      refine getF (v := .int (Fh 5)) hx hb ht hown hK hP iTX3 3 5 rfl rfl (by decide) fl_RX5_31 rfl dX5_pass_12 ?_
      have zf7001 : (0 : Int) ≤ (Fh 5).toInt ∧ (Fh 5).toInt ≤ 7 := hIh.1 5
      refine lv_icmp_ge (tgt := 35) hx hb dX5_pass_15 (by decide) (fun c7002 => ?_) (fun c7002 => ?_)
      · have zc7002 := leK rfl rfl c7002
        refine lv_iconst (v := 0) hx hb dX5_pass_35 (by decide) ?_
        refine lv_istore_n (lv' := [(3, .int 0), (0, .ref adt), (1, .ref adh), (2, .int a2)]) hx hb dX5_pass_36 rfl hl (by decide) rfl (fun ls hl => ?_)
        refine lv_iconst (v := 0) hx hb dX5_pass_37 (by decide) ?_
        refine lv_istore (lv' := [(4, .int 0), (3, .int 0), (0, .ref adt), (1, .ref adh), (2, .int a2)]) hx hb dX5_pass_38 hl (by decide) rfl (fun ls hl => ?_)
        have B40 : ∀ (n : Nat) (x40_3 : Int32) (x40_4 : Int32) (at0_40 : (Nat → Int32)) (H : Heap) (locs : List Loc) (ls : Array Slot), (7 - x40_4.toInt).toNat < n → (0 : Int) ≤ x40_3.toInt ∧ x40_3.toInt ≤ 1 → (0 : Int) ≤ x40_4.toInt ∧ x40_4.toInt ≤ 7 → va_P G vwCl ((uX5 cs adt qt Ft (vB 1 at1_10 (vB 0 at0_40 At)) Bt Dt) ++ (uX3 cs adh qh Fh Ah Bh Dh)) H → va_D A0 ((uX5 cs adt qt Ft (vB 1 at1_10 (vB 0 at0_40 At)) Bt Dt) ++ (uX3 cs adh qh Fh Ah Bh Dh)) → va_S A0 s.heap H locs → lv_has ls 5 [(0, .ref adt), (1, .ref adh), (3, .int x40_3), (4, .int x40_4)] → W p l e (rmk 2 0 0) s m args below meth c H locs 0 0 (MQ below ((QDi G (fun (r : Int32) (u : (Nat → Int32) × (Nat → Int32)) => (0 : Int) ≤ r.toInt ∧ r.toInt ≤ 1) (fun u : (Nat → Int32) × (Nat → Int32) => ((wX5 cs adt qt Ft (vA (vA At 0 u.1) 1 u.2) Bt Dt) ++ (uX3 cs adh qh Fh Ah Bh Dh)))) A0) args s 0 0 A0) (F0 m 40 ls []) := by
          intro n
          induction n with
          | zero => intro x40_3 x40_4 at0_40 H locs ls hmeas hx40_3 hx40_4 hP hD hS hl; exact absurd hmeas (Nat.not_lt_zero _)
          | succ n ih40 =>
            intro x40_3 x40_4 at0_40 H locs ls hmeas hx40_3 hx40_4 hP hD hS hl
            refine lv_iload hx hb dX5_pass_40 (lv_at hl 3 rfl) ?_
            refine lv_aload_n hx hb dX5_pass_42 rfl (lv_at hl 1 rfl) ?_
            refine getF (v := .int (Fh 5)) hx hb ht hown hK hP iTX3 3 5 rfl rfl (by decide) fl_RX5_31 rfl dX5_pass_43 ?_
            have zf24001 : (0 : Int) ≤ (Fh 5).toInt ∧ (Fh 5).toInt ≤ 7 := hIh.1 5
            refine lv_icmp_ge (tgt := 92) hx hb dX5_pass_46 (by decide) (fun c24002 => ?_) (fun c24002 => ?_)
            · have zc24002 := leK rfl rfl c24002
              refine lv_iload_n hx hb dX5_pass_92 rfl (lv_at hl 2 rfl) ?_
              exact retDz (at0_40, at1_10) hx hb hr hlk hP hD hS dX5_pass_93 (narZ (by omega)) (show (0 : Int) ≤ x40_3.toInt ∧ x40_3.toInt ≤ 1 by omega) (Nat.le_of_ble_eq_true rfl) (Nat.le_of_ble_eq_true rfl)
            · have zc24002 := nleK rfl rfl c24002
              refine lv_aload_n hx hb dX5_pass_49 rfl (lv_at hl 0 rfl) ?_
              refine getF (v := .ref (qt 0)) hx hb ht hown hK hP iTX5 0 0 rfl rfl (by decide) fl_RX5_9 rfl dX5_pass_50 ?_
              refine lv_iload hx hb dX5_pass_53 (lv_at hl 3 rfl) ?_
              refine lv_dup2_11 hx hb dX5_pass_55 rfl rfl ?_
              refine va_iald hx hb hK.1 hP 1 0 rfl rfl (inK rfl (by omega) (by decide)) dX5_pass_56 ?_
              refine lv_topi (fun v24003 ev24003 => ?_)
              refine lv_aload_n hx hb dX5_pass_57 rfl (lv_at hl 0 rfl) ?_
              refine getF (v := .ref (qt 1)) hx hb ht hown hK hP iTX5 0 1 rfl rfl (by decide) fl_RX5_15 rfl dX5_pass_58 ?_
              refine lv_iload hx hb dX5_pass_61 (lv_at hl 3 rfl) ?_
              refine va_iald hx hb hK.1 hP 2 0 rfl rfl (inK rfl (by omega) (by decide)) dX5_pass_63 ?_
              refine lv_topi (fun v24004 ev24004 => ?_)
              refine lv_iadd hx hb dX5_pass_64 ?_
              refine lv_topi (fun v24005 ev24005 => ?_)
              refine va_iast hx hb hK.1 hP hD hS 1 0 rfl rfl (inK rfl (by omega) (by decide)) dX5_pass_65 (fun H locs hP hD hS => ?_)
              obtain ⟨g24006, hP, hD⟩ : ∃ g24006 : Nat → Int32, va_P G vwCl ((uX5 cs adt qt Ft (vB 1 at1_10 (vB 0 g24006 At)) Bt Dt) ++ (uX3 cs adh qh Fh Ah Bh Dh)) H ∧ va_D A0 ((uX5 cs adt qt Ft (vB 1 at1_10 (vB 0 g24006 At)) Bt Dt) ++ (uX3 cs adh qh Fh Ah Bh Dh)) := ⟨upd at0_40 x40_4.toNatClampNeg v24005, hP, hD⟩
              refine lv_iload_n hx hb dX5_pass_66 rfl (lv_at hl 2 rfl) ?_
              have B85 : ∀ (s85_0 : Int32) (H : Heap) (locs : List Loc) (ls : Array Slot), (0 : Int) ≤ s85_0.toInt ∧ s85_0.toInt ≤ 1 → va_P G vwCl ((uX5 cs adt qt Ft (vB 1 at1_10 (vB 0 g24006 At)) Bt Dt) ++ (uX3 cs adh qh Fh Ah Bh Dh)) H → va_D A0 ((uX5 cs adt qt Ft (vB 1 at1_10 (vB 0 g24006 At)) Bt Dt) ++ (uX3 cs adh qh Fh Ah Bh Dh)) → va_S A0 s.heap H locs → lv_has ls 5 [(0, .ref adt), (1, .ref adh), (4, .int x40_4)] → W p l e (rmk 2 0 0) s m args below meth c H locs 0 0 (MQ below ((QDi G (fun (r : Int32) (u : (Nat → Int32) × (Nat → Int32)) => (0 : Int) ≤ r.toInt ∧ r.toInt ≤ 1) (fun u : (Nat → Int32) × (Nat → Int32) => ((wX5 cs adt qt Ft (vA (vA At 0 u.1) 1 u.2) Bt Dt) ++ (uX3 cs adh qh Fh Ah Bh Dh)))) A0) args s 0 0 A0) (F0 m 85 ls [.int s85_0]) := by
                intro s85_0 H locs ls hs85_0 hP hD hS hl
                refine lv_istore_n (lv' := [(3, .int s85_0), (0, .ref adt), (1, .ref adh), (4, .int x40_4)]) hx hb dX5_pass_85 rfl hl (by decide) rfl (fun ls hl => ?_)
                obtain ⟨v49001, ev49001⟩ : ∃ z : Int32, z = x40_4 + 1 := ⟨_, rfl⟩
                have tv49001 : v49001.toInt = x40_4.toInt + 1 := by rw [ev49001]; exact addT rfl (by decide) (by omega)
                refine lv_iinc (v := v49001) (lv' := [(4, .int v49001), (3, .int s85_0), (0, .ref adt), (1, .ref adh)]) hx hb dX5_pass_86 hl (k := 3) rfl (by rw [ev49001]; rfl) (by decide) rfl (fun ls hl => ?_)
                refine lv_goto (tgt := 40) hx hb dX5_pass_89 (by decide) ?_
                exact ih40 s85_0 v49001 g24006 H locs ls (by omega) (by omega) (by omega) hP hD hS (lv_sub hl [2, 3, 1, 0] rfl)
              have B80 : ∀ (H : Heap) (locs : List Loc) (ls : Array Slot), va_P G vwCl ((uX5 cs adt qt Ft (vB 1 at1_10 (vB 0 g24006 At)) Bt Dt) ++ (uX3 cs adh qh Fh Ah Bh Dh)) H → va_D A0 ((uX5 cs adt qt Ft (vB 1 at1_10 (vB 0 g24006 At)) Bt Dt) ++ (uX3 cs adh qh Fh Ah Bh Dh)) → va_S A0 s.heap H locs → lv_has ls 5 [(0, .ref adt), (1, .ref adh), (4, .int x40_4)] → W p l e (rmk 2 0 0) s m args below meth c H locs 0 0 (MQ below ((QDi G (fun (r : Int32) (u : (Nat → Int32) × (Nat → Int32)) => (0 : Int) ≤ r.toInt ∧ r.toInt ≤ 1) (fun u : (Nat → Int32) × (Nat → Int32) => ((wX5 cs adt qt Ft (vA (vA At 0 u.1) 1 u.2) Bt Dt) ++ (uX3 cs adh qh Fh Ah Bh Dh)))) A0) args s 0 0 A0) (F0 m 80 ls []) := by
                intro H locs ls hP hD hS hl
                refine lv_iconst (v := 1) hx hb dX5_pass_80 (by decide) ?_
                refine lv_goto (tgt := 85) hx hb dX5_pass_81 (by decide) ?_
                exact B85 1 H locs ls (by decide) hP hD hS (lv_sub hl [0, 1, 2] rfl)
              refine lv_if_ne (tgt := 80) hx hb dX5_pass_67 (by decide) (fun c24007 => ?_) (fun c24007 => ?_)
              · have zc24007 := neK rfl (show (0 : Int32).toInt = 0 by decide) c24007
                exact B80 H locs ls hP hD hS (lv_sub hl [0, 1, 3] rfl)
              · have zc24007 := eqK rfl (show (0 : Int32).toInt = 0 by decide) c24007
                refine lv_aload_n hx hb dX5_pass_70 rfl (lv_at hl 0 rfl) ?_
                refine getF (v := .ref (qt 1)) hx hb ht hown hK hP iTX5 0 1 rfl rfl (by decide) fl_RX5_15 rfl dX5_pass_71 ?_
                refine lv_iload hx hb dX5_pass_74 (lv_at hl 3 rfl) ?_
                refine va_iald hx hb hK.1 hP 2 0 rfl rfl (inK rfl (by omega) (by decide)) dX5_pass_76 ?_
                refine lv_topi (fun v24008 ev24008 => ?_)
                refine lv_if_eq (tgt := 84) hx hb dX5_pass_77 (by decide) (fun c24009 => ?_) (fun c24009 => ?_)
                · have zc24009 := eqK rfl (show (0 : Int32).toInt = 0 by decide) c24009
                  refine lv_iconst (v := 0) hx hb dX5_pass_84 (by decide) ?_
                  exact B85 0 H locs ls (by decide) hP hD hS (lv_sub hl [0, 1, 3] rfl)
                · have zc24009 := neK rfl (show (0 : Int32).toInt = 0 by decide) c24009
                  exact B80 H locs ls hP hD hS (lv_sub hl [0, 1, 3] rfl)
        exact B40 _ 0 0 (At 0) H locs ls (Nat.lt_succ_self _) (by decide) (by decide) hP hD hS (lv_sub hl [2, 3, 1, 0] rfl)
      · have zc7002 := nleK rfl rfl c7002
        refine lv_iload_n hx hb dX5_pass_18 rfl (lv_at hl 3 rfl) ?_
        refine lv_iload_n hx hb dX5_pass_19 rfl (lv_at hl 2 rfl) ?_
        have B29 : ∀ (at1_29 : (Nat → Int32)) (H : Heap) (locs : List Loc) (ls : Array Slot), va_P G vwCl ((uX5 cs adt qt Ft (vB 1 at1_29 At) Bt Dt) ++ (uX3 cs adh qh Fh Ah Bh Dh)) H → va_D A0 ((uX5 cs adt qt Ft (vB 1 at1_29 At) Bt Dt) ++ (uX3 cs adh qh Fh Ah Bh Dh)) → va_S A0 s.heap H locs → lv_has ls 5 [(0, .ref adt), (1, .ref adh), (2, .int a2), (3, .int x10_3)] → W p l e (rmk 2 0 0) s m args below meth c H locs 0 0 (MQ below ((QDi G (fun (r : Int32) (u : (Nat → Int32) × (Nat → Int32)) => (0 : Int) ≤ r.toInt ∧ r.toInt ≤ 1) (fun u : (Nat → Int32) × (Nat → Int32) => ((wX5 cs adt qt Ft (vA (vA At 0 u.1) 1 u.2) Bt Dt) ++ (uX3 cs adh qh Fh Ah Bh Dh)))) A0) args s 0 0 A0) (F0 m 29 ls []) := by
          intro at1_29 H locs ls hP hD hS hl
          obtain ⟨v18001, ev18001⟩ : ∃ z : Int32, z = x10_3 + 1 := ⟨_, rfl⟩
          have tv18001 : v18001.toInt = x10_3.toInt + 1 := by rw [ev18001]; exact addT rfl (by decide) (by omega)
          refine lv_iinc (v := v18001) (lv' := [(3, .int v18001), (0, .ref adt), (1, .ref adh), (2, .int a2)]) hx hb dX5_pass_29 hl (k := 3) rfl (by rw [ev18001]; rfl) (by decide) rfl (fun ls hl => ?_)
          refine lv_goto (tgt := 10) hx hb dX5_pass_32 (by decide) ?_
          exact ih10 v18001 at1_29 H locs ls (by omega) (by omega) hP hD hS (lv_sub hl [1, 2, 3, 0] rfl)
        refine lv_icmp_eq (tgt := 29) hx hb dX5_pass_20 (by decide) (fun c7003 => ?_) (fun c7003 => ?_)
        · have zc7003 := eqK rfl rfl c7003
          exact B29 at1_10 H locs ls hP hD hS (lv_sub hl [0, 1, 2, 3] rfl)
        · have zc7003 := neK rfl rfl c7003
          refine lv_aload_n hx hb dX5_pass_23 rfl (lv_at hl 0 rfl) ?_
          refine lv_aload_n hx hb dX5_pass_24 rfl (lv_at hl 1 rfl) ?_
          refine lv_iload_n hx hb dX5_pass_25 rfl (lv_at hl 3 rfl) ?_
          refine behDw (wr := ([] : va_W)) (runVD (As := [.ref adh, .int x10_3]) (rest := []) ⟨hx, hb, hml, hown, ht⟩ (sX5_leave l G cs adt qt Ft (vB 1 at1_10 At) Bt Dt (IB_av (k := 1) hIt (AJ_full _)) adh qh Fh Ah Bh Dh hIh x10_3 (by omega)) okV_RX5_71 ⟨by decide, by decide⟩ hK hP hD [0, 1, 2, 3, 4, 5, 6, 7, 8, 9, 10] rfl (by decide) rfl 0 rfl rfl hl.1 rfl (Nat.le_of_ble_eq_true rfl) dX5_pass_26 ⟨(Nat.le_of_ble_eq_true rfl), (Nat.le_of_ble_eq_true rfl)⟩) hP hD hS hA [0, 1, 2, 3, 4, 5, 6, 7, 8, 9, 10] [] rfl rfl (by decide) (by decide) (fun u H locs hu hP hD hS => ?_)
          obtain ⟨g7004, rfl⟩ : ∃ z, z = u := ⟨_, rfl⟩
          have hr7005 := hu
          have hP : va_P G vwCl ((uX5 cs adt qt Ft (vB 1 g7004 At) Bt Dt) ++ (uX3 cs adh qh Fh Ah Bh Dh)) H := hP.sub [0, 1, 2, 3, 4, 5, 6, 7, 8, 9, 10] rfl
          have hD : va_D A0 ((uX5 cs adt qt Ft (vB 1 g7004 At) Bt Dt) ++ (uX3 cs adh qh Fh Ah Bh Dh)) := hD.sub [0, 1, 2, 3, 4, 5, 6, 7, 8, 9, 10] (by decide) rfl
          exact B29 g7004 H locs ls hP hD hS (lv_sub hl [0, 1, 2, 3] rfl)
  exact B10 _ 0 g1 H locs ls (Nat.lt_succ_self _) (by decide) hP hD hS (lv_sub hl [1, 2, 3, 0] rfl)

