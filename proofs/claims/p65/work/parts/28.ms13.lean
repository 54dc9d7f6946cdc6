set_option maxRecDepth 100000 in
set_option maxHeartbeats 8000000 in
theorem sX11_write (l : Launch) (G : va_G) (cs : Nat → ClassId) (h : Nat) (q : Nat → Nat) (F : Nat → Int32) (A : Nat → Nat → Int32) (D : Int64) (B : Nat → Nat → Int64) (hI : IM F A) (a1 : Int32) (a2 : Int32) (a3 : Int64) : ImpI l yX11_write cX11_write 5 (some .int) 2 0 0 G (TY cs) [.ref h, .int a1, .int a2, .long a3] (mS cs h q F A D B) (fun (r : Int32) (u : (Nat → Int64)) => (r.toInt = -2 ∧ (a1.toInt < 0 ∨ 3 < a1.toInt)) ∨ ((0 ≤ a1.toInt ∧ a1.toInt ≤ 3) ∧ ((A 31) a1.toNatClampNeg).toInt = -1 ∧ r.toInt = -6) ∨ ((0 ≤ a1.toInt ∧ a1.toInt ≤ 3) ∧ ¬ ((A 31) a1.toNatClampNeg).toInt = -1 ∧ (a2.toInt < 0 ∨ ((A 31) a1.toNatClampNeg).toInt ≤ a2.toInt) ∧ r.toInt = -7) ∨ ((0 ≤ a1.toInt ∧ a1.toInt ≤ 3) ∧ ¬ ((A 31) a1.toNatClampNeg).toInt = -1 ∧ 0 ≤ a2.toInt ∧ a2.toInt < ((A 31) a1.toNatClampNeg).toInt ∧ r.toInt = 0)) (fun u : (Nat → Int64) => (mS cs h q F A D (vA B 33 u))) := by
  refine mkD (Qc := (QDi G (fun (r : Int32) (u : (Nat → Int64)) => (r.toInt = -2 ∧ (a1.toInt < 0 ∨ 3 < a1.toInt)) ∨ ((0 ≤ a1.toInt ∧ a1.toInt ≤ 3) ∧ ((A 31) a1.toNatClampNeg).toInt = -1 ∧ r.toInt = -6) ∨ ((0 ≤ a1.toInt ∧ a1.toInt ≤ 3) ∧ ¬ ((A 31) a1.toNatClampNeg).toInt = -1 ∧ (a2.toInt < 0 ∨ ((A 31) a1.toNatClampNeg).toInt ≤ a2.toInt) ∧ r.toInt = -7) ∨ ((0 ≤ a1.toInt ∧ a1.toInt ≤ 3) ∧ ¬ ((A 31) a1.toNatClampNeg).toInt = -1 ∧ 0 ≤ a2.toInt ∧ a2.toInt < ((A 31) a1.toNatClampNeg).toInt ∧ r.toInt = 0)) (fun u : (Nat → Int64) => (mS cs h q F A D (vA B 33 u))))) (by decide) (by simp [lg_sl, Value.category]) ?_
  intro p e s m args below meth c ls A0 hx hb hml hr hlk hown hmn ht hK hP hD hS hA hl
  have hl : lv_has ls 5 [(0, .ref h), (1, .int a1), (2, .int a2), (3, .long a3)] := hl
  refine lv_iload_n hx hb dX11_write_0 rfl (lv_at hl 1 rfl) ?_
  refine behR (runSP (As := [.int a1]) (rest := []) ⟨hx, hb, hml, hown, ht⟩ (sX11_isSlot l G cs a1 ) okS_RX11_290 ⟨by decide, by decide⟩ hK hP [] rfl hl.1 rfl (Nat.le_of_ble_eq_true rfl) dX11_write_1 ⟨by decide, by decide⟩) hP hS hA (fun r1 H locs hr1 hP hS => ?_)
  have hr1 : (r1.toInt = 1 ∧ 0 ≤ a1.toInt ∧ a1.toInt ≤ 3) ∨ (r1.toInt = 0 ∧ (a1.toInt < 0 ∨ 3 < a1.toInt)) := hr1
  refine lv_if_ne (tgt := 10) hx hb dX11_write_4 (by decide) (fun c2 => ?_) (fun c2 => ?_)
  · have zc2 := neK rfl (show (0 : Int32).toInt = 0 by decide) c2
    refine lv_aload_n hx hb dX11_write_10 rfl (lv_at hl 0 rfl) ?_
    refine getF (v := .ref (q 31)) hx hb ht hown hK hP iTX11 0 31 rfl rfl (by decide) fl_RX11_61 rfl dX11_write_11 ?_
    refine lv_iload_n hx hb dX11_write_14 rfl (lv_at hl 1 rfl) ?_
    refine va_iald hx hb hK.1 hP 16 0 rfl rfl (inK rfl (by omega) (by decide)) dX11_write_15 ?_
    refine lv_topi (fun v3 ev3 => ?_)
    have zf4 : (-1 : Int) ≤ v3.toInt ∧ v3.toInt ≤ 60 := by rw [ev3]; exact (hI.2 31 _)
    have nv3 : v3.toInt = (A 31 a1.toNatClampNeg).toInt := congrArg Int32.toInt ev3
    refine lv_iconst (v := (-1)) hx hb dX11_write_16 (by decide) ?_
    refine lv_icmp_ne (tgt := 23) hx hb dX11_write_17 (by decide) (fun c5 => ?_) (fun c5 => ?_)
    · have zc5 := neK rfl (show (-1 : Int32).toInt = (-1) by decide) c5
      refine lv_iload_n hx hb dX11_write_23 rfl (lv_at hl 2 rfl) ?_
      refine lv_i2l hx hb dX11_write_24 rfl ?_
      have bb6 := i32b a2
      refine lv_topl (fun v7 ev7 => ?_)
      have tv7 : v7.toInt = a2.toInt := by rw [ev7]; exact Int32.toInt_toInt64 _
      refine lv_lconst (v := 0) hx hb dX11_write_25 (by decide) ?_
      refine lv_aload_n hx hb dX11_write_26 rfl (lv_at hl 0 rfl) ?_
      refine getF (v := .ref (q 31)) hx hb ht hown hK hP iTX11 0 31 rfl rfl (by decide) fl_RX11_61 rfl dX11_write_27 ?_
      refine lv_iload_n hx hb dX11_write_30 rfl (lv_at hl 1 rfl) ?_
      refine va_iald hx hb hK.1 hP 16 0 rfl rfl (inK rfl (by omega) (by decide)) dX11_write_31 ?_
      refine lv_topi (fun v8 ev8 => ?_)
      have zf9 : (-1 : Int) ≤ v8.toInt ∧ v8.toInt ≤ 60 := by rw [ev8]; exact (hI.2 31 _)
      have nv8 : v8.toInt = (A 31 a1.toNatClampNeg).toInt := congrArg Int32.toInt ev8
      refine lv_iconst (v := 1) hx hb dX11_write_32 (by decide) ?_
      refine lv_isub hx hb dX11_write_33 ?_
      refine lv_topi (fun v10 ev10 => ?_)
      have tv10 : v10.toInt = v8.toInt - 1 := by rw [ev10]; exact subT rfl (show (1 : Int32).toInt = 1 by decide) (by omega)
      refine lv_i2l hx hb dX11_write_34 rfl ?_
      refine lv_topl (fun v11 ev11 => ?_)
      have tv11 : v11.toInt = v10.toInt := by rw [ev11]; exact Int32.toInt_toInt64 _
      refine behR (runSP (As := [.long v7, .long 0, .long v11]) (rest := []) ⟨hx, hb, hml, hown, ht⟩ (sX11_in l G cs v7 0 v11 ) okS_RX11_79 ⟨by decide, by decide⟩ hK hP [] rfl hl.1 rfl (Nat.le_of_ble_eq_true rfl) dX11_write_35 ⟨by decide, by decide⟩) hP hS hA (fun r12 H locs hr12 hP hS => ?_)
      have kk13 : (0 : Int64).toInt = 0 := by decide
      have hr12 : (r12.toInt = 1 ∧ (0 : Int64).toInt ≤ v7.toInt ∧ v7.toInt ≤ v11.toInt) ∨ (r12.toInt = 0 ∧ (v7.toInt < (0 : Int64).toInt ∨ v11.toInt < v7.toInt)) := hr12
      refine lv_if_ne (tgt := 44) hx hb dX11_write_38 (by decide) (fun c14 => ?_) (fun c14 => ?_)
      · have zc14 := neK rfl (show (0 : Int32).toInt = 0 by decide) c14
        refine lv_aload_n hx hb dX11_write_44 rfl (lv_at hl 0 rfl) ?_
        refine getF (v := .ref (q 33)) hx hb ht hown hK hP iTX11 0 33 rfl rfl (by decide) fl_RX11_67 rfl dX11_write_45 ?_
        refine lv_bipush (v := 60) hx hb dX11_write_48 (by decide) ?_
        refine lv_iload_n hx hb dX11_write_50 rfl (lv_at hl 1 rfl) ?_
        refine lv_imul hx hb dX11_write_51 ?_
        refine lv_topi (fun v15 ev15 => ?_)
        have tv15 : v15.toInt = 60 * a1.toInt := by rw [ev15]; exact mulT (show (60 : Int32).toInt = 60 by decide) rfl (by omega)
        refine lv_iload_n hx hb dX11_write_52 rfl (lv_at hl 2 rfl) ?_
        refine lv_iadd hx hb dX11_write_53 ?_
        refine lv_topi (fun v16 ev16 => ?_)
        have tv16 : v16.toInt = v15.toInt + a2.toInt := by rw [ev16]; exact addT rfl rfl (by omega)
        refine lv_lload_n hx hb dX11_write_54 rfl (lv_at hl 3 rfl) ?_
        refine lv_aload_n hx hb dX11_write_55 rfl (lv_at hl 0 rfl) ?_
        refine getF (v := .ref (q 32)) hx hb ht hown hK hP iTX11 0 32 rfl rfl (by decide) fl_RX11_64 rfl dX11_write_56 ?_
        refine lv_iload_n hx hb dX11_write_59 rfl (lv_at hl 1 rfl) ?_
        refine va_iald hx hb hK.1 hP 17 0 rfl rfl (inK rfl (by omega) (by decide)) dX11_write_60 ?_
        refine lv_topi (fun v17 ev17 => ?_)
        have zf18 : (0 : Int) ≤ v17.toInt ∧ v17.toInt ≤ 3 := by rw [ev17]; exact (hI.2 32 _)
        have nv17 : v17.toInt = (A 32 a1.toNatClampNeg).toInt := congrArg Int32.toInt ev17
        refine behRL (runSP (As := [.long a3, .int v17]) (rest := [.int v16, .ref (q 33)]) ⟨hx, hb, hml, hown, ht⟩ (sX11_cut l G cs a3 v17 ) okS_RX11_458 ⟨by decide, by decide⟩ hK hP [] rfl hl.1 rfl (Nat.le_of_ble_eq_true rfl) dX11_write_61 ⟨by decide, by decide⟩) hP hS hA (fun r19 H locs hr19 hP hS => ?_)
        refine va_last hx hb hK.1 hP hD hS 18 2 rfl rfl (inK rfl (by omega) (by decide)) dX11_write_64 (fun H locs hP hD hS => ?_)
        obtain ⟨g20, hP, hD⟩ : ∃ g20 : Nat → Int64, va_P G vwCl (mS cs h q F A D (vA B 33 g20)) H ∧ va_D A0 (mS cs h q F A D (vA B 33 g20)) := ⟨vp_updL (B 33) v16.toNatClampNeg r19, hP, hD⟩
        refine lv_iconst (v := 0) hx hb dX11_write_65 (by decide) ?_
        exact retDi g20 hx hb hr hlk hP hD hS dX11_write_66 (show ((0 : Int32).toInt = -2 ∧ (a1.toInt < 0 ∨ 3 < a1.toInt)) ∨ ((0 ≤ a1.toInt ∧ a1.toInt ≤ 3) ∧ ((A 31) a1.toNatClampNeg).toInt = -1 ∧ (0 : Int32).toInt = -6) ∨ ((0 ≤ a1.toInt ∧ a1.toInt ≤ 3) ∧ ¬ ((A 31) a1.toNatClampNeg).toInt = -1 ∧ (a2.toInt < 0 ∨ ((A 31) a1.toNatClampNeg).toInt ≤ a2.toInt) ∧ (0 : Int32).toInt = -7) ∨ ((0 ≤ a1.toInt ∧ a1.toInt ≤ 3) ∧ ¬ ((A 31) a1.toNatClampNeg).toInt = -1 ∧ 0 ≤ a2.toInt ∧ a2.toInt < ((A 31) a1.toNatClampNeg).toInt ∧ (0 : Int32).toInt = 0) by have kk : (0 : Int32).toInt = 0 := (by decide); omega) (Nat.le_of_ble_eq_true rfl) (Nat.le_of_ble_eq_true rfl)
      · have zc14 := eqK rfl (show (0 : Int32).toInt = 0 by decide) c14
        refine lv_bipush (v := (-7)) hx hb dX11_write_41 (by decide) ?_
        exact retDi (B 33) hx hb hr hlk hP hD hS dX11_write_43 (show ((-7 : Int32).toInt = -2 ∧ (a1.toInt < 0 ∨ 3 < a1.toInt)) ∨ ((0 ≤ a1.toInt ∧ a1.toInt ≤ 3) ∧ ((A 31) a1.toNatClampNeg).toInt = -1 ∧ (-7 : Int32).toInt = -6) ∨ ((0 ≤ a1.toInt ∧ a1.toInt ≤ 3) ∧ ¬ ((A 31) a1.toNatClampNeg).toInt = -1 ∧ (a2.toInt < 0 ∨ ((A 31) a1.toNatClampNeg).toInt ≤ a2.toInt) ∧ (-7 : Int32).toInt = -7) ∨ ((0 ≤ a1.toInt ∧ a1.toInt ≤ 3) ∧ ¬ ((A 31) a1.toNatClampNeg).toInt = -1 ∧ 0 ≤ a2.toInt ∧ a2.toInt < ((A 31) a1.toNatClampNeg).toInt ∧ (-7 : Int32).toInt = 0) by have kk : (-7 : Int32).toInt = -7 := (by decide); omega) (Nat.le_of_ble_eq_true rfl) (Nat.le_of_ble_eq_true rfl)
    · have zc5 := eqK rfl (show (-1 : Int32).toInt = (-1) by decide) c5
      refine lv_bipush (v := (-6)) hx hb dX11_write_20 (by decide) ?_
      exact retDi (B 33) hx hb hr hlk hP hD hS dX11_write_22 (show ((-6 : Int32).toInt = -2 ∧ (a1.toInt < 0 ∨ 3 < a1.toInt)) ∨ ((0 ≤ a1.toInt ∧ a1.toInt ≤ 3) ∧ ((A 31) a1.toNatClampNeg).toInt = -1 ∧ (-6 : Int32).toInt = -6) ∨ ((0 ≤ a1.toInt ∧ a1.toInt ≤ 3) ∧ ¬ ((A 31) a1.toNatClampNeg).toInt = -1 ∧ (a2.toInt < 0 ∨ ((A 31) a1.toNatClampNeg).toInt ≤ a2.toInt) ∧ (-6 : Int32).toInt = -7) ∨ ((0 ≤ a1.toInt ∧ a1.toInt ≤ 3) ∧ ¬ ((A 31) a1.toNatClampNeg).toInt = -1 ∧ 0 ≤ a2.toInt ∧ a2.toInt < ((A 31) a1.toNatClampNeg).toInt ∧ (-6 : Int32).toInt = 0) by have kk : (-6 : Int32).toInt = -6 := (by decide); omega) (Nat.le_of_ble_eq_true rfl) (Nat.le_of_ble_eq_true rfl)
  · have zc2 := eqK rfl (show (0 : Int32).toInt = 0 by decide) c2
    refine lv_bipush (v := (-2)) hx hb dX11_write_7 (by decide) ?_
    exact retDi (B 33) hx hb hr hlk hP hD hS dX11_write_9 (show ((-2 : Int32).toInt = -2 ∧ (a1.toInt < 0 ∨ 3 < a1.toInt)) ∨ ((0 ≤ a1.toInt ∧ a1.toInt ≤ 3) ∧ ((A 31) a1.toNatClampNeg).toInt = -1 ∧ (-2 : Int32).toInt = -6) ∨ ((0 ≤ a1.toInt ∧ a1.toInt ≤ 3) ∧ ¬ ((A 31) a1.toNatClampNeg).toInt = -1 ∧ (a2.toInt < 0 ∨ ((A 31) a1.toNatClampNeg).toInt ≤ a2.toInt) ∧ (-2 : Int32).toInt = -7) ∨ ((0 ≤ a1.toInt ∧ a1.toInt ≤ 3) ∧ ¬ ((A 31) a1.toNatClampNeg).toInt = -1 ∧ 0 ≤ a2.toInt ∧ a2.toInt < ((A 31) a1.toNatClampNeg).toInt ∧ (-2 : Int32).toInt = 0) by have kk : (-2 : Int32).toInt = -2 := (by decide); omega) (Nat.le_of_ble_eq_true rfl) (Nat.le_of_ble_eq_true rfl)

set_option maxRecDepth 100000 in
set_option maxHeartbeats 8000000 in
theorem sX11_paste (l : Launch) (G : va_G) (cs : Nat → ClassId) (h : Nat) (q : Nat → Nat) (F : Nat → Int32) (A : Nat → Nat → Int32) (D : Int64) (B : Nat → Nat → Int64) (hI : IM F A) (a1 : Int32) (a2 : Int32) (a3 : Int32) (a4 : Int32) (a5 : Int32) : ImpI l yX11_paste cX11_paste 7 (some .int) 2 0 0 G (TY cs) [.ref h, .int a1, .int a2, .int a3, .int a4, .int a5] (mS cs h q F A D B) (fun (r : Int32) (u : (Nat → Int64) × (Nat → Int64)) => (r.toInt = -2 ∧ (a1.toInt < 0 ∨ 3 < a1.toInt ∨ a3.toInt < 0 ∨ 3 < a3.toInt)) ∨ ((0 ≤ a1.toInt ∧ a1.toInt ≤ 3) ∧ (0 ≤ a3.toInt ∧ a3.toInt ≤ 3) ∧ (((A 31) a1.toNatClampNeg).toInt = -1 ∨ ((A 31) a3.toNatClampNeg).toInt = -1) ∧ r.toInt = -6) ∨ ((0 ≤ a1.toInt ∧ a1.toInt ≤ 3) ∧ (0 ≤ a3.toInt ∧ a3.toInt ≤ 3) ∧ ¬ ((A 31) a1.toNatClampNeg).toInt = -1 ∧ ¬ ((A 31) a3.toNatClampNeg).toInt = -1 ∧ ¬ ((A 32) a1.toNatClampNeg).toInt = ((A 32) a3.toNatClampNeg).toInt ∧ r.toInt = -8) ∨ ((0 ≤ a1.toInt ∧ a1.toInt ≤ 3) ∧ (0 ≤ a3.toInt ∧ a3.toInt ≤ 3) ∧ ¬ ((A 31) a1.toNatClampNeg).toInt = -1 ∧ ¬ ((A 31) a3.toNatClampNeg).toInt = -1 ∧ ((A 32) a1.toNatClampNeg).toInt = ((A 32) a3.toNatClampNeg).toInt ∧ (a2.toInt < 0 ∨ a4.toInt < 0 ∨ a5.toInt < 0 ∨ ((A 31) a1.toNatClampNeg).toInt < a2.toInt + a5.toInt ∨ ((A 31) a3.toNatClampNeg).toInt < a4.toInt + a5.toInt) ∧ r.toInt = -7) ∨ ((0 ≤ a1.toInt ∧ a1.toInt ≤ 3) ∧ (0 ≤ a3.toInt ∧ a3.toInt ≤ 3) ∧ ¬ ((A 31) a1.toNatClampNeg).toInt = -1 ∧ ¬ ((A 31) a3.toNatClampNeg).toInt = -1 ∧ ((A 32) a1.toNatClampNeg).toInt = ((A 32) a3.toNatClampNeg).toInt ∧ ¬ (a2.toInt < 0 ∨ a4.toInt < 0 ∨ a5.toInt < 0 ∨ ((A 31) a1.toNatClampNeg).toInt < a2.toInt + a5.toInt ∨ ((A 31) a3.toNatClampNeg).toInt < a4.toInt + a5.toInt) ∧ r.toInt = 0)) (fun u : (Nat → Int64) × (Nat → Int64) => (mS cs h q F A D (vA (vA B 33 u.1) 34 u.2))) := by
  refine mkD (Qc := (QDi G (fun (r : Int32) (u : (Nat → Int64) × (Nat → Int64)) => (r.toInt = -2 ∧ (a1.toInt < 0 ∨ 3 < a1.toInt ∨ a3.toInt < 0 ∨ 3 < a3.toInt)) ∨ ((0 ≤ a1.toInt ∧ a1.toInt ≤ 3) ∧ (0 ≤ a3.toInt ∧ a3.toInt ≤ 3) ∧ (((A 31) a1.toNatClampNeg).toInt = -1 ∨ ((A 31) a3.toNatClampNeg).toInt = -1) ∧ r.toInt = -6) ∨ ((0 ≤ a1.toInt ∧ a1.toInt ≤ 3) ∧ (0 ≤ a3.toInt ∧ a3.toInt ≤ 3) ∧ ¬ ((A 31) a1.toNatClampNeg).toInt = -1 ∧ ¬ ((A 31) a3.toNatClampNeg).toInt = -1 ∧ ¬ ((A 32) a1.toNatClampNeg).toInt = ((A 32) a3.toNatClampNeg).toInt ∧ r.toInt = -8) ∨ ((0 ≤ a1.toInt ∧ a1.toInt ≤ 3) ∧ (0 ≤ a3.toInt ∧ a3.toInt ≤ 3) ∧ ¬ ((A 31) a1.toNatClampNeg).toInt = -1 ∧ ¬ ((A 31) a3.toNatClampNeg).toInt = -1 ∧ ((A 32) a1.toNatClampNeg).toInt = ((A 32) a3.toNatClampNeg).toInt ∧ (a2.toInt < 0 ∨ a4.toInt < 0 ∨ a5.toInt < 0 ∨ ((A 31) a1.toNatClampNeg).toInt < a2.toInt + a5.toInt ∨ ((A 31) a3.toNatClampNeg).toInt < a4.toInt + a5.toInt) ∧ r.toInt = -7) ∨ ((0 ≤ a1.toInt ∧ a1.toInt ≤ 3) ∧ (0 ≤ a3.toInt ∧ a3.toInt ≤ 3) ∧ ¬ ((A 31) a1.toNatClampNeg).toInt = -1 ∧ ¬ ((A 31) a3.toNatClampNeg).toInt = -1 ∧ ((A 32) a1.toNatClampNeg).toInt = ((A 32) a3.toNatClampNeg).toInt ∧ ¬ (a2.toInt < 0 ∨ a4.toInt < 0 ∨ a5.toInt < 0 ∨ ((A 31) a1.toNatClampNeg).toInt < a2.toInt + a5.toInt ∨ ((A 31) a3.toNatClampNeg).toInt < a4.toInt + a5.toInt) ∧ r.toInt = 0)) (fun u : (Nat → Int64) × (Nat → Int64) => (mS cs h q F A D (vA (vA B 33 u.1) 34 u.2))))) (by decide) (by simp [lg_sl, Value.category]) ?_
  intro p e s m args below meth c ls A0 hx hb hml hr hlk hown hmn ht hK hP hD hS hA hl
  have hl : lv_has ls 7 [(0, .ref h), (1, .int a1), (2, .int a2), (3, .int a3), (4, .int a4), (5, .int a5)] := hl
  refine lv_iload_n hx hb dX11_paste_0 rfl (lv_at hl 1 rfl) ?_
  refine behR (runSP (As := [.int a1]) (rest := []) ⟨hx, hb, hml, hown, ht⟩ (sX11_isSlot l G cs a1 ) okS_RX11_290 ⟨by decide, by decide⟩ hK hP [] rfl hl.1 rfl (Nat.le_of_ble_eq_true rfl) dX11_paste_1 ⟨by decide, by decide⟩) hP hS hA (fun r1 H locs hr1 hP hS => ?_)
  have hr1 : (r1.toInt = 1 ∧ 0 ≤ a1.toInt ∧ a1.toInt ≤ 3) ∨ (r1.toInt = 0 ∧ (a1.toInt < 0 ∨ 3 < a1.toInt)) := hr1
  refine lv_if_eq (tgt := 14) hx hb dX11_paste_4 (by decide) (fun c2 => ?_) (fun c2 => ?_)
  · have zc2 := eqK rfl (show (0 : Int32).toInt = 0 by decide) c2
    refine lv_bipush (v := (-2)) hx hb dX11_paste_14 (by decide) ?_
    exact retDi ((B 33), (B 34)) hx hb hr hlk hP hD hS dX11_paste_16 (Or.inl ⟨by decide, by omega⟩) (Nat.le_of_ble_eq_true rfl) (Nat.le_of_ble_eq_true rfl)
  · have zc2 := neK rfl (show (0 : Int32).toInt = 0 by decide) c2
    refine lv_iload_n hx hb dX11_paste_7 rfl (lv_at hl 3 rfl) ?_
    refine behR (runSP (As := [.int a3]) (rest := []) ⟨hx, hb, hml, hown, ht⟩ (sX11_isSlot l G cs a3 ) okS_RX11_290 ⟨by decide, by decide⟩ hK hP [] rfl hl.1 rfl (Nat.le_of_ble_eq_true rfl) dX11_paste_8 ⟨by decide, by decide⟩) hP hS hA (fun r3 H locs hr3 hP hS => ?_)
    have hr3 : (r3.toInt = 1 ∧ 0 ≤ a3.toInt ∧ a3.toInt ≤ 3) ∨ (r3.toInt = 0 ∧ (a3.toInt < 0 ∨ 3 < a3.toInt)) := hr3
    refine lv_if_ne (tgt := 17) hx hb dX11_paste_11 (by decide) (fun c4 => ?_) (fun c4 => ?_)
    · have zc4 := neK rfl (show (0 : Int32).toInt = 0 by decide) c4
      refine lv_aload_n hx hb dX11_paste_17 rfl (lv_at hl 0 rfl) ?_
      refine getF (v := .ref (q 31)) hx hb ht hown hK hP iTX11 0 31 rfl rfl (by decide) fl_RX11_61 rfl dX11_paste_18 ?_
      refine lv_iload_n hx hb dX11_paste_21 rfl (lv_at hl 1 rfl) ?_
      refine va_iald hx hb hK.1 hP 16 0 rfl rfl (inK rfl (by omega) (by decide)) dX11_paste_22 ?_
      refine lv_topi (fun v5 ev5 => ?_)
      have zf6 : (-1 : Int) ≤ v5.toInt ∧ v5.toInt ≤ 60 := by rw [ev5]; exact (hI.2 31 _)
      have nv5 : v5.toInt = (A 31 a1.toNatClampNeg).toInt := congrArg Int32.toInt ev5
      refine lv_iconst (v := (-1)) hx hb dX11_paste_23 (by decide) ?_
      refine lv_icmp_eq (tgt := 37) hx hb dX11_paste_24 (by decide) (fun c7 => ?_) (fun c7 => ?_)
      · have zc7 := eqK rfl (show (-1 : Int32).toInt = (-1) by decide) c7
        refine lv_bipush (v := (-6)) hx hb dX11_paste_37 (by decide) ?_
        exact retDi ((B 33), (B 34)) hx hb hr hlk hP hD hS dX11_paste_39 (Or.inr (Or.inl ⟨by omega, by omega, by omega, by decide⟩)) (Nat.le_of_ble_eq_true rfl) (Nat.le_of_ble_eq_true rfl)
      · have zc7 := neK rfl (show (-1 : Int32).toInt = (-1) by decide) c7
        refine lv_aload_n hx hb dX11_paste_27 rfl (lv_at hl 0 rfl) ?_
        refine getF (v := .ref (q 31)) hx hb ht hown hK hP iTX11 0 31 rfl rfl (by decide) fl_RX11_61 rfl dX11_paste_28 ?_
        refine lv_iload_n hx hb dX11_paste_31 rfl (lv_at hl 3 rfl) ?_
        refine va_iald hx hb hK.1 hP 16 0 rfl rfl (inK rfl (by omega) (by decide)) dX11_paste_32 ?_
        refine lv_topi (fun v8 ev8 => ?_)
        have zf9 : (-1 : Int) ≤ v8.toInt ∧ v8.toInt ≤ 60 := by rw [ev8]; exact (hI.2 31 _)
        have nv8 : v8.toInt = (A 31 a3.toNatClampNeg).toInt := congrArg Int32.toInt ev8
        refine lv_iconst (v := (-1)) hx hb dX11_paste_33 (by decide) ?_
        refine lv_icmp_ne (tgt := 40) hx hb dX11_paste_34 (by decide) (fun c10 => ?_) (fun c10 => ?_)
        · have zc10 := neK rfl (show (-1 : Int32).toInt = (-1) by decide) c10
          refine lv_aload_n hx hb dX11_paste_40 rfl (lv_at hl 0 rfl) ?_
          refine getF (v := .ref (q 32)) hx hb ht hown hK hP iTX11 0 32 rfl rfl (by decide) fl_RX11_64 rfl dX11_paste_41 ?_
          refine lv_iload_n hx hb dX11_paste_44 rfl (lv_at hl 1 rfl) ?_
          refine va_iald hx hb hK.1 hP 17 0 rfl rfl (inK rfl (by omega) (by decide)) dX11_paste_45 ?_
          refine lv_topi (fun v11 ev11 => ?_)
          have zf12 : (0 : Int) ≤ v11.toInt ∧ v11.toInt ≤ 3 := by rw [ev11]; exact (hI.2 32 _)
          have nv11 : v11.toInt = (A 32 a1.toNatClampNeg).toInt := congrArg Int32.toInt ev11
          refine lv_aload_n hx hb dX11_paste_46 rfl (lv_at hl 0 rfl) ?_
          refine getF (v := .ref (q 32)) hx hb ht hown hK hP iTX11 0 32 rfl rfl (by decide) fl_RX11_64 rfl dX11_paste_47 ?_
          refine lv_iload_n hx hb dX11_paste_50 rfl (lv_at hl 3 rfl) ?_
          refine va_iald hx hb hK.1 hP 17 0 rfl rfl (inK rfl (by omega) (by decide)) dX11_paste_51 ?_
          refine lv_topi (fun v13 ev13 => ?_)
          have zf14 : (0 : Int) ≤ v13.toInt ∧ v13.toInt ≤ 3 := by rw [ev13]; exact (hI.2 32 _)
          have nv13 : v13.toInt = (A 32 a3.toNatClampNeg).toInt := congrArg Int32.toInt ev13
          refine lv_icmp_eq (tgt := 58) hx hb dX11_paste_52 (by decide) (fun c15 => ?_) (fun c15 => ?_)
          · have zc15 := eqK rfl rfl c15
            refine lv_iload_n hx hb dX11_paste_58 rfl (lv_at hl 2 rfl) ?_
            refine lv_if_lt (tgt := 107) hx hb dX11_paste_59 (by decide) (fun c16 => ?_) (fun c16 => ?_)
            · have zc16 := ltK rfl (show (0 : Int32).toInt = 0 by decide) c16
              refine lv_bipush (v := (-7)) hx hb dX11_paste_107 (by decide) ?_
              exact retDi ((B 33), (B 34)) hx hb hr hlk hP hD hS dX11_paste_109 (Or.inr (Or.inr (Or.inr (Or.inl ⟨by omega, by omega, by omega, by omega, by omega, by omega, by decide⟩)))) (Nat.le_of_ble_eq_true rfl) (Nat.le_of_ble_eq_true rfl)
            · have zc16 := nltK rfl (show (0 : Int32).toInt = 0 by decide) c16
              refine lv_iload hx hb dX11_paste_62 (lv_at hl 4 rfl) ?_
              refine lv_if_lt (tgt := 107) hx hb dX11_paste_64 (by decide) (fun c17 => ?_) (fun c17 => ?_)
              · have zc17 := ltK rfl (show (0 : Int32).toInt = 0 by decide) c17
                refine lv_bipush (v := (-7)) hx hb dX11_paste_107 (by decide) ?_
                exact retDi ((B 33), (B 34)) hx hb hr hlk hP hD hS dX11_paste_109 (Or.inr (Or.inr (Or.inr (Or.inl ⟨by omega, by omega, by omega, by omega, by omega, by omega, by decide⟩)))) (Nat.le_of_ble_eq_true rfl) (Nat.le_of_ble_eq_true rfl)
              · have zc17 := nltK rfl (show (0 : Int32).toInt = 0 by decide) c17
                refine lv_iload hx hb dX11_paste_67 (lv_at hl 5 rfl) ?_
                refine lv_if_lt (tgt := 107) hx hb dX11_paste_69 (by decide) (fun c18 => ?_) (fun c18 => ?_)
                · have zc18 := ltK rfl (show (0 : Int32).toInt = 0 by decide) c18
                  refine lv_bipush (v := (-7)) hx hb dX11_paste_107 (by decide) ?_
                  exact retDi ((B 33), (B 34)) hx hb hr hlk hP hD hS dX11_paste_109 (Or.inr (Or.inr (Or.inr (Or.inl ⟨by omega, by omega, by omega, by omega, by omega, by omega, by decide⟩)))) (Nat.le_of_ble_eq_true rfl) (Nat.le_of_ble_eq_true rfl)
                · have zc18 := nltK rfl (show (0 : Int32).toInt = 0 by decide) c18
                  refine lv_iload_n hx hb dX11_paste_72 rfl (lv_at hl 2 rfl) ?_
                  refine lv_i2l hx hb dX11_paste_73 rfl ?_
                  have bb19 := i32b a2
                  refine lv_topl (fun v20 ev20 => ?_)
                  have tv20 : v20.toInt = a2.toInt := by rw [ev20]; exact Int32.toInt_toInt64 _
                  refine lv_iload hx hb dX11_paste_74 (lv_at hl 5 rfl) ?_
                  refine lv_i2l hx hb dX11_paste_76 rfl ?_
                  have bb21 := i32b a5
                  refine lv_topl (fun v22 ev22 => ?_)
                  have tv22 : v22.toInt = a5.toInt := by rw [ev22]; exact Int32.toInt_toInt64 _
                  refine lv_ladd hx hb dX11_paste_77 ?_
                  refine lv_topl (fun v23 ev23 => ?_)
                  have tv23 : v23.toInt = v20.toInt + v22.toInt := by rw [ev23]; exact addL rfl rfl (by omega)
                  refine lv_aload_n hx hb dX11_paste_78 rfl (lv_at hl 0 rfl) ?_
                  refine getF (v := .ref (q 31)) hx hb ht hown hK hP iTX11 0 31 rfl rfl (by decide) fl_RX11_61 rfl dX11_paste_79 ?_
                  refine lv_iload_n hx hb dX11_paste_82 rfl (lv_at hl 1 rfl) ?_
                  refine va_iald hx hb hK.1 hP 16 0 rfl rfl (inK rfl (by omega) (by decide)) dX11_paste_83 ?_
                  refine lv_topi (fun v24 ev24 => ?_)
                  have zf25 : (-1 : Int) ≤ v24.toInt ∧ v24.toInt ≤ 60 := by rw [ev24]; exact (hI.2 31 _)
                  have nv24 : v24.toInt = (A 31 a1.toNatClampNeg).toInt := congrArg Int32.toInt ev24
                  refine lv_i2l hx hb dX11_paste_84 rfl ?_
                  refine lv_topl (fun v26 ev26 => ?_)
                  have tv26 : v26.toInt = v24.toInt := by rw [ev26]; exact Int32.toInt_toInt64 _
                  refine W.lcmp hx hb dX11_paste_85 ?_
                  refine lv_topi (fun v27 ev27 => ?_)
                  refine lv_if_gt (tgt := 107) hx hb dX11_paste_86 (by decide) (fun c28 => ?_) (fun c28 => ?_)
                  · have zc28 := ltK (show (0 : Int32).toInt = 0 by decide) rfl c28
                    have yc28 := cmpGT rfl rfl ev27 (by omega)
                    refine lv_bipush (v := (-7)) hx hb dX11_paste_107 (by decide) ?_
                    exact retDi ((B 33), (B 34)) hx hb hr hlk hP hD hS dX11_paste_109 (Or.inr (Or.inr (Or.inr (Or.inl ⟨by omega, by omega, by omega, by omega, by omega, by omega, by decide⟩)))) (Nat.le_of_ble_eq_true rfl) (Nat.le_of_ble_eq_true rfl)
                  · have zc28 := nltK (show (0 : Int32).toInt = 0 by decide) rfl c28
                    have yc28 := cmpGTn rfl rfl ev27 (by omega)
                    refine lv_iload hx hb dX11_paste_89 (lv_at hl 4 rfl) ?_
                    refine lv_i2l hx hb dX11_paste_91 rfl ?_
                    have bb29 := i32b a4
                    refine lv_topl (fun v30 ev30 => ?_)
                    have tv30 : v30.toInt = a4.toInt := by rw [ev30]; exact Int32.toInt_toInt64 _
                    refine lv_iload hx hb dX11_paste_92 (lv_at hl 5 rfl) ?_
                    refine lv_i2l hx hb dX11_paste_94 rfl ?_
                    refine lv_topl (fun v31 ev31 => ?_)
                    have tv31 : v31.toInt = a5.toInt := by rw [ev31]; exact Int32.toInt_toInt64 _
                    refine lv_ladd hx hb dX11_paste_95 ?_
                    refine lv_topl (fun v32 ev32 => ?_)
                    have tv32 : v32.toInt = v30.toInt + v31.toInt := by rw [ev32]; exact addL rfl rfl (by omega)
                    refine lv_aload_n hx hb dX11_paste_96 rfl (lv_at hl 0 rfl) ?_
                    refine getF (v := .ref (q 31)) hx hb ht hown hK hP iTX11 0 31 rfl rfl (by decide) fl_RX11_61 rfl dX11_paste_97 ?_
                    refine lv_iload_n hx hb dX11_paste_100 rfl (lv_at hl 3 rfl) ?_
                    refine va_iald hx hb hK.1 hP 16 0 rfl rfl (inK rfl (by omega) (by decide)) dX11_paste_101 ?_
                    refine lv_topi (fun v33 ev33 => ?_)
                    have zf34 : (-1 : Int) ≤ v33.toInt ∧ v33.toInt ≤ 60 := by rw [ev33]; exact (hI.2 31 _)
                    have nv33 : v33.toInt = (A 31 a3.toNatClampNeg).toInt := congrArg Int32.toInt ev33
                    refine lv_i2l hx hb dX11_paste_102 rfl ?_
                    refine lv_topl (fun v35 ev35 => ?_)
                    have tv35 : v35.toInt = v33.toInt := by rw [ev35]; exact Int32.toInt_toInt64 _
                    refine W.lcmp hx hb dX11_paste_103 ?_
                    refine lv_topi (fun v36 ev36 => ?_)
                    refine lv_if_le (tgt := 110) hx hb dX11_paste_104 (by decide) (fun c37 => ?_) (fun c37 => ?_)
                    · have zc37 := leK rfl (show (0 : Int32).toInt = 0 by decide) c37
                      have yc37 := cmpGTn rfl rfl ev36 (by omega)
                      refine lv_iconst (v := 0) hx hb dX11_paste_110 (by decide) ?_
                      refine lv_istore (lv' := [(6, .int 0), (0, .ref h), (1, .int a1), (2, .int a2), (3, .int a3), (4, .int a4), (5, .int a5)]) hx hb dX11_paste_111 hl (by decide) rfl (fun ls hl => ?_)
                      have B113 : ∀ (n : Nat) (x113_6 : Int32) (b34_113 : (Nat → Int64)) (H : Heap) (locs : List Loc) (ls : Array Slot), (60 - x113_6.toInt).toNat < n → (0 : Int) ≤ x113_6.toInt ∧ x113_6.toInt ≤ 60 → va_P G vwCl (mS cs h q F A D (vA B 34 b34_113)) H → va_D A0 (mS cs h q F A D (vA B 34 b34_113)) → va_S A0 s.heap H locs → lv_has ls 7 [(0, .ref h), (1, .int a1), (2, .int a2), (3, .int a3), (4, .int a4), (5, .int a5), (6, .int x113_6)] → W p l e (rmk 2 0 0) s m args below meth c H locs 0 0 (MQ below ((QDi G (fun (r : Int32) (u : (Nat → Int64) × (Nat → Int64)) => (r.toInt = -2 ∧ (a1.toInt < 0 ∨ 3 < a1.toInt ∨ a3.toInt < 0 ∨ 3 < a3.toInt)) ∨ ((0 ≤ a1.toInt ∧ a1.toInt ≤ 3) ∧ (0 ≤ a3.toInt ∧ a3.toInt ≤ 3) ∧ (((A 31) a1.toNatClampNeg).toInt = -1 ∨ ((A 31) a3.toNatClampNeg).toInt = -1) ∧ r.toInt = -6) ∨ ((0 ≤ a1.toInt ∧ a1.toInt ≤ 3) ∧ (0 ≤ a3.toInt ∧ a3.toInt ≤ 3) ∧ ¬ ((A 31) a1.toNatClampNeg).toInt = -1 ∧ ¬ ((A 31) a3.toNatClampNeg).toInt = -1 ∧ ¬ ((A 32) a1.toNatClampNeg).toInt = ((A 32) a3.toNatClampNeg).toInt ∧ r.toInt = -8) ∨ ((0 ≤ a1.toInt ∧ a1.toInt ≤ 3) ∧ (0 ≤ a3.toInt ∧ a3.toInt ≤ 3) ∧ ¬ ((A 31) a1.toNatClampNeg).toInt = -1 ∧ ¬ ((A 31) a3.toNatClampNeg).toInt = -1 ∧ ((A 32) a1.toNatClampNeg).toInt = ((A 32) a3.toNatClampNeg).toInt ∧ (a2.toInt < 0 ∨ a4.toInt < 0 ∨ a5.toInt < 0 ∨ ((A 31) a1.toNatClampNeg).toInt < a2.toInt + a5.toInt ∨ ((A 31) a3.toNatClampNeg).toInt < a4.toInt + a5.toInt) ∧ r.toInt = -7) ∨ ((0 ≤ a1.toInt ∧ a1.toInt ≤ 3) ∧ (0 ≤ a3.toInt ∧ a3.toInt ≤ 3) ∧ ¬ ((A 31) a1.toNatClampNeg).toInt = -1 ∧ ¬ ((A 31) a3.toNatClampNeg).toInt = -1 ∧ ((A 32) a1.toNatClampNeg).toInt = ((A 32) a3.toNatClampNeg).toInt ∧ ¬ (a2.toInt < 0 ∨ a4.toInt < 0 ∨ a5.toInt < 0 ∨ ((A 31) a1.toNatClampNeg).toInt < a2.toInt + a5.toInt ∨ ((A 31) a3.toNatClampNeg).toInt < a4.toInt + a5.toInt) ∧ r.toInt = 0)) (fun u : (Nat → Int64) × (Nat → Int64) => (mS cs h q F A D (vA (vA B 33 u.1) 34 u.2)))) A0) args s 0 0 A0) (F0 m 113 ls []) := by
                        intro n
                        induction n with
                        | zero => intro x113_6 b34_113 H locs ls hmeas hx113_6 hP hD hS hl; exact absurd hmeas (Nat.not_lt_zero _)
                        | succ n ih113 =>
                          intro x113_6 b34_113 H locs ls hmeas hx113_6 hP hD hS hl
                          refine lv_iload hx hb dX11_paste_113 (lv_at hl 6 rfl) ?_
                          refine lv_iload hx hb dX11_paste_115 (lv_at hl 5 rfl) ?_
                          refine lv_icmp_ge (tgt := 147) hx hb dX11_paste_117 (by decide) (fun c62001 => ?_) (fun c62001 => ?_)
                          · have zc62001 := leK rfl rfl c62001
                            refine lv_iconst (v := 0) hx hb dX11_paste_147 (by decide) ?_
                            refine lv_istore (lv' := [(6, .int 0), (0, .ref h), (1, .int a1), (2, .int a2), (3, .int a3), (4, .int a4), (5, .int a5)]) hx hb dX11_paste_148 hl (by decide) rfl (fun ls hl => ?_)
                            have B150 : ∀ (n : Nat) (x150_6 : Int32) (b33_150 : (Nat → Int64)) (H : Heap) (locs : List Loc) (ls : Array Slot), (60 - x150_6.toInt).toNat < n → (0 : Int) ≤ x150_6.toInt ∧ x150_6.toInt ≤ 60 → va_P G vwCl (mS cs h q F A D (vA (vA B 33 b33_150) 34 b34_113)) H → va_D A0 (mS cs h q F A D (vA (vA B 33 b33_150) 34 b34_113)) → va_S A0 s.heap H locs → lv_has ls 7 [(0, .ref h), (3, .int a3), (4, .int a4), (5, .int a5), (6, .int x150_6)] → W p l e (rmk 2 0 0) s m args below meth c H locs 0 0 (MQ below ((QDi G (fun (r : Int32) (u : (Nat → Int64) × (Nat → Int64)) => (r.toInt = -2 ∧ (a1.toInt < 0 ∨ 3 < a1.toInt ∨ a3.toInt < 0 ∨ 3 < a3.toInt)) ∨ ((0 ≤ a1.toInt ∧ a1.toInt ≤ 3) ∧ (0 ≤ a3.toInt ∧ a3.toInt ≤ 3) ∧ (((A 31) a1.toNatClampNeg).toInt = -1 ∨ ((A 31) a3.toNatClampNeg).toInt = -1) ∧ r.toInt = -6) ∨ ((0 ≤ a1.toInt ∧ a1.toInt ≤ 3) ∧ (0 ≤ a3.toInt ∧ a3.toInt ≤ 3) ∧ ¬ ((A 31) a1.toNatClampNeg).toInt = -1 ∧ ¬ ((A 31) a3.toNatClampNeg).toInt = -1 ∧ ¬ ((A 32) a1.toNatClampNeg).toInt = ((A 32) a3.toNatClampNeg).toInt ∧ r.toInt = -8) ∨ ((0 ≤ a1.toInt ∧ a1.toInt ≤ 3) ∧ (0 ≤ a3.toInt ∧ a3.toInt ≤ 3) ∧ ¬ ((A 31) a1.toNatClampNeg).toInt = -1 ∧ ¬ ((A 31) a3.toNatClampNeg).toInt = -1 ∧ ((A 32) a1.toNatClampNeg).toInt = ((A 32) a3.toNatClampNeg).toInt ∧ (a2.toInt < 0 ∨ a4.toInt < 0 ∨ a5.toInt < 0 ∨ ((A 31) a1.toNatClampNeg).toInt < a2.toInt + a5.toInt ∨ ((A 31) a3.toNatClampNeg).toInt < a4.toInt + a5.toInt) ∧ r.toInt = -7) ∨ ((0 ≤ a1.toInt ∧ a1.toInt ≤ 3) ∧ (0 ≤ a3.toInt ∧ a3.toInt ≤ 3) ∧ ¬ ((A 31) a1.toNatClampNeg).toInt = -1 ∧ ¬ ((A 31) a3.toNatClampNeg).toInt = -1 ∧ ((A 32) a1.toNatClampNeg).toInt = ((A 32) a3.toNatClampNeg).toInt ∧ ¬ (a2.toInt < 0 ∨ a4.toInt < 0 ∨ a5.toInt < 0 ∨ ((A 31) a1.toNatClampNeg).toInt < a2.toInt + a5.toInt ∨ ((A 31) a3.toNatClampNeg).toInt < a4.toInt + a5.toInt) ∧ r.toInt = 0)) (fun u : (Nat → Int64) × (Nat → Int64) => (mS cs h q F A D (vA (vA B 33 u.1) 34 u.2)))) A0) args s 0 0 A0) (F0 m 150 ls []) := by
                              intro n
                              induction n with
                              | zero => intro x150_6 b33_150 H locs ls hmeas hx150_6 hP hD hS hl; exact absurd hmeas (Nat.not_lt_zero _)
                              | succ n ih150 =>
                                intro x150_6 b33_150 H locs ls hmeas hx150_6 hP hD hS hl
                                refine lv_iload hx hb dX11_paste_150 (lv_at hl 4 rfl) ?_
                                refine lv_iload hx hb dX11_paste_152 (lv_at hl 3 rfl) ?_
                                refine lv_icmp_ge (tgt := 185) hx hb dX11_paste_154 (by decide) (fun c83001 => ?_) (fun c83001 => ?_)
                                · have zc83001 := leK rfl rfl c83001
                                  refine lv_iconst (v := 0) hx hb dX11_paste_185 (by decide) ?_
                                  exact retDi (b33_150, b34_113) hx hb hr hlk hP hD hS dX11_paste_186 (Or.inr (Or.inr (Or.inr (Or.inr ⟨by omega, by omega, by omega, by omega, by omega, by omega, by decide⟩)))) (Nat.le_of_ble_eq_true rfl) (Nat.le_of_ble_eq_true rfl)
                                · have zc83001 := nleK rfl rfl c83001
                                  refine lv_aload_n hx hb dX11_paste_157 rfl (lv_at hl 0 rfl) ?_
                                  refine getF (v := .ref (q 33)) hx hb ht hown hK hP iTX11 0 33 rfl rfl (by decide) fl_RX11_67 rfl dX11_paste_158 ?_
                                  refine lv_bipush (v := 60) hx hb dX11_paste_161 (by decide) ?_
                                  refine lv_iload_n hx hb dX11_paste_163 rfl (lv_at hl 1 rfl) ?_
                                  refine lv_imul hx hb dX11_paste_164 ?_
                                  refine lv_topi (fun v83002 ev83002 => ?_)
                                  have tv83002 : v83002.toInt = 60 * a3.toInt := by rw [ev83002]; exact mulT (show (60 : Int32).toInt = 60 by decide) rfl (by omega)
                                  refine lv_iload hx hb dX11_paste_165 (lv_at hl 2 rfl) ?_
                                  refine lv_iadd hx hb dX11_paste_167 ?_
                                  refine lv_topi (fun v83003 ev83003 => ?_)
                                  have tv83003 : v83003.toInt = v83002.toInt + a4.toInt := by rw [ev83003]; exact addT rfl rfl (by omega)
                                  refine lv_iload hx hb dX11_paste_168 (lv_at hl 4 rfl) ?_
                                  refine lv_iadd hx hb dX11_paste_170 ?_
                                  refine lv_topi (fun v83004 ev83004 => ?_)
                                  have tv83004 : v83004.toInt = v83003.toInt + x150_6.toInt := by rw [ev83004]; exact addT rfl rfl (by omega)
                                  refine lv_aload_n hx hb dX11_paste_171 rfl (lv_at hl 0 rfl) ?_
                                  refine getF (v := .ref (q 34)) hx hb ht hown hK hP iTX11 0 34 rfl rfl (by decide) fl_RX11_71 rfl dX11_paste_172 ?_
                                  refine lv_iload hx hb dX11_paste_175 (lv_at hl 4 rfl) ?_
                                  refine va_lald hx hb hK.1 hP 19 2 rfl rfl (inK rfl (by omega) (by decide)) dX11_paste_177 ?_
                                  refine lv_topl (fun v83005 ev83005 => ?_)
                                  refine va_last hx hb hK.1 hP hD hS 18 2 rfl rfl (inK rfl (by omega) (by decide)) dX11_paste_178 (fun H locs hP hD hS => ?_)
                                  obtain ⟨g83006, hP, hD⟩ : ∃ g83006 : Nat → Int64, va_P G vwCl (mS cs h q F A D (vA (vA B 33 g83006) 34 b34_113)) H ∧ va_D A0 (mS cs h q F A D (vA (vA B 33 g83006) 34 b34_113)) := ⟨vp_updL b33_150 v83004.toNatClampNeg v83005, hP, hD⟩
                                  obtain ⟨v83007, ev83007⟩ : ∃ z : Int32, z = x150_6 + 1 := ⟨_, rfl⟩
                                  have tv83007 : v83007.toInt = x150_6.toInt + 1 := by rw [ev83007]; exact addT rfl (by decide) (by omega)
                                  refine lv_iinc (v := v83007) (lv' := [(6, .int v83007), (0, .ref h), (3, .int a3), (4, .int a4), (5, .int a5)]) hx hb dX11_paste_179 hl (k := 4) rfl (by rw [ev83007]; rfl) (by decide) rfl (fun ls hl => ?_)
                                  refine lv_goto (tgt := 150) hx hb dX11_paste_182 (by decide) ?_
                                  exact ih150 v83007 g83006 H locs ls (by omega) (by omega) hP hD hS (lv_sub hl [1, 2, 3, 4, 0] rfl)
                            exact B150 _ 0 (B 33) H locs ls (Nat.lt_succ_self _) (by decide) hP hD hS (lv_sub hl [1, 4, 5, 6, 0] rfl)
                          · have zc62001 := nleK rfl rfl c62001
                            refine lv_aload_n hx hb dX11_paste_120 rfl (lv_at hl 0 rfl) ?_
                            refine getF (v := .ref (q 34)) hx hb ht hown hK hP iTX11 0 34 rfl rfl (by decide) fl_RX11_71 rfl dX11_paste_121 ?_
                            refine lv_iload hx hb dX11_paste_124 (lv_at hl 6 rfl) ?_
                            refine lv_aload_n hx hb dX11_paste_126 rfl (lv_at hl 0 rfl) ?_
                            refine getF (v := .ref (q 33)) hx hb ht hown hK hP iTX11 0 33 rfl rfl (by decide) fl_RX11_67 rfl dX11_paste_127 ?_
                            refine lv_bipush (v := 60) hx hb dX11_paste_130 (by decide) ?_
                            refine lv_iload_n hx hb dX11_paste_132 rfl (lv_at hl 1 rfl) ?_
                            refine lv_imul hx hb dX11_paste_133 ?_
                            refine lv_topi (fun v62002 ev62002 => ?_)
                            have tv62002 : v62002.toInt = 60 * a1.toInt := by rw [ev62002]; exact mulT (show (60 : Int32).toInt = 60 by decide) rfl (by omega)
                            refine lv_iload_n hx hb dX11_paste_134 rfl (lv_at hl 2 rfl) ?_
                            refine lv_iadd hx hb dX11_paste_135 ?_
                            refine lv_topi (fun v62003 ev62003 => ?_)
                            have tv62003 : v62003.toInt = v62002.toInt + a2.toInt := by rw [ev62003]; exact addT rfl rfl (by omega)
                            refine lv_iload hx hb dX11_paste_136 (lv_at hl 6 rfl) ?_
                            refine lv_iadd hx hb dX11_paste_138 ?_
                            refine lv_topi (fun v62004 ev62004 => ?_)
                            have tv62004 : v62004.toInt = v62003.toInt + x113_6.toInt := by rw [ev62004]; exact addT rfl rfl (by omega)
                            refine va_lald hx hb hK.1 hP 18 2 rfl rfl (inK rfl (by omega) (by decide)) dX11_paste_139 ?_
                            refine lv_topl (fun v62005 ev62005 => ?_)
                            refine va_last hx hb hK.1 hP hD hS 19 2 rfl rfl (inK rfl (by omega) (by decide)) dX11_paste_140 (fun H locs hP hD hS => ?_)
                            obtain ⟨g62006, hP, hD⟩ : ∃ g62006 : Nat → Int64, va_P G vwCl (mS cs h q F A D (vA B 34 g62006)) H ∧ va_D A0 (mS cs h q F A D (vA B 34 g62006)) := ⟨vp_updL b34_113 x113_6.toNatClampNeg v62005, hP, hD⟩
                            obtain ⟨v62007, ev62007⟩ : ∃ z : Int32, z = x113_6 + 1 := ⟨_, rfl⟩
                            have tv62007 : v62007.toInt = x113_6.toInt + 1 := by rw [ev62007]; exact addT rfl (by decide) (by omega)
                            refine lv_iinc (v := v62007) (lv' := [(6, .int v62007), (0, .ref h), (1, .int a1), (2, .int a2), (3, .int a3), (4, .int a4), (5, .int a5)]) hx hb dX11_paste_141 hl (k := 6) rfl (by rw [ev62007]; rfl) (by decide) rfl (fun ls hl => ?_)
                            refine lv_goto (tgt := 113) hx hb dX11_paste_144 (by decide) ?_
                            exact ih113 v62007 g62006 H locs ls (by omega) (by omega) hP hD hS (lv_sub hl [1, 2, 3, 4, 5, 6, 0] rfl)
                      exact B113 _ 0 (B 34) H locs ls (Nat.lt_succ_self _) (by decide) hP hD hS (lv_sub hl [1, 2, 3, 4, 5, 6, 0] rfl)
                    · have zc37 := nleK rfl (show (0 : Int32).toInt = 0 by decide) c37
                      have yc37 := cmpGT rfl rfl ev36 (by omega)
                      refine lv_bipush (v := (-7)) hx hb dX11_paste_107 (by decide) ?_
                      exact retDi ((B 33), (B 34)) hx hb hr hlk hP hD hS dX11_paste_109 (Or.inr (Or.inr (Or.inr (Or.inl ⟨by omega, by omega, by omega, by omega, by omega, by omega, by decide⟩)))) (Nat.le_of_ble_eq_true rfl) (Nat.le_of_ble_eq_true rfl)
          · have zc15 := neK rfl rfl c15
            refine lv_bipush (v := (-8)) hx hb dX11_paste_55 (by decide) ?_
            exact retDi ((B 33), (B 34)) hx hb hr hlk hP hD hS dX11_paste_57 (Or.inr (Or.inr (Or.inl ⟨by omega, by omega, by omega, by omega, by omega, by decide⟩))) (Nat.le_of_ble_eq_true rfl) (Nat.le_of_ble_eq_true rfl)
        · have zc10 := eqK rfl (show (-1 : Int32).toInt = (-1) by decide) c10
          refine lv_bipush (v := (-6)) hx hb dX11_paste_37 (by decide) ?_
          exact retDi ((B 33), (B 34)) hx hb hr hlk hP hD hS dX11_paste_39 (Or.inr (Or.inl ⟨by omega, by omega, by omega, by decide⟩)) (Nat.le_of_ble_eq_true rfl) (Nat.le_of_ble_eq_true rfl)
    · have zc4 := eqK rfl (show (0 : Int32).toInt = 0 by decide) c4
      refine lv_bipush (v := (-2)) hx hb dX11_paste_14 (by decide) ?_
      exact retDi ((B 33), (B 34)) hx hb hr hlk hP hD hS dX11_paste_16 (Or.inl ⟨by decide, by omega⟩) (Nat.le_of_ble_eq_true rfl) (Nat.le_of_ble_eq_true rfl)

set_option maxRecDepth 100000 in
set_option maxHeartbeats 8000000 in
theorem sX11_asksRound (l : Launch) (G : va_G) (cs : Nat → ClassId) (h : Nat) (q : Nat → Nat) (F : Nat → Int32) (A : Nat → Nat → Int32) (D : Int64) (B : Nat → Nat → Int64) (hI : IM F A) (a1 : Int32) (a2 : Int32) (ha2 : (0 : Int) ≤ a2.toInt ∧ a2.toInt ≤ 1) : SafeR l yX11_asksRound cX11_asksRound 4 (some .int) 3 G (TY cs) [.ref h, .int a1, .int a2] (mS cs h q F A D B) (fun r : Int32 => (r.toInt = -2 ∨ r.toInt = -6 ∨ (r.toInt = 0 ∧ 0 ≤ a1.toInt ∧ a1.toInt ≤ 3 ∧ 0 ≤ (A 31 a1.toNatClampNeg).toInt ∧ a2.toInt = 1)) ∧ (r.toInt = 0 → RV B a1 (A 31 a1.toNatClampNeg).toInt)) := by
  refine mkP (Qc := QRi (fun r : Int32 => (r.toInt = -2 ∨ r.toInt = -6 ∨ (r.toInt = 0 ∧ 0 ≤ a1.toInt ∧ a1.toInt ≤ 3 ∧ 0 ≤ (A 31 a1.toNatClampNeg).toInt ∧ a2.toInt = 1)) ∧ (r.toInt = 0 → RV B a1 (A 31 a1.toNatClampNeg).toInt))) (by decide) (by simp [lg_sl, Value.category]) ?_
  intro p e s m args below meth c ls hx hb hml hr hlk hown ht hK hP hS hl
  have hl : lv_has ls 4 [(0, .ref h), (1, .int a1), (2, .int a2)] := hl
  refine lv_iload_n hx hb dX11_asksRound_0 rfl (lv_at hl 1 rfl) ?_
  refine behR (runSP (As := [.int a1]) (rest := []) ⟨hx, hb, hml, hown, ht⟩ (sX11_isSlot l G cs a1 ) okS_RX11_290 ⟨by decide, by decide⟩ hK hP [] rfl hl.1 rfl (Nat.le_of_ble_eq_true rfl) dX11_asksRound_1 ⟨by decide, by decide⟩) hP hS (fun _ h => h) (fun r1 H locs hr1 hP hS => ?_)
  have hr1 : (r1.toInt = 1 ∧ 0 ≤ a1.toInt ∧ a1.toInt ≤ 3) ∨ (r1.toInt = 0 ∧ (a1.toInt < 0 ∨ 3 < a1.toInt)) := hr1
  refine lv_if_eq (tgt := 18) hx hb dX11_asksRound_4 (by decide) (fun c2 => ?_) (fun c2 => ?_)
  · have zc2 := eqK rfl (show (0 : Int32).toInt = 0 by decide) c2
    refine lv_bipush (v := (-2)) hx hb dX11_asksRound_18 (by decide) ?_
    exact retRi hx hb hr hlk hS dX11_asksRound_20 (⟨by have kk : (-2 : Int32).toInt = -2 := (by decide); omega, fun q9 => absurd q9 (by have kk : (-2 : Int32).toInt = -2 := (by decide); omega)⟩)
  · have zc2 := neK rfl (show (0 : Int32).toInt = 0 by decide) c2
    refine lv_aload_n hx hb dX11_asksRound_7 rfl (lv_at hl 0 rfl) ?_
    refine behR (runVP (As := []) (rest := []) ⟨hx, hb, hml, hown, ht⟩ (sX11_isHouse l G cs h q F A D B hI  ) okV_RX11_83 ⟨by decide, by decide⟩ hK hP [0, 1, 2, 3, 4, 5, 6, 7, 8, 9, 10, 11, 12, 13, 14, 15, 16, 17, 18, 19] rfl 0 rfl rfl hl.1 rfl (Nat.le_of_ble_eq_true rfl) dX11_asksRound_8 ⟨by decide, by decide⟩) hP hS (fun _ h => h) (fun r3 H locs hr3 hP hS => ?_)
    have hr3 : (0 : Int) ≤ r3.toInt ∧ r3.toInt ≤ 1 := hr3
    refine lv_if_eq (tgt := 18) hx hb dX11_asksRound_11 (by decide) (fun c4 => ?_) (fun c4 => ?_)
    · have zc4 := eqK rfl (show (0 : Int32).toInt = 0 by decide) c4
      refine lv_bipush (v := (-2)) hx hb dX11_asksRound_18 (by decide) ?_
      exact retRi hx hb hr hlk hS dX11_asksRound_20 (⟨by have kk : (-2 : Int32).toInt = -2 := (by decide); omega, fun q9 => absurd q9 (by have kk : (-2 : Int32).toInt = -2 := (by decide); omega)⟩)
    · have zc4 := neK rfl (show (0 : Int32).toInt = 0 by decide) c4
      refine lv_iload_n hx hb dX11_asksRound_14 rfl (lv_at hl 2 rfl) ?_
      refine lv_if_ne (tgt := 21) hx hb dX11_asksRound_15 (by decide) (fun c5 => ?_) (fun c5 => ?_)
      · have zc5 := neK rfl (show (0 : Int32).toInt = 0 by decide) c5
        refine lv_aload_n hx hb dX11_asksRound_21 rfl (lv_at hl 0 rfl) ?_
        refine getF (v := .ref (q 31)) hx hb ht hown hK hP iTX11 0 31 rfl rfl (by decide) fl_RX11_61 rfl dX11_asksRound_22 ?_
        refine lv_iload_n hx hb dX11_asksRound_25 rfl (lv_at hl 1 rfl) ?_
        refine va_iald hx hb hK.1 hP 16 0 rfl rfl (inK rfl (by omega) (by decide)) dX11_asksRound_26 ?_
        refine lv_topi (fun v6 ev6 => ?_)
        have zf7 : (-1 : Int) ≤ v6.toInt ∧ v6.toInt ≤ 60 := by rw [ev6]; exact (hI.2 31 _)
        have nv6 : v6.toInt = (A 31 a1.toNatClampNeg).toInt := congrArg Int32.toInt ev6
        refine lv_iconst (v := (-1)) hx hb dX11_asksRound_27 (by decide) ?_
        refine lv_icmp_ne (tgt := 34) hx hb dX11_asksRound_28 (by decide) (fun c8 => ?_) (fun c8 => ?_)
        · have zc8 := neK rfl (show (-1 : Int32).toInt = (-1) by decide) c8
          refine lv_iconst (v := 0) hx hb dX11_asksRound_34 (by decide) ?_
          refine lv_istore_n (lv' := [(3, .int 0), (0, .ref h), (1, .int a1), (2, .int a2)]) hx hb dX11_asksRound_35 rfl hl (by decide) rfl (fun ls hl => ?_)
          have B36 : ∀ (n : Nat) (x36_3 : Int32) (H : Heap) (locs : List Loc) (ls : Array Slot), (60 - x36_3.toInt).toNat < n → (0 : Int) ≤ x36_3.toInt ∧ x36_3.toInt ≤ 60 → (RV B a1 x36_3.toInt) → va_P G vwCl (mS cs h q F A D B) H → va_S (fun q => s.heap.size ≤ q) s.heap H locs → lv_has ls 4 [(0, .ref h), (1, .int a1), (3, .int x36_3)] → W p l e (rmk 3 0 0) s m args below meth c H locs 0 0 (MQ below (QRi (fun r : Int32 => (r.toInt = -2 ∨ r.toInt = -6 ∨ (r.toInt = 0 ∧ 0 ≤ a1.toInt ∧ a1.toInt ≤ 3 ∧ 0 ≤ (A 31 a1.toNatClampNeg).toInt ∧ a2.toInt = 1)) ∧ (r.toInt = 0 → RV B a1 (A 31 a1.toNatClampNeg).toInt)) s.heap.size) args s 0 0 (fun q => s.heap.size ≤ q)) (F0 m 36 ls []) := by
            intro n
            induction n with
            | zero => intro x36_3 H locs ls hmeas hx36_3 hinv hP hS hl; exact absurd hmeas (Nat.not_lt_zero _)
            | succ n ih36 =>
              intro x36_3 H locs ls hmeas hx36_3 hinv hP hS hl
              refine lv_iload_n hx hb dX11_asksRound_36 rfl (lv_at hl 2 rfl) ?_
              refine lv_aload_n hx hb dX11_asksRound_37 rfl (lv_at hl 0 rfl) ?_
              refine getF (v := .ref (q 31)) hx hb ht hown hK hP iTX11 0 31 rfl rfl (by decide) fl_RX11_61 rfl dX11_asksRound_38 ?_
              refine lv_iload_n hx hb dX11_asksRound_41 rfl (lv_at hl 1 rfl) ?_
              refine va_iald hx hb hK.1 hP 16 0 rfl rfl (inK rfl (by omega) (by decide)) dX11_asksRound_42 ?_
              refine lv_topi (fun v19001 ev19001 => ?_)
              have zf19002 : (-1 : Int) ≤ v19001.toInt ∧ v19001.toInt ≤ 60 := by rw [ev19001]; exact (hI.2 31 _)
              have nv19001 : v19001.toInt = (A 31 a1.toNatClampNeg).toInt := congrArg Int32.toInt ev19001
              refine lv_icmp_ge (tgt := 68) hx hb dX11_asksRound_43 (by decide) (fun c19003 => ?_) (fun c19003 => ?_)
              · have zc19003 := leK rfl rfl c19003
                refine lv_iconst (v := 0) hx hb dX11_asksRound_68 (by decide) ?_
                exact retRi hx hb hr hlk hS dX11_asksRound_69 (⟨by have kk : (0 : Int32).toInt = 0 := (by decide); rw [← ev19001]; omega, fun _ => RVle hinv (by rw [← ev19001]; omega)⟩)
              · have zc19003 := nleK rfl rfl c19003
                refine lv_aload_n hx hb dX11_asksRound_46 rfl (lv_at hl 0 rfl) ?_
                refine lv_aload_n hx hb dX11_asksRound_47 rfl (lv_at hl 0 rfl) ?_
                refine lv_iload_n hx hb dX11_asksRound_48 rfl (lv_at hl 1 rfl) ?_
                refine lv_iload_n hx hb dX11_asksRound_49 rfl (lv_at hl 2 rfl) ?_
                refine behRL (runVP (As := [.int a1, .int x36_3]) (rest := [.ref h]) ⟨hx, hb, hml, hown, ht⟩ (sX11_numberAt l G cs h q F A D B hI a1 x36_3 (by omega) (by omega)) okV_RX11_286 ⟨by decide, by decide⟩ hK hP [0, 1, 2, 3, 4, 5, 6, 7, 8, 9, 10, 11, 12, 13, 14, 15, 16, 17, 18, 19] rfl 0 rfl rfl hl.1 rfl (Nat.le_of_ble_eq_true rfl) dX11_asksRound_50 ⟨by decide, by decide⟩) hP hS (fun _ h => h) (fun r19004 H locs hr19004 hP hS => ?_)
                have hr19004 : r19004 = B 33 (60 * a1.toNatClampNeg + x36_3.toNatClampNeg) := hr19004
                refine behR (runVP (As := [.long r19004]) (rest := []) ⟨hx, hb, hml, hown, ht⟩ (sX11_isRoomOrNone l G cs h q F A D B hI r19004 ) okV_RX11_275 ⟨by decide, by decide⟩ hK hP [0, 1, 2, 3, 4, 5, 6, 7, 8, 9, 10, 11, 12, 13, 14, 15, 16, 17, 18, 19] rfl 0 rfl rfl hl.1 rfl (Nat.le_of_ble_eq_true rfl) dX11_asksRound_53 ⟨by decide, by decide⟩) hP hS (fun _ h => h) (fun r19005 H locs hr19005 hP hS => ?_)
                have hr19005 : (r19005.toInt = 1 ∧ -1 ≤ r19004.toInt ∧ r19004.toInt ≤ 6) ∨ r19005.toInt = 0 := hr19005
                refine lv_if_ne (tgt := 62) hx hb dX11_asksRound_56 (by decide) (fun c19006 => ?_) (fun c19006 => ?_)
                · have zc19006 := neK rfl (show (0 : Int32).toInt = 0 by decide) c19006
                  obtain ⟨v19007, ev19007⟩ : ∃ z : Int32, z = x36_3 + 1 := ⟨_, rfl⟩
                  have tv19007 : v19007.toInt = x36_3.toInt + 1 := by rw [ev19007]; exact addT rfl (by decide) (by omega)
                  refine lv_iinc (v := v19007) (lv' := [(3, .int v19007), (0, .ref h), (1, .int a1)]) hx hb dX11_asksRound_62 hl (k := 2) rfl (by rw [ev19007]; rfl) (by decide) rfl (fun ls hl => ?_)
                  refine lv_goto (tgt := 36) hx hb dX11_asksRound_65 (by decide) ?_
                  exact ih36 v19007 H locs ls (by omega) (by omega) (RVs hinv tv19007 (clK rfl (by omega)) (by rw [← hr19004]; omega)) hP hS (lv_sub hl [1, 2, 0] rfl)
                · have zc19006 := eqK rfl (show (0 : Int32).toInt = 0 by decide) c19006
                  refine lv_bipush (v := (-2)) hx hb dX11_asksRound_59 (by decide) ?_
                  exact retRi hx hb hr hlk hS dX11_asksRound_61 (⟨by have kk : (-2 : Int32).toInt = -2 := (by decide); omega, fun q9 => absurd q9 (by have kk : (-2 : Int32).toInt = -2 := (by decide); omega)⟩)
          exact B36 _ 0 H locs ls (Nat.lt_succ_self _) (by decide) (RV0 (by decide)) hP hS (lv_sub hl [1, 2, 0] rfl)
        · have zc8 := eqK rfl (show (-1 : Int32).toInt = (-1) by decide) c8
          refine lv_bipush (v := (-6)) hx hb dX11_asksRound_31 (by decide) ?_
          exact retRi hx hb hr hlk hS dX11_asksRound_33 (⟨by have kk : (-6 : Int32).toInt = -6 := (by decide); omega, fun q9 => absurd q9 (by have kk : (-6 : Int32).toInt = -6 := (by decide); omega)⟩)
      · have zc5 := eqK rfl (show (0 : Int32).toInt = 0 by decide) c5
        refine lv_bipush (v := (-2)) hx hb dX11_asksRound_18 (by decide) ?_
        exact retRi hx hb hr hlk hS dX11_asksRound_20 (⟨by have kk : (-2 : Int32).toInt = -2 := (by decide); omega, fun q9 => absurd q9 (by have kk : (-2 : Int32).toInt = -2 := (by decide); omega)⟩)

set_option maxRecDepth 100000 in
set_option maxHeartbeats 8000000 in
theorem sX11_round (l : Launch) (G : va_G) (cs : Nat → ClassId) (h : Nat) (q : Nat → Nat) (F : Nat → Int32) (A : Nat → Nat → Int32) (D : Int64) (B : Nat → Nat → Int64) (hI : IM F A) (a1 : Int32) : ImpI l yX11_round cX11_round 3 (some .int) 6 0 0 G (TY cs) [.ref h, .int a1] (mS cs h q F A D B) (fun (r : Int32) (u : Int32 × Int32 × (Nat → Int32) × (Nat → Int32)) => True) (fun u : Int32 × Int32 × (Nat → Int32) × (Nat → Int32) => (mS cs h q (upd (upd F 17 u.1) 18 u.2.1) (vA (vA A 15 u.2.2.1) 16 u.2.2.2) D B)) := by
  refine mkD (Qc := (QDi G (fun (r : Int32) (u : Int32 × Int32 × (Nat → Int32) × (Nat → Int32)) => True) (fun u : Int32 × Int32 × (Nat → Int32) × (Nat → Int32) => (mS cs h q (upd (upd F 17 u.1) 18 u.2.1) (vA (vA A 15 u.2.2.1) 16 u.2.2.2) D B)))) (by decide) (by simp [lg_sl, Value.category]) ?_
  intro p e s m args below meth c ls A0 hx hb hml hr hlk hown hmn ht hK hP hD hS hA hl
  have hl : lv_has ls 3 [(0, .ref h), (1, .int a1)] := hl
  refine lv_aload_n hx hb dX11_round_0 rfl (lv_at hl 0 rfl) ?_
  refine lv_iload_n hx hb dX11_round_1 rfl (lv_at hl 1 rfl) ?_
  refine lv_iconst (v := 1) hx hb dX11_round_2 (by decide) ?_
  refine behR (runVP (As := [.int a1, .int 1]) (rest := []) ⟨hx, hb, hml, hown, ht⟩ (sX11_asksRound l G cs h q F A D B hI a1 1 (by decide)) okV_RX11_303 ⟨by decide, by decide⟩ hK hP [0, 1, 2, 3, 4, 5, 6, 7, 8, 9, 10, 11, 12, 13, 14, 15, 16, 17, 18, 19] rfl 0 rfl rfl hl.1 rfl (Nat.le_of_ble_eq_true rfl) dX11_round_3 ⟨by decide, by decide⟩) hP hS hA (fun r1 H locs hr1 hP hS => ?_)
  have kk2 : (1 : Int32).toInt = 1 := by decide
  have hr1 : (r1.toInt = -2 ∨ r1.toInt = -6 ∨ (r1.toInt = 0 ∧ 0 ≤ a1.toInt ∧ a1.toInt ≤ 3 ∧ 0 ≤ (A 31 a1.toNatClampNeg).toInt ∧ (1 : Int32).toInt = 1)) ∧ (r1.toInt = 0 → RV B a1 (A 31 a1.toNatClampNeg).toInt) := hr1
  obtain ⟨hr1, gr1⟩ := hr1
  refine lv_istore_n (lv' := [(2, .int r1), (0, .ref h), (1, .int a1)]) hx hb dX11_round_6 rfl hl (by decide) rfl (fun ls hl => ?_)
  refine lv_iload_n hx hb dX11_round_7 rfl (lv_at hl 0 rfl) ?_
  refine lv_if_ge (tgt := 15) hx hb dX11_round_8 (by decide) (fun c3 => ?_) (fun c3 => ?_)
  · have zc3 := leK (show (0 : Int32).toInt = 0 by decide) rfl c3
    refine lv_aload_n hx hb dX11_round_15 rfl (lv_at hl 1 rfl) ?_
    refine lv_iload_n hx hb dX11_round_16 rfl (lv_at hl 2 rfl) ?_
    refine lv_aload_n hx hb dX11_round_17 rfl (lv_at hl 1 rfl) ?_
    refine getF (v := .ref (q 31)) hx hb ht hown hK hP iTX11 0 31 rfl rfl (by decide) fl_RX11_61 rfl dX11_round_18 ?_
    refine lv_iload_n hx hb dX11_round_21 rfl (lv_at hl 2 rfl) ?_
    refine va_iald hx hb hK.1 hP 16 0 rfl rfl (inK rfl (by omega) (by decide)) dX11_round_22 ?_
    refine lv_topi (fun v4 ev4 => ?_)
    have zf5 : (-1 : Int) ≤ v4.toInt ∧ v4.toInt ≤ 60 := by rw [ev4]; exact (hI.2 31 _)
    have nv4 : v4.toInt = (A 31 a1.toNatClampNeg).toInt := congrArg Int32.toInt ev4
    refine lv_iconst (v := 0) hx hb dX11_round_23 (by decide) ?_
    refine behDi (wr := []) (runVD (As := [.int a1, .int v4, .int 0]) (rest := []) ⟨hx, hb, hml, hown, ht⟩ (sX11_goRound l G cs h q F A D B hI a1 v4 0 (by omega) (by omega) (by decide) (show RV B a1 v4.toInt from (RVle (gr1 (by omega)) (by first | omega | (rw [ev4]; exact Int.le_refl _))))) okV_RX11_296 ⟨by decide, by decide⟩ hK hP hD [0, 1, 2, 3, 4, 5, 6, 7, 8, 9, 10, 11, 12, 13, 14, 15, 16, 17, 18, 19] rfl (by decide) rfl 0 rfl rfl hl.1 rfl (Nat.le_of_ble_eq_true rfl) dX11_round_24 ⟨(Nat.le_of_ble_eq_true rfl), (Nat.le_of_ble_eq_true rfl)⟩) hP hD hS hA [0, 1, 2, 3, 4, 5, 6, 7, 8, 9, 10, 11, 12, 13, 14, 15, 16, 17, 18, 19] [] rfl rfl (by decide) (by decide) (fun r9 u H locs hu hP hD hS => ?_)
    obtain ⟨x6, x7, g8, g9⟩ := u
    obtain ⟨r10, rfl⟩ : ∃ z, z = r9 := ⟨_, rfl⟩
    have hr10 := hu
    have hP : va_P G vwCl (mS cs h q (upd (upd F 17 x6) 18 x7) (vA (vA A 15 g8) 16 g9) D B) H := hP
    have hD : va_D A0 (mS cs h q (upd (upd F 17 x6) 18 x7) (vA (vA A 15 g8) 16 g9) D B) := hD
    exact retDi (x6, x7, g8, g9) hx hb hr hlk hP hD hS dX11_round_27 (trivial) (Nat.le_of_ble_eq_true rfl) (Nat.le_of_ble_eq_true rfl)
  · have zc3 := nleK (show (0 : Int32).toInt = 0 by decide) rfl c3
    refine lv_iload_n hx hb dX11_round_11 rfl (lv_at hl 0 rfl) ?_
    refine lv_goto (tgt := 27) hx hb dX11_round_12 (by decide) ?_
    exact retDi ((F 17), (F 18), (A 15), (A 16)) hx hb hr hlk hP hD hS dX11_round_27 (trivial) (Nat.le_of_ble_eq_true rfl) (Nat.le_of_ble_eq_true rfl)

set_option maxRecDepth 100000 in
set_option maxHeartbeats 8000000 in
theorem sX11_behind (l : Launch) (G : va_G) (cs : Nat → ClassId) (h : Nat) (q : Nat → Nat) (F : Nat → Int32) (A : Nat → Nat → Int32) (D : Int64) (B : Nat → Nat → Int64) (hI : IM F A) (a1 : Int32) (a2 : Int32) : ImpI l yX11_behind cX11_behind 4 (some .int) 6 0 0 G (TY cs) [.ref h, .int a1, .int a2] (mS cs h q F A D B) (fun (r : Int32) (u : Int32 × Int32 × (Nat → Int32) × (Nat → Int32)) => True) (fun u : Int32 × Int32 × (Nat → Int32) × (Nat → Int32) => (mS cs h q (upd (upd F 17 u.1) 18 u.2.1) (vA (vA A 15 u.2.2.1) 16 u.2.2.2) D B)) := by
  refine mkD (Qc := (QDi G (fun (r : Int32) (u : Int32 × Int32 × (Nat → Int32) × (Nat → Int32)) => True) (fun u : Int32 × Int32 × (Nat → Int32) × (Nat → Int32) => (mS cs h q (upd (upd F 17 u.1) 18 u.2.1) (vA (vA A 15 u.2.2.1) 16 u.2.2.2) D B)))) (by decide) (by simp [lg_sl, Value.category]) ?_
  intro p e s m args below meth c ls A0 hx hb hml hr hlk hown hmn ht hK hP hD hS hA hl
  have hl : lv_has ls 4 [(0, .ref h), (1, .int a1), (2, .int a2)] := hl
  refine lv_aload_n hx hb dX11_behind_0 rfl (lv_at hl 0 rfl) ?_
  refine lv_iload_n hx hb dX11_behind_1 rfl (lv_at hl 1 rfl) ?_
  refine lv_aload_n hx hb dX11_behind_2 rfl (lv_at hl 0 rfl) ?_
  refine lv_iload_n hx hb dX11_behind_3 rfl (lv_at hl 2 rfl) ?_
  refine lv_i2l hx hb dX11_behind_4 rfl ?_
  have bb1 := i32b a2
  refine lv_topl (fun v2 ev2 => ?_)
  have tv2 : v2.toInt = a2.toInt := by rw [ev2]; exact Int32.toInt_toInt64 _
  refine behR (runVP (As := [.long v2]) (rest := [.int a1, .ref h]) ⟨hx, hb, hml, hown, ht⟩ (sX11_isRoom l G cs h q F A D B hI v2 ) okV_RX11_89 ⟨by decide, by decide⟩ hK hP [0, 1, 2, 3, 4, 5, 6, 7, 8, 9, 10, 11, 12, 13, 14, 15, 16, 17, 18, 19] rfl 0 rfl rfl hl.1 rfl (Nat.le_of_ble_eq_true rfl) dX11_behind_5 ⟨by decide, by decide⟩) hP hS hA (fun r3 H locs hr3 hP hS => ?_)
  have hr3 : (r3.toInt = 1 ∧ 0 ≤ v2.toInt ∧ v2.toInt < (A 1 4).toInt ∧ v2.toInt ≤ 6 ∧ (A 1 4).toInt ≤ 7) ∨ r3.toInt = 0 := hr3
  refine behR (runVP (As := [.int a1, .int r3]) (rest := []) ⟨hx, hb, hml, hown, ht⟩ (sX11_asksRound l G cs h q F A D B hI a1 r3 (by omega)) okV_RX11_303 ⟨by decide, by decide⟩ hK hP [0, 1, 2, 3, 4, 5, 6, 7, 8, 9, 10, 11, 12, 13, 14, 15, 16, 17, 18, 19] rfl 0 rfl rfl hl.1 rfl (Nat.le_of_ble_eq_true rfl) dX11_behind_8 ⟨by decide, by decide⟩) hP hS hA (fun r4 H locs hr4 hP hS => ?_)
  have hr4 : (r4.toInt = -2 ∨ r4.toInt = -6 ∨ (r4.toInt = 0 ∧ 0 ≤ a1.toInt ∧ a1.toInt ≤ 3 ∧ 0 ≤ (A 31 a1.toNatClampNeg).toInt ∧ r3.toInt = 1)) ∧ (r4.toInt = 0 → RV B a1 (A 31 a1.toNatClampNeg).toInt) := hr4
  obtain ⟨hr4, gr4⟩ := hr4
  refine lv_istore_n (lv' := [(3, .int r4), (0, .ref h), (1, .int a1), (2, .int a2)]) hx hb dX11_behind_11 rfl hl (by decide) rfl (fun ls hl => ?_)
  refine lv_iload_n hx hb dX11_behind_12 rfl (lv_at hl 0 rfl) ?_
  refine lv_if_ge (tgt := 18) hx hb dX11_behind_13 (by decide) (fun c5 => ?_) (fun c5 => ?_)
  · have zc5 := leK (show (0 : Int32).toInt = 0 by decide) rfl c5
    refine lv_aload_n hx hb dX11_behind_18 rfl (lv_at hl 1 rfl) ?_
    refine lv_iload_n hx hb dX11_behind_19 rfl (lv_at hl 2 rfl) ?_
    refine lv_aload_n hx hb dX11_behind_20 rfl (lv_at hl 1 rfl) ?_
    refine getF (v := .ref (q 31)) hx hb ht hown hK hP iTX11 0 31 rfl rfl (by decide) fl_RX11_61 rfl dX11_behind_21 ?_
    refine lv_iload_n hx hb dX11_behind_24 rfl (lv_at hl 2 rfl) ?_
    refine va_iald hx hb hK.1 hP 16 0 rfl rfl (inK rfl (by omega) (by decide)) dX11_behind_25 ?_
    refine lv_topi (fun v6 ev6 => ?_)
    have zf7 : (-1 : Int) ≤ v6.toInt ∧ v6.toInt ≤ 60 := by rw [ev6]; exact (hI.2 31 _)
    have nv6 : v6.toInt = (A 31 a1.toNatClampNeg).toInt := congrArg Int32.toInt ev6
    refine lv_iconst (v := 0) hx hb dX11_behind_26 (by decide) ?_
    refine behDi (wr := []) (runVD (As := [.int a1, .int v6, .int 0]) (rest := []) ⟨hx, hb, hml, hown, ht⟩ (sX11_goRound l G cs h q F A D B hI a1 v6 0 (by omega) (by omega) (by decide) (show RV B a1 v6.toInt from (RVle (gr4 (by omega)) (by first | omega | (rw [ev6]; exact Int.le_refl _))))) okV_RX11_296 ⟨by decide, by decide⟩ hK hP hD [0, 1, 2, 3, 4, 5, 6, 7, 8, 9, 10, 11, 12, 13, 14, 15, 16, 17, 18, 19] rfl (by decide) rfl 0 rfl rfl hl.1 rfl (Nat.le_of_ble_eq_true rfl) dX11_behind_27 ⟨(Nat.le_of_ble_eq_true rfl), (Nat.le_of_ble_eq_true rfl)⟩) hP hD hS hA [0, 1, 2, 3, 4, 5, 6, 7, 8, 9, 10, 11, 12, 13, 14, 15, 16, 17, 18, 19] [] rfl rfl (by decide) (by decide) (fun r9 u H locs hu hP hD hS => ?_)
    obtain ⟨x8, x9, g10, g11⟩ := u
    obtain ⟨r12, rfl⟩ : ∃ z, z = r9 := ⟨_, rfl⟩
    have hr12 := hu
    have hP : va_P G vwCl (mS cs h q (upd (upd F 17 x8) 18 x9) (vA (vA A 15 g10) 16 g11) D B) H := hP
    have hD : va_D A0 (mS cs h q (upd (upd F 17 x8) 18 x9) (vA (vA A 15 g10) 16 g11) D B) := hD
    refine lv_pop hx hb dX11_behind_30 rfl ?_
    refine lv_aload_n hx hb dX11_behind_31 rfl (lv_at hl 1 rfl) ?_
    refine getF (v := .ref (q 15)) hx hb ht hown hK hP iTX11 0 15 rfl rfl (by decide) fl_RX11_34 rfl dX11_behind_32 ?_
    refine lv_iload_n hx hb dX11_behind_35 rfl (lv_at hl 3 rfl) ?_
    refine va_iald hx hb hK.1 hP 7 0 rfl rfl (inK rfl (by omega) (by decide)) dX11_behind_36 ?_
    refine lv_topi (fun v13 ev13 => ?_)
    exact retDi (x8, x9, g10, g11) hx hb hr hlk hP hD hS dX11_behind_37 (trivial) (Nat.le_of_ble_eq_true rfl) (Nat.le_of_ble_eq_true rfl)
  · have zc5 := nleK (show (0 : Int32).toInt = 0 by decide) rfl c5
    refine lv_iload_n hx hb dX11_behind_16 rfl (lv_at hl 0 rfl) ?_
    exact retDi ((F 17), (F 18), (A 15), (A 16)) hx hb hr hlk hP hD hS dX11_behind_17 (trivial) (Nat.le_of_ble_eq_true rfl) (Nat.le_of_ble_eq_true rfl)

set_option maxRecDepth 100000 in
set_option maxHeartbeats 8000000 in
theorem sX11_disturbs (l : Launch) (G : va_G) (cs : Nat → ClassId) (h : Nat) (q : Nat → Nat) (F : Nat → Int32) (A : Nat → Nat → Int32) (D : Int64) (B : Nat → Nat → Int64) (hI : IM F A) (a1 : Int32) : SafeR l yX11_disturbs cX11_disturbs 5 (some .int) 4 G (TY cs) [.ref h, .int a1] (mS cs h q F A D B) (fun r : Int32 => True) := by
  refine mkP (Qc := QRi (fun r : Int32 => True)) (by decide) (by simp [lg_sl, Value.category]) ?_
  intro p e s m args below meth c ls hx hb hml hr hlk hown ht hK hP hS hl
  have hl : lv_has ls 5 [(0, .ref h), (1, .int a1)] := hl
  refine lv_aload_n hx hb dX11_disturbs_0 rfl (lv_at hl 0 rfl) ?_
  refine lv_iload_n hx hb dX11_disturbs_1 rfl (lv_at hl 1 rfl) ?_
  refine lv_iconst (v := 1) hx hb dX11_disturbs_2 (by decide) ?_
  refine behR (runVP (As := [.int a1, .int 1]) (rest := []) ⟨hx, hb, hml, hown, ht⟩ (sX11_asksRound l G cs h q F A D B hI a1 1 (by decide)) okV_RX11_303 ⟨by decide, by decide⟩ hK hP [0, 1, 2, 3, 4, 5, 6, 7, 8, 9, 10, 11, 12, 13, 14, 15, 16, 17, 18, 19] rfl 0 rfl rfl hl.1 rfl (Nat.le_of_ble_eq_true rfl) dX11_disturbs_3 ⟨by decide, by decide⟩) hP hS (fun _ h => h) (fun r1 H locs hr1 hP hS => ?_)
  have kk2 : (1 : Int32).toInt = 1 := by decide
  have hr1 : (r1.toInt = -2 ∨ r1.toInt = -6 ∨ (r1.toInt = 0 ∧ 0 ≤ a1.toInt ∧ a1.toInt ≤ 3 ∧ 0 ≤ (A 31 a1.toNatClampNeg).toInt ∧ (1 : Int32).toInt = 1)) ∧ (r1.toInt = 0 → RV B a1 (A 31 a1.toNatClampNeg).toInt) := hr1
  obtain ⟨hr1, gr1⟩ := hr1
  refine lv_istore_n (lv' := [(2, .int r1), (0, .ref h), (1, .int a1)]) hx hb dX11_disturbs_6 rfl hl (by decide) rfl (fun ls hl => ?_)
  refine lv_iload_n hx hb dX11_disturbs_7 rfl (lv_at hl 0 rfl) ?_
  refine lv_if_ge (tgt := 13) hx hb dX11_disturbs_8 (by decide) (fun c3 => ?_) (fun c3 => ?_)
  · have zc3 := leK (show (0 : Int32).toInt = 0 by decide) rfl c3
    refine lv_iconst (v := 0) hx hb dX11_disturbs_13 (by decide) ?_
    refine lv_istore_n (lv' := [(3, .int 0), (2, .int r1), (0, .ref h), (1, .int a1)]) hx hb dX11_disturbs_14 rfl hl (by decide) rfl (fun ls hl => ?_)
    refine lv_iconst (v := 0) hx hb dX11_disturbs_15 (by decide) ?_
    refine lv_istore (lv' := [(4, .int 0), (3, .int 0), (2, .int r1), (0, .ref h), (1, .int a1)]) hx hb dX11_disturbs_16 hl (by decide) rfl (fun ls hl => ?_)
    have B18 : ∀ (n : Nat) (x18_3 : Int32) (x18_4 : Int32) (H : Heap) (locs : List Loc) (ls : Array Slot), (60 - x18_4.toInt).toNat < n → (0 : Int) ≤ x18_4.toInt ∧ x18_4.toInt ≤ 60 → va_P G vwCl (mS cs h q F A D B) H → va_S (fun q => s.heap.size ≤ q) s.heap H locs → lv_has ls 5 [(0, .ref h), (1, .int a1), (3, .int x18_3), (4, .int x18_4)] → W p l e (rmk 4 0 0) s m args below meth c H locs 0 0 (MQ below (QRi (fun r : Int32 => True) s.heap.size) args s 0 0 (fun q => s.heap.size ≤ q)) (F0 m 18 ls []) := by
      intro n
      induction n with
      | zero => intro x18_3 x18_4 H locs ls hmeas hx18_4 hP hS hl; exact absurd hmeas (Nat.not_lt_zero _)
      | succ n ih18 =>
        intro x18_3 x18_4 H locs ls hmeas hx18_4 hP hS hl
        refine lv_iload hx hb dX11_disturbs_18 (lv_at hl 3 rfl) ?_
        refine lv_aload_n hx hb dX11_disturbs_20 rfl (lv_at hl 0 rfl) ?_
        refine getF (v := .ref (q 31)) hx hb ht hown hK hP iTX11 0 31 rfl rfl (by decide) fl_RX11_61 rfl dX11_disturbs_21 ?_
        refine lv_iload_n hx hb dX11_disturbs_24 rfl (lv_at hl 1 rfl) ?_
        refine va_iald hx hb hK.1 hP 16 0 rfl rfl (inK rfl (by omega) (by decide)) dX11_disturbs_25 ?_
        refine lv_topi (fun v14001 ev14001 => ?_)
        have zf14002 : (-1 : Int) ≤ v14001.toInt ∧ v14001.toInt ≤ 60 := by rw [ev14001]; exact (hI.2 31 _)
        have nv14001 : v14001.toInt = (A 31 a1.toNatClampNeg).toInt := congrArg Int32.toInt ev14001
        refine lv_icmp_ge (tgt := 65) hx hb dX11_disturbs_26 (by decide) (fun c14003 => ?_) (fun c14003 => ?_)
        · have zc14003 := leK rfl rfl c14003
          refine lv_iload_n hx hb dX11_disturbs_65 rfl (lv_at hl 2 rfl) ?_
          exact retRi hx hb hr hlk hS dX11_disturbs_66 (trivial)
        · have zc14003 := nleK rfl rfl c14003
          refine lv_iload_n hx hb dX11_disturbs_29 rfl (lv_at hl 2 rfl) ?_
          refine lv_aload_n hx hb dX11_disturbs_30 rfl (lv_at hl 0 rfl) ?_
          refine lv_iload_n hx hb dX11_disturbs_31 rfl (lv_at hl 1 rfl) ?_
          refine lv_iload hx hb dX11_disturbs_32 (lv_at hl 3 rfl) ?_
          refine behR (runVP (As := [.int a1, .int x18_4]) (rest := [.int x18_3]) ⟨hx, hb, hml, hown, ht⟩ (sX11_roomAt l G cs h q F A D B hI a1 x18_4 (by omega) (by omega)) okV_RX11_293 ⟨by decide, by decide⟩ hK hP [0, 1, 2, 3, 4, 5, 6, 7, 8, 9, 10, 11, 12, 13, 14, 15, 16, 17, 18, 19] rfl 0 rfl rfl hl.1 rfl (Nat.le_of_ble_eq_true rfl) dX11_disturbs_34 ⟨by decide, by decide⟩) hP hS (fun _ h => h) (fun r14004 H locs hr14004 hP hS => ?_)
          have hr14004 : r14004 = (B 33 (60 * a1.toNatClampNeg + x18_4.toNatClampNeg)).toInt32 := hr14004
          have zbr14004 : -1 ≤ r14004.toInt ∧ r14004.toInt ≤ 6 := by rw [hr14004]; exact RVroom (gr1 (by omega)) (by have q1 := clK (i := x18_4) rfl (by omega); omega)
          refine lv_iconst (v := (-1)) hx hb dX11_disturbs_37 (by decide) ?_
          have B57 : ∀ (s57_0 : Int32) (s57_1 : Int32) (H : Heap) (locs : List Loc) (ls : Array Slot), (0 : Int) ≤ s57_0.toInt ∧ s57_0.toInt ≤ 999 → va_P G vwCl (mS cs h q F A D B) H → va_S (fun q => s.heap.size ≤ q) s.heap H locs → lv_has ls 5 [(0, .ref h), (1, .int a1), (4, .int x18_4)] → W p l e (rmk 4 0 0) s m args below meth c H locs 0 0 (MQ below (QRi (fun r : Int32 => True) s.heap.size) args s 0 0 (fun q => s.heap.size ≤ q)) (F0 m 57 ls [.int s57_0, .int s57_1]) := by
            intro s57_0 s57_1 H locs ls hs57_0 hP hS hl
            refine lv_iadd hx hb dX11_disturbs_57 ?_
            refine lv_topi (fun v36001 ev36001 => ?_)
            refine lv_istore_n (lv' := [(3, .int v36001), (0, .ref h), (1, .int a1), (4, .int x18_4)]) hx hb dX11_disturbs_58 rfl hl (by decide) rfl (fun ls hl => ?_)
            obtain ⟨v36002, ev36002⟩ : ∃ z : Int32, z = x18_4 + 1 := ⟨_, rfl⟩
            have tv36002 : v36002.toInt = x18_4.toInt + 1 := by rw [ev36002]; exact addT rfl (by decide) (by omega)
            refine lv_iinc (v := v36002) (lv' := [(4, .int v36002), (3, .int v36001), (0, .ref h), (1, .int a1)]) hx hb dX11_disturbs_59 hl (k := 3) rfl (by rw [ev36002]; rfl) (by decide) rfl (fun ls hl => ?_)
            refine lv_goto (tgt := 18) hx hb dX11_disturbs_62 (by decide) ?_
            exact ih18 v36001 v36002 H locs ls (by omega) (by omega) hP hS (lv_sub hl [2, 3, 1, 0] rfl)
          refine lv_icmp_ne (tgt := 45) hx hb dX11_disturbs_38 (by decide) (fun c14005 => ?_) (fun c14005 => ?_)
          · have zc14005 := neK rfl (show (-1 : Int32).toInt = (-1) by decide) c14005
            refine lv_aload_n hx hb dX11_disturbs_45 rfl (lv_at hl 0 rfl) ?_
            refine lv_aload_n hx hb dX11_disturbs_46 rfl (lv_at hl 0 rfl) ?_
            refine lv_iload_n hx hb dX11_disturbs_47 rfl (lv_at hl 1 rfl) ?_
            refine lv_iload hx hb dX11_disturbs_48 (lv_at hl 3 rfl) ?_
            refine behR (runVP (As := [.int a1, .int x18_4]) (rest := [.ref h, .int x18_3]) ⟨hx, hb, hml, hown, ht⟩ (sX11_roomAt l G cs h q F A D B hI a1 x18_4 (by omega) (by omega)) okV_RX11_293 ⟨by decide, by decide⟩ hK hP [0, 1, 2, 3, 4, 5, 6, 7, 8, 9, 10, 11, 12, 13, 14, 15, 16, 17, 18, 19] rfl 0 rfl rfl hl.1 rfl (Nat.le_of_ble_eq_true rfl) dX11_disturbs_50 ⟨by decide, by decide⟩) hP hS (fun _ h => h) (fun r14006 H locs hr14006 hP hS => ?_)
            have hr14006 : r14006 = (B 33 (60 * a1.toNatClampNeg + x18_4.toNatClampNeg)).toInt32 := hr14006
            have zbr14006 : -1 ≤ r14006.toInt ∧ r14006.toInt ≤ 6 := by rw [hr14006]; exact RVroom (gr1 (by omega)) (by have q1 := clK (i := x18_4) rfl (by omega); omega)
            have qrr14006 := congrArg Int32.toInt (hr14006.trans hr14004.symm)
            refine lv_iconst (v := 0) hx hb dX11_disturbs_53 (by decide) ?_
            refine behR (runVP (As := [.int r14006, .int 0]) (rest := [.int x18_3]) ⟨hx, hb, hml, hown, ht⟩ (sX11_of l G cs h q F A D B hI r14006 0 (by omega) (by decide)) okV_RX11_227 ⟨by decide, by decide⟩ hK hP [0, 1, 2, 3, 4, 5, 6, 7, 8, 9, 10, 11, 12, 13, 14, 15, 16, 17, 18, 19] rfl 0 rfl rfl hl.1 rfl (Nat.le_of_ble_eq_true rfl) dX11_disturbs_54 ⟨by decide, by decide⟩) hP hS (fun _ h => h) (fun r14007 H locs hr14007 hP hS => ?_)
            have kk14008 : (0 : Int32).toInt = 0 := by decide
            have hr14007 : r14007 = (A 1) (8 + 4 * r14006.toNatClampNeg + (0 : Int32).toNatClampNeg) ∧ (0 : Int) ≤ r14007.toInt ∧ r14007.toInt ≤ 999 ∧ ((0 : Int32).toInt = 3 → r14007.toInt ≤ 127) ∧ ((0 : Int32).toInt = 2 → r14007.toInt ≤ 99) := hr14007
            exact B57 r14007 x18_3 H locs ls (by omega) hP hS (lv_sub hl [0, 1, 3] rfl)
          · have zc14005 := eqK rfl (show (-1 : Int32).toInt = (-1) by decide) c14005
            refine lv_iconst (v := 0) hx hb dX11_disturbs_41 (by decide) ?_
            refine lv_goto (tgt := 57) hx hb dX11_disturbs_42 (by decide) ?_
            exact B57 0 x18_3 H locs ls (by decide) hP hS (lv_sub hl [0, 1, 3] rfl)
    exact B18 _ 0 0 H locs ls (Nat.lt_succ_self _) (by decide) hP hS (lv_sub hl [3, 4, 1, 0] rfl)
  · have zc3 := nleK (show (0 : Int32).toInt = 0 by decide) rfl c3
    refine lv_iload_n hx hb dX11_disturbs_11 rfl (lv_at hl 0 rfl) ?_
    exact retRi hx hb hr hlk hS dX11_disturbs_12 (trivial)

set_option maxRecDepth 100000 in
set_option maxHeartbeats 8000000 in
theorem sX11_gain (l : Launch) (G : va_G) (cs : Nat → ClassId) (h : Nat) (q : Nat → Nat) (F : Nat → Int32) (A : Nat → Nat → Int32) (D : Int64) (B : Nat → Nat → Int64) (hI : IM F A) (a1 : Int32) : ImpI l yX11_gain cX11_gain 3 (some .int) 7 0 0 G (TY cs) [.ref h, .int a1] (mS cs h q F A D B) (fun (r : Int32) (u : Int32 × Int32 × (Nat → Int32) × (Nat → Int32)) => True) (fun u : Int32 × Int32 × (Nat → Int32) × (Nat → Int32) => (mS cs h q (upd (upd F 17 u.1) 18 u.2.1) (vA (vA A 15 u.2.2.1) 16 u.2.2.2) D B)) := by
  refine mkD (Qc := (QDi G (fun (r : Int32) (u : Int32 × Int32 × (Nat → Int32) × (Nat → Int32)) => True) (fun u : Int32 × Int32 × (Nat → Int32) × (Nat → Int32) => (mS cs h q (upd (upd F 17 u.1) 18 u.2.1) (vA (vA A 15 u.2.2.1) 16 u.2.2.2) D B)))) (by decide) (by simp [lg_sl, Value.category]) ?_
  intro p e s m args below meth c ls A0 hx hb hml hr hlk hown hmn ht hK hP hD hS hA hl
  have hl : lv_has ls 3 [(0, .ref h), (1, .int a1)] := hl
  refine lv_aload_n hx hb dX11_gain_0 rfl (lv_at hl 0 rfl) ?_
  refine lv_iload_n hx hb dX11_gain_1 rfl (lv_at hl 1 rfl) ?_
  refine lv_iconst (v := 1) hx hb dX11_gain_2 (by decide) ?_
  refine behR (runVP (As := [.int a1, .int 1]) (rest := []) ⟨hx, hb, hml, hown, ht⟩ (sX11_asksRound l G cs h q F A D B hI a1 1 (by decide)) okV_RX11_303 ⟨by decide, by decide⟩ hK hP [0, 1, 2, 3, 4, 5, 6, 7, 8, 9, 10, 11, 12, 13, 14, 15, 16, 17, 18, 19] rfl 0 rfl rfl hl.1 rfl (Nat.le_of_ble_eq_true rfl) dX11_gain_3 ⟨by decide, by decide⟩) hP hS hA (fun r1 H locs hr1 hP hS => ?_)
  have kk2 : (1 : Int32).toInt = 1 := by decide
  have hr1 : (r1.toInt = -2 ∨ r1.toInt = -6 ∨ (r1.toInt = 0 ∧ 0 ≤ a1.toInt ∧ a1.toInt ≤ 3 ∧ 0 ≤ (A 31 a1.toNatClampNeg).toInt ∧ (1 : Int32).toInt = 1)) ∧ (r1.toInt = 0 → RV B a1 (A 31 a1.toNatClampNeg).toInt) := hr1
  obtain ⟨hr1, gr1⟩ := hr1
  refine lv_istore_n (lv' := [(2, .int r1), (0, .ref h), (1, .int a1)]) hx hb dX11_gain_6 rfl hl (by decide) rfl (fun ls hl => ?_)
  refine lv_iload_n hx hb dX11_gain_7 rfl (lv_at hl 0 rfl) ?_
  refine lv_bipush (v := (-2)) hx hb dX11_gain_8 (by decide) ?_
  refine lv_icmp_ne (tgt := 19) hx hb dX11_gain_10 (by decide) (fun c3 => ?_) (fun c3 => ?_)
  · have zc3 := neK rfl (show (-2 : Int32).toInt = (-2) by decide) c3
    refine lv_iload_n hx hb dX11_gain_19 rfl (lv_at hl 0 rfl) ?_
    refine lv_bipush (v := (-6)) hx hb dX11_gain_20 (by decide) ?_
    refine lv_icmp_ne (tgt := 31) hx hb dX11_gain_22 (by decide) (fun c4 => ?_) (fun c4 => ?_)
    · have zc4 := neK rfl (show (-6 : Int32).toInt = (-6) by decide) c4
      refine lv_aload_n hx hb dX11_gain_31 rfl (lv_at hl 1 rfl) ?_
      refine lv_iload_n hx hb dX11_gain_32 rfl (lv_at hl 2 rfl) ?_
      refine lv_aload_n hx hb dX11_gain_33 rfl (lv_at hl 1 rfl) ?_
      refine getF (v := .ref (q 31)) hx hb ht hown hK hP iTX11 0 31 rfl rfl (by decide) fl_RX11_61 rfl dX11_gain_34 ?_
      refine lv_iload_n hx hb dX11_gain_37 rfl (lv_at hl 2 rfl) ?_
      refine va_iald hx hb hK.1 hP 16 0 rfl rfl (inK rfl (by omega) (by decide)) dX11_gain_38 ?_
      refine lv_topi (fun v5 ev5 => ?_)
      have zf6 : (-1 : Int) ≤ v5.toInt ∧ v5.toInt ≤ 60 := by rw [ev5]; exact (hI.2 31 _)
      have nv5 : v5.toInt = (A 31 a1.toNatClampNeg).toInt := congrArg Int32.toInt ev5
      refine lv_iconst (v := 0) hx hb dX11_gain_39 (by decide) ?_
      refine behDi (wr := []) (runVD (As := [.int a1, .int v5, .int 0]) (rest := []) ⟨hx, hb, hml, hown, ht⟩ (sX11_gainOf l G cs h q F A D B hI a1 v5 0 (by omega) (by omega) (by decide) (show RV B a1 v5.toInt from (RVle (gr1 (by omega)) (by first | omega | (rw [ev5]; exact Int.le_refl _))))) okV_RX11_309 ⟨by decide, by decide⟩ hK hP hD [0, 1, 2, 3, 4, 5, 6, 7, 8, 9, 10, 11, 12, 13, 14, 15, 16, 17, 18, 19] rfl (by decide) rfl 0 rfl rfl hl.1 rfl (Nat.le_of_ble_eq_true rfl) dX11_gain_40 ⟨(Nat.le_of_ble_eq_true rfl), (Nat.le_of_ble_eq_true rfl)⟩) hP hD hS hA [0, 1, 2, 3, 4, 5, 6, 7, 8, 9, 10, 11, 12, 13, 14, 15, 16, 17, 18, 19] [] rfl rfl (by decide) (by decide) (fun r9 u H locs hu hP hD hS => ?_)
      obtain ⟨x7, x8, g9, g10⟩ := u
      obtain ⟨r11, rfl⟩ : ∃ z, z = r9 := ⟨_, rfl⟩
      have hr11 := hu
      have hP : va_P G vwCl (mS cs h q (upd (upd F 17 x7) 18 x8) (vA (vA A 15 g9) 16 g10) D B) H := hP
      have hD : va_D A0 (mS cs h q (upd (upd F 17 x7) 18 x8) (vA (vA A 15 g9) 16 g10) D B) := hD
      exact retDi (x7, x8, g9, g10) hx hb hr hlk hP hD hS dX11_gain_43 (trivial) (Nat.le_of_ble_eq_true rfl) (Nat.le_of_ble_eq_true rfl)
    · have zc4 := eqK rfl (show (-6 : Int32).toInt = (-6) by decide) c4
      refine lv_ldcw hx hb hown (ht _ ki_RX11_308) dX11_gain_25 ?_
      refine lv_goto (tgt := 43) hx hb dX11_gain_28 (by decide) ?_
      exact retDi ((F 17), (F 18), (A 15), (A 16)) hx hb hr hlk hP hD hS dX11_gain_43 (trivial) (Nat.le_of_ble_eq_true rfl) (Nat.le_of_ble_eq_true rfl)
  · have zc3 := eqK rfl (show (-2 : Int32).toInt = (-2) by decide) c3
    refine lv_ldcw hx hb hown (ht _ ki_RX11_307) dX11_gain_13 ?_
    refine lv_goto (tgt := 43) hx hb dX11_gain_16 (by decide) ?_
    exact retDi ((F 17), (F 18), (A 15), (A 16)) hx hb hr hlk hP hD hS dX11_gain_43 (trivial) (Nat.le_of_ble_eq_true rfl) (Nat.le_of_ble_eq_true rfl)

set_option maxRecDepth 100000 in
set_option maxHeartbeats 8000000 in
theorem sX11_stop (l : Launch) (G : va_G) (cs : Nat → ClassId) (h : Nat) (q : Nat → Nat) (F : Nat → Int32) (A : Nat → Nat → Int32) (D : Int64) (B : Nat → Nat → Int64) (hI : IM F A) (a1 : Int32) : ImpI l yX11_stop cX11_stop 5 (some .int) 7 0 0 G (TY cs) [.ref h, .int a1] (mS cs h q F A D B) (fun (r : Int32) (u : Int32 × Int32 × (Nat → Int32) × (Nat → Int32)) => True) (fun u : Int32 × Int32 × (Nat → Int32) × (Nat → Int32) => (mS cs h q (upd (upd F 17 u.1) 18 u.2.1) (vA (vA A 15 u.2.2.1) 16 u.2.2.2) D B)) := by
  refine mkD (Qc := (QDi G (fun (r : Int32) (u : Int32 × Int32 × (Nat → Int32) × (Nat → Int32)) => True) (fun u : Int32 × Int32 × (Nat → Int32) × (Nat → Int32) => (mS cs h q (upd (upd F 17 u.1) 18 u.2.1) (vA (vA A 15 u.2.2.1) 16 u.2.2.2) D B)))) (by decide) (by simp [lg_sl, Value.category]) ?_
  intro p e s m args below meth c ls A0 hx hb hml hr hlk hown hmn ht hK hP hD hS hA hl
  have hl : lv_has ls 5 [(0, .ref h), (1, .int a1)] := hl
  refine lv_aload_n hx hb dX11_stop_0 rfl (lv_at hl 0 rfl) ?_
  refine lv_iload_n hx hb dX11_stop_1 rfl (lv_at hl 1 rfl) ?_
  refine lv_iconst (v := 1) hx hb dX11_stop_2 (by decide) ?_
  refine behR (runVP (As := [.int a1, .int 1]) (rest := []) ⟨hx, hb, hml, hown, ht⟩ (sX11_asksRound l G cs h q F A D B hI a1 1 (by decide)) okV_RX11_303 ⟨by decide, by decide⟩ hK hP [0, 1, 2, 3, 4, 5, 6, 7, 8, 9, 10, 11, 12, 13, 14, 15, 16, 17, 18, 19] rfl 0 rfl rfl hl.1 rfl (Nat.le_of_ble_eq_true rfl) dX11_stop_3 ⟨by decide, by decide⟩) hP hS hA (fun r1 H locs hr1 hP hS => ?_)
  have kk2 : (1 : Int32).toInt = 1 := by decide
  have hr1 : (r1.toInt = -2 ∨ r1.toInt = -6 ∨ (r1.toInt = 0 ∧ 0 ≤ a1.toInt ∧ a1.toInt ≤ 3 ∧ 0 ≤ (A 31 a1.toNatClampNeg).toInt ∧ (1 : Int32).toInt = 1)) ∧ (r1.toInt = 0 → RV B a1 (A 31 a1.toNatClampNeg).toInt) := hr1
  obtain ⟨hr1, gr1⟩ := hr1
  refine lv_istore_n (lv' := [(2, .int r1), (0, .ref h), (1, .int a1)]) hx hb dX11_stop_6 rfl hl (by decide) rfl (fun ls hl => ?_)
  refine lv_iload_n hx hb dX11_stop_7 rfl (lv_at hl 0 rfl) ?_
  refine lv_if_ge (tgt := 13) hx hb dX11_stop_8 (by decide) (fun c3 => ?_) (fun c3 => ?_)
  · have zc3 := leK (show (0 : Int32).toInt = 0 by decide) rfl c3
    refine lv_iconst (v := 0) hx hb dX11_stop_13 (by decide) ?_
    refine lv_istore_n (lv' := [(3, .int 0), (2, .int r1), (0, .ref h), (1, .int a1)]) hx hb dX11_stop_14 rfl hl (by decide) rfl (fun ls hl => ?_)
    refine lv_iconst (v := 1) hx hb dX11_stop_15 (by decide) ?_
    refine lv_istore (lv' := [(4, .int 1), (3, .int 0), (2, .int r1), (0, .ref h), (1, .int a1)]) hx hb dX11_stop_16 hl (by decide) rfl (fun ls hl => ?_)
    have B18 : ∀ (n : Nat) (x18_3 : Int32) (x18_4 : Int32) (f17_18 : Int32) (f18_18 : Int32) (a15_18 : (Nat → Int32)) (a16_18 : (Nat → Int32)) (H : Heap) (locs : List Loc) (ls : Array Slot), (61 - x18_4.toInt).toNat < n → (0 : Int) ≤ x18_3.toInt ∧ x18_3.toInt ≤ 60 → (1 : Int) ≤ x18_4.toInt ∧ x18_4.toInt ≤ 61 → (x18_3.toInt ≤ (A 31 a1.toNatClampNeg).toInt) → va_P G vwCl (mS cs h q (upd (upd F 17 f17_18) 18 f18_18) (vA (vA A 15 a15_18) 16 a16_18) D B) H → va_D A0 (mS cs h q (upd (upd F 17 f17_18) 18 f18_18) (vA (vA A 15 a15_18) 16 a16_18) D B) → va_S A0 s.heap H locs → lv_has ls 5 [(0, .ref h), (1, .int a1), (3, .int x18_3), (4, .int x18_4)] → W p l e (rmk 7 0 0) s m args below meth c H locs 0 0 (MQ below ((QDi G (fun (r : Int32) (u : Int32 × Int32 × (Nat → Int32) × (Nat → Int32)) => True) (fun u : Int32 × Int32 × (Nat → Int32) × (Nat → Int32) => (mS cs h q (upd (upd F 17 u.1) 18 u.2.1) (vA (vA A 15 u.2.2.1) 16 u.2.2.2) D B))) A0) args s 0 0 A0) (F0 m 18 ls []) := by
      intro n
      induction n with
      | zero => intro x18_3 x18_4 f17_18 f18_18 a15_18 a16_18 H locs ls hmeas hx18_3 hx18_4 hbm hP hD hS hl; exact absurd hmeas (Nat.not_lt_zero _)
      | succ n ih18 =>
        intro x18_3 x18_4 f17_18 f18_18 a15_18 a16_18 H locs ls hmeas hx18_3 hx18_4 hbm hP hD hS hl
        refine lv_iload hx hb dX11_stop_18 (lv_at hl 3 rfl) ?_
        refine lv_aload_n hx hb dX11_stop_20 rfl (lv_at hl 0 rfl) ?_
        refine getF (v := .ref (q 31)) hx hb ht hown hK hP iTX11 0 31 rfl rfl (by decide) fl_RX11_61 rfl dX11_stop_21 ?_
        refine lv_iload_n hx hb dX11_stop_24 rfl (lv_at hl 1 rfl) ?_
        refine va_iald hx hb hK.1 hP 16 0 rfl rfl (inK rfl (by omega) (by decide)) dX11_stop_25 ?_
        refine lv_topi (fun v14001 ev14001 => ?_)
        have zf14002 : (-1 : Int) ≤ v14001.toInt ∧ v14001.toInt ≤ 60 := by rw [ev14001]; exact (hI.2 31 _)
        have nv14001 : v14001.toInt = (A 31 a1.toNatClampNeg).toInt := congrArg Int32.toInt ev14001
        refine lv_icmp_gt (tgt := 60) hx hb dX11_stop_26 (by decide) (fun c14003 => ?_) (fun c14003 => ?_)
        · have zc14003 := ltK rfl rfl c14003
          refine lv_iload_n hx hb dX11_stop_60 rfl (lv_at hl 2 rfl) ?_
          exact retDi (f17_18, f18_18, a15_18, a16_18) hx hb hr hlk hP hD hS dX11_stop_61 (trivial) (Nat.le_of_ble_eq_true rfl) (Nat.le_of_ble_eq_true rfl)
        · have zc14003 := nltK rfl rfl c14003
          refine lv_aload_n hx hb dX11_stop_29 rfl (lv_at hl 0 rfl) ?_
          refine lv_iload_n hx hb dX11_stop_30 rfl (lv_at hl 1 rfl) ?_
          refine lv_iload hx hb dX11_stop_31 (lv_at hl 3 rfl) ?_
          refine lv_iconst (v := 0) hx hb dX11_stop_33 (by decide) ?_
          refine behDi (wr := []) (runVD (As := [.int a1, .int x18_4, .int 0]) (rest := []) ⟨hx, hb, hml, hown, ht⟩ (sX11_gainOf l G cs h q (upd (upd F 17 f17_18) 18 f18_18) (vA (vA A 15 a15_18) 16 a16_18) D B (IM_arr (k := 16) (IM_arr (k := 15) (IM_put (k := 18) (IM_put (k := 17) hI (i32b _)) (i32b _)) (fun _ => i32b _)) (fun _ => i32b _)) a1 x18_4 0 (by omega) (by omega) (by decide) (show RV B a1 x18_4.toInt from (RVle (gr1 (by omega)) (by first | omega | (rw [ev14001]; exact Int.le_refl _))))) okV_RX11_309 ⟨by decide, by decide⟩ hK hP hD [0, 1, 2, 3, 4, 5, 6, 7, 8, 9, 10, 11, 12, 13, 14, 15, 16, 17, 18, 19] rfl (by decide) rfl 0 rfl rfl hl.1 rfl (Nat.le_of_ble_eq_true rfl) dX11_stop_34 ⟨(Nat.le_of_ble_eq_true rfl), (Nat.le_of_ble_eq_true rfl)⟩) hP hD hS hA [0, 1, 2, 3, 4, 5, 6, 7, 8, 9, 10, 11, 12, 13, 14, 15, 16, 17, 18, 19] [] rfl rfl (by decide) (by decide) (fun r9 u H locs hu hP hD hS => ?_)
          obtain ⟨x14004, x14005, g14006, g14007⟩ := u
          obtain ⟨r14008, rfl⟩ : ∃ z, z = r9 := ⟨_, rfl⟩
          have hr14008 := hu
          have hP : va_P G vwCl (mS cs h q (upd (upd F 17 x14004) 18 x14005) (vA (vA A 15 g14006) 16 g14007) D B) H := hP
          have hD : va_D A0 (mS cs h q (upd (upd F 17 x14004) 18 x14005) (vA (vA A 15 g14006) 16 g14007) D B) := hD
          refine lv_aload_n hx hb dX11_stop_37 rfl (lv_at hl 0 rfl) ?_
          refine lv_iload_n hx hb dX11_stop_38 rfl (lv_at hl 1 rfl) ?_
          refine lv_iload_n hx hb dX11_stop_39 rfl (lv_at hl 2 rfl) ?_
          refine lv_iconst (v := 0) hx hb dX11_stop_40 (by decide) ?_
          refine behDi (wr := []) (runVD (As := [.int a1, .int x18_3, .int 0]) (rest := [.int r14008]) ⟨hx, hb, hml, hown, ht⟩ (sX11_gainOf l G cs h q (upd (upd F 17 x14004) 18 x14005) (vA (vA A 15 g14006) 16 g14007) D B (IM_arr (k := 16) (IM_arr (k := 15) (IM_put (k := 18) (IM_put (k := 17) hI (i32b _)) (i32b _)) (fun _ => i32b _)) (fun _ => i32b _)) a1 x18_3 0 (by omega) (by omega) (by decide) (show RV B a1 x18_3.toInt from (RVle (gr1 (by omega)) (by first | omega | (rw [ev14001]; exact Int.le_refl _))))) okV_RX11_309 ⟨by decide, by decide⟩ hK hP hD [0, 1, 2, 3, 4, 5, 6, 7, 8, 9, 10, 11, 12, 13, 14, 15, 16, 17, 18, 19] rfl (by decide) rfl 0 rfl rfl hl.1 rfl (Nat.le_of_ble_eq_true rfl) dX11_stop_41 ⟨(Nat.le_of_ble_eq_true rfl), (Nat.le_of_ble_eq_true rfl)⟩) hP hD hS hA [0, 1, 2, 3, 4, 5, 6, 7, 8, 9, 10, 11, 12, 13, 14, 15, 16, 17, 18, 19] [] rfl rfl (by decide) (by decide) (fun r9 u H locs hu hP hD hS => ?_)
          obtain ⟨x14009, x14010, g14011, g14012⟩ := u
          obtain ⟨r14013, rfl⟩ : ∃ z, z = r9 := ⟨_, rfl⟩
          have hr14013 := hu
          have hP : va_P G vwCl (mS cs h q (upd (upd F 17 x14009) 18 x14010) (vA (vA A 15 g14011) 16 g14012) D B) H := hP
          have hD : va_D A0 (mS cs h q (upd (upd F 17 x14009) 18 x14010) (vA (vA A 15 g14011) 16 g14012) D B) := hD
          have B53 : ∀ (s53_0 : Int32) (H : Heap) (locs : List Loc) (ls : Array Slot), (0 : Int) ≤ s53_0.toInt ∧ s53_0.toInt ≤ 60 → (s53_0.toInt ≤ (A 31 a1.toNatClampNeg).toInt) → va_P G vwCl (mS cs h q (upd (upd F 17 x14009) 18 x14010) (vA (vA A 15 g14011) 16 g14012) D B) H → va_D A0 (mS cs h q (upd (upd F 17 x14009) 18 x14010) (vA (vA A 15 g14011) 16 g14012) D B) → va_S A0 s.heap H locs → lv_has ls 5 [(0, .ref h), (1, .int a1), (4, .int x18_4)] → W p l e (rmk 7 0 0) s m args below meth c H locs 0 0 (MQ below ((QDi G (fun (r : Int32) (u : Int32 × Int32 × (Nat → Int32) × (Nat → Int32)) => True) (fun u : Int32 × Int32 × (Nat → Int32) × (Nat → Int32) => (mS cs h q (upd (upd F 17 u.1) 18 u.2.1) (vA (vA A 15 u.2.2.1) 16 u.2.2.2) D B))) A0) args s 0 0 A0) (F0 m 53 ls [.int s53_0]) := by
            intro s53_0 H locs ls hs53_0 hbs hP hD hS hl
            refine lv_istore_n (lv' := [(3, .int s53_0), (0, .ref h), (1, .int a1), (4, .int x18_4)]) hx hb dX11_stop_53 rfl hl (by decide) rfl (fun ls hl => ?_)
            obtain ⟨v34001, ev34001⟩ : ∃ z : Int32, z = x18_4 + 1 := ⟨_, rfl⟩
            have tv34001 : v34001.toInt = x18_4.toInt + 1 := by rw [ev34001]; exact addT rfl (by decide) (by omega)
            refine lv_iinc (v := v34001) (lv' := [(4, .int v34001), (3, .int s53_0), (0, .ref h), (1, .int a1)]) hx hb dX11_stop_54 hl (k := 3) rfl (by rw [ev34001]; rfl) (by decide) rfl (fun ls hl => ?_)
            refine lv_goto (tgt := 18) hx hb dX11_stop_57 (by decide) ?_
            exact ih18 s53_0 v34001 x14009 x14010 g14011 g14012 H locs ls (by omega) (by omega) (by omega) (by have k0 : (0 : Int32).toInt = 0 := (by decide); have k1 : (1 : Int32).toInt = 1 := (by decide); omega) hP hD hS (lv_sub hl [2, 3, 1, 0] rfl)
          refine lv_icmp_le (tgt := 52) hx hb dX11_stop_44 (by decide) (fun c14014 => ?_) (fun c14014 => ?_)
          · have zc14014 := leK rfl rfl c14014
            refine lv_iload_n hx hb dX11_stop_52 rfl (lv_at hl 2 rfl) ?_
            exact B53 x18_3 H locs ls (by omega) (by have k0 : (0 : Int32).toInt = 0 := (by decide); have k1 : (1 : Int32).toInt = 1 := (by decide); omega) hP hD hS (lv_sub hl [0, 1, 3] rfl)
          · have zc14014 := nleK rfl rfl c14014
            refine lv_iload hx hb dX11_stop_47 (lv_at hl 3 rfl) ?_
            refine lv_goto (tgt := 53) hx hb dX11_stop_49 (by decide) ?_
            exact B53 x18_4 H locs ls (by omega) (by have k0 : (0 : Int32).toInt = 0 := (by decide); have k1 : (1 : Int32).toInt = 1 := (by decide); omega) hP hD hS (lv_sub hl [0, 1, 3] rfl)
    exact B18 _ 0 1 (F 17) (F 18) (A 15) (A 16) H locs ls (Nat.lt_succ_self _) (by decide) (by decide) (by have k0 : (0 : Int32).toInt = 0 := (by decide); have k1 : (1 : Int32).toInt = 1 := (by decide); omega) hP hD hS (lv_sub hl [3, 4, 1, 0] rfl)
  · have zc3 := nleK (show (0 : Int32).toInt = 0 by decide) rfl c3
    refine lv_iload_n hx hb dX11_stop_11 rfl (lv_at hl 0 rfl) ?_
    exact retDi ((F 17), (F 18), (A 15), (A 16)) hx hb hr hlk hP hD hS dX11_stop_12 (trivial) (Nat.le_of_ble_eq_true rfl) (Nat.le_of_ble_eq_true rfl)

