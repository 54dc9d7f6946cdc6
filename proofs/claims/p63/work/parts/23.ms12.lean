set_option maxRecDepth 100000 in
set_option maxHeartbeats 8000000 in
theorem sX11_asksHabit (l : Launch) (G : va_G) (cs : Nat → ClassId) (h : Nat) (q : Nat → Nat) (F : Nat → Int32) (A : Nat → Nat → Int32) (D : Int64) (B : Nat → Nat → Int64) (hI : IM F A) (a1 : Int32) (a2 : Int32) (ha2 : (0 : Int) ≤ a2.toInt ∧ a2.toInt ≤ 1) : SafeR l yX11_asksHabit cX11_asksHabit 4 (some .int) 2 G (TY cs) [.ref h, .int a1, .int a2] (mS cs h q F A D B) (fun r : Int32 => (r.toInt = -2 ∨ r.toInt = -6 ∨ (r.toInt = 0 ∧ 0 ≤ a1.toInt ∧ a1.toInt ≤ 3 ∧ 0 ≤ (A 31 a1.toNatClampNeg).toInt ∧ a2.toInt = 1)) ∧ (r.toInt = 0 → RV B a1 (A 31 a1.toNatClampNeg).toInt)) := by
  refine mkP (Qc := QRi (fun r : Int32 => (r.toInt = -2 ∨ r.toInt = -6 ∨ (r.toInt = 0 ∧ 0 ≤ a1.toInt ∧ a1.toInt ≤ 3 ∧ 0 ≤ (A 31 a1.toNatClampNeg).toInt ∧ a2.toInt = 1)) ∧ (r.toInt = 0 → RV B a1 (A 31 a1.toNatClampNeg).toInt))) (by decide) (by simp [lg_sl, Value.category]) ?_
  intro p e s m args below meth c ls hx hb hml hr hlk hown ht hK hP hS hl
  have hl : lv_has ls 4 [(0, .ref h), (1, .int a1), (2, .int a2)] := hl
  refine lv_iload_n hx hb dX11_asksHabit_0 rfl (lv_at hl 1 rfl) ?_
  refine behR (runSP (As := [.int a1]) (rest := []) ⟨hx, hb, hml, hown, ht⟩ (sX11_isSlot l G cs a1 ) okS_RX11_290 ⟨by decide, by decide⟩ hK hP [] rfl hl.1 rfl (Nat.le_of_ble_eq_true rfl) dX11_asksHabit_1 ⟨by decide, by decide⟩) hP hS (fun _ h => h) (fun r1 H locs hr1 hP hS => ?_)
  have hr1 : (r1.toInt = 1 ∧ 0 ≤ a1.toInt ∧ a1.toInt ≤ 3) ∨ r1.toInt = 0 := hr1
  refine lv_if_eq (tgt := 18) hx hb dX11_asksHabit_4 (by decide) (fun c2 => ?_) (fun c2 => ?_)
  · have zc2 := eqK rfl (show (0 : Int32).toInt = 0 by decide) c2
    refine lv_bipush (v := (-2)) hx hb dX11_asksHabit_18 (by decide) ?_
    exact retRi hx hb hr hlk hS dX11_asksHabit_20 (⟨by have kk : (-2 : Int32).toInt = -2 := (by decide); omega, fun q9 => absurd q9 (by have kk : (-2 : Int32).toInt = -2 := (by decide); omega)⟩)
  · have zc2 := neK rfl (show (0 : Int32).toInt = 0 by decide) c2
    refine lv_aload_n hx hb dX11_asksHabit_7 rfl (lv_at hl 0 rfl) ?_
    refine behR (runVP (As := []) (rest := []) ⟨hx, hb, hml, hown, ht⟩ (sX11_isHouse l G cs h q F A D B hI  ) okV_RX11_83 ⟨by decide, by decide⟩ hK hP [0, 1, 2, 3, 4, 5, 6, 7, 8, 9, 10, 11, 12, 13, 14, 15, 16, 17, 18, 19] rfl 0 rfl rfl hl.1 rfl (Nat.le_of_ble_eq_true rfl) dX11_asksHabit_8 ⟨by decide, by decide⟩) hP hS (fun _ h => h) (fun r3 H locs hr3 hP hS => ?_)
    have hr3 : (0 : Int) ≤ r3.toInt ∧ r3.toInt ≤ 1 := hr3
    refine lv_if_eq (tgt := 18) hx hb dX11_asksHabit_11 (by decide) (fun c4 => ?_) (fun c4 => ?_)
    · have zc4 := eqK rfl (show (0 : Int32).toInt = 0 by decide) c4
      refine lv_bipush (v := (-2)) hx hb dX11_asksHabit_18 (by decide) ?_
      exact retRi hx hb hr hlk hS dX11_asksHabit_20 (⟨by have kk : (-2 : Int32).toInt = -2 := (by decide); omega, fun q9 => absurd q9 (by have kk : (-2 : Int32).toInt = -2 := (by decide); omega)⟩)
    · have zc4 := neK rfl (show (0 : Int32).toInt = 0 by decide) c4
      refine lv_iload_n hx hb dX11_asksHabit_14 rfl (lv_at hl 2 rfl) ?_
      refine lv_if_ne (tgt := 21) hx hb dX11_asksHabit_15 (by decide) (fun c5 => ?_) (fun c5 => ?_)
      · have zc5 := neK rfl (show (0 : Int32).toInt = 0 by decide) c5
        refine lv_aload_n hx hb dX11_asksHabit_21 rfl (lv_at hl 0 rfl) ?_
        refine getF (v := .ref (q 31)) hx hb ht hown hK hP iTX11 0 31 rfl rfl (by decide) fl_RX11_61 rfl dX11_asksHabit_22 ?_
        refine lv_iload_n hx hb dX11_asksHabit_25 rfl (lv_at hl 1 rfl) ?_
        refine va_iald hx hb hK.1 hP 16 0 rfl rfl (inK rfl (by omega) (by decide)) dX11_asksHabit_26 ?_
        refine lv_topi (fun v6 ev6 => ?_)
        have zf7 : (-1 : Int) ≤ v6.toInt ∧ v6.toInt ≤ 60 := by rw [ev6]; exact (hI.2 31 _)
        have nv6 : v6.toInt = (A 31 a1.toNatClampNeg).toInt := congrArg Int32.toInt ev6
        refine lv_iconst (v := (-1)) hx hb dX11_asksHabit_27 (by decide) ?_
        refine lv_icmp_ne (tgt := 34) hx hb dX11_asksHabit_28 (by decide) (fun c8 => ?_) (fun c8 => ?_)
        · have zc8 := neK rfl (show (-1 : Int32).toInt = (-1) by decide) c8
          refine lv_iconst (v := 0) hx hb dX11_asksHabit_34 (by decide) ?_
          refine lv_istore_n (lv' := [(3, .int 0), (0, .ref h), (1, .int a1), (2, .int a2)]) hx hb dX11_asksHabit_35 rfl hl (by decide) rfl (fun ls hl => ?_)
          have B36 : ∀ (n : Nat) (x36_3 : Int32) (H : Heap) (locs : List Loc) (ls : Array Slot), (60 - x36_3.toInt).toNat < n → (0 : Int) ≤ x36_3.toInt ∧ x36_3.toInt ≤ 60 → (RV B a1 x36_3.toInt) → va_P G vwCl (mS cs h q F A D B) H → va_S (fun q => s.heap.size ≤ q) s.heap H locs → lv_has ls 4 [(0, .ref h), (1, .int a1), (3, .int x36_3)] → W p l e (rmk 2 0 0) s m args below meth c H locs 0 0 (MQ below (QRi (fun r : Int32 => (r.toInt = -2 ∨ r.toInt = -6 ∨ (r.toInt = 0 ∧ 0 ≤ a1.toInt ∧ a1.toInt ≤ 3 ∧ 0 ≤ (A 31 a1.toNatClampNeg).toInt ∧ a2.toInt = 1)) ∧ (r.toInt = 0 → RV B a1 (A 31 a1.toNatClampNeg).toInt)) s.heap.size) args s 0 0 (fun q => s.heap.size ≤ q)) (F0 m 36 ls []) := by
            intro n
            induction n with
            | zero => intro x36_3 H locs ls hmeas hx36_3 hinv hP hS hl; exact absurd hmeas (Nat.not_lt_zero _)
            | succ n ih36 =>
              intro x36_3 H locs ls hmeas hx36_3 hinv hP hS hl
              refine lv_iload_n hx hb dX11_asksHabit_36 rfl (lv_at hl 2 rfl) ?_
              refine lv_aload_n hx hb dX11_asksHabit_37 rfl (lv_at hl 0 rfl) ?_
              refine getF (v := .ref (q 31)) hx hb ht hown hK hP iTX11 0 31 rfl rfl (by decide) fl_RX11_61 rfl dX11_asksHabit_38 ?_
              refine lv_iload_n hx hb dX11_asksHabit_41 rfl (lv_at hl 1 rfl) ?_
              refine va_iald hx hb hK.1 hP 16 0 rfl rfl (inK rfl (by omega) (by decide)) dX11_asksHabit_42 ?_
              refine lv_topi (fun v19001 ev19001 => ?_)
              have zf19002 : (-1 : Int) ≤ v19001.toInt ∧ v19001.toInt ≤ 60 := by rw [ev19001]; exact (hI.2 31 _)
              have nv19001 : v19001.toInt = (A 31 a1.toNatClampNeg).toInt := congrArg Int32.toInt ev19001
              refine lv_icmp_ge (tgt := 68) hx hb dX11_asksHabit_43 (by decide) (fun c19003 => ?_) (fun c19003 => ?_)
              · have zc19003 := leK rfl rfl c19003
                refine lv_iconst (v := 0) hx hb dX11_asksHabit_68 (by decide) ?_
                exact retRi hx hb hr hlk hS dX11_asksHabit_69 (⟨by have kk : (0 : Int32).toInt = 0 := (by decide); rw [← ev19001]; omega, fun _ => RVle hinv (by rw [← ev19001]; omega)⟩)
              · have zc19003 := nleK rfl rfl c19003
                refine lv_aload_n hx hb dX11_asksHabit_46 rfl (lv_at hl 0 rfl) ?_
                refine lv_aload_n hx hb dX11_asksHabit_47 rfl (lv_at hl 0 rfl) ?_
                refine lv_iload_n hx hb dX11_asksHabit_48 rfl (lv_at hl 1 rfl) ?_
                refine lv_iload_n hx hb dX11_asksHabit_49 rfl (lv_at hl 2 rfl) ?_
                refine behRL (runVP (As := [.int a1, .int x36_3]) (rest := [.ref h]) ⟨hx, hb, hml, hown, ht⟩ (sX11_numberAt l G cs h q F A D B hI a1 x36_3 (by omega) (by omega)) okV_RX11_286 ⟨by decide, by decide⟩ hK hP [0, 1, 2, 3, 4, 5, 6, 7, 8, 9, 10, 11, 12, 13, 14, 15, 16, 17, 18, 19] rfl 0 rfl rfl hl.1 rfl (Nat.le_of_ble_eq_true rfl) dX11_asksHabit_50 ⟨by decide, by decide⟩) hP hS (fun _ h => h) (fun r19004 H locs hr19004 hP hS => ?_)
                have hr19004 : r19004 = B 33 (60 * a1.toNatClampNeg + x36_3.toNatClampNeg) := hr19004
                refine behR (runVP (As := [.long r19004]) (rest := []) ⟨hx, hb, hml, hown, ht⟩ (sX11_isRoom l G cs h q F A D B hI r19004 ) okV_RX11_89 ⟨by decide, by decide⟩ hK hP [0, 1, 2, 3, 4, 5, 6, 7, 8, 9, 10, 11, 12, 13, 14, 15, 16, 17, 18, 19] rfl 0 rfl rfl hl.1 rfl (Nat.le_of_ble_eq_true rfl) dX11_asksHabit_53 ⟨by decide, by decide⟩) hP hS (fun _ h => h) (fun r19005 H locs hr19005 hP hS => ?_)
                have hr19005 : (r19005.toInt = 1 ∧ 0 ≤ r19004.toInt ∧ r19004.toInt < (A 1 4).toInt ∧ r19004.toInt ≤ 6 ∧ (A 1 4).toInt ≤ 7) ∨ r19005.toInt = 0 := hr19005
                refine lv_if_ne (tgt := 62) hx hb dX11_asksHabit_56 (by decide) (fun c19006 => ?_) (fun c19006 => ?_)
                · have zc19006 := neK rfl (show (0 : Int32).toInt = 0 by decide) c19006
                  obtain ⟨v19007, ev19007⟩ : ∃ z : Int32, z = x36_3 + 1 := ⟨_, rfl⟩
                  have tv19007 : v19007.toInt = x36_3.toInt + 1 := by rw [ev19007]; exact addT rfl (by decide) (by omega)
                  refine lv_iinc (v := v19007) (lv' := [(3, .int v19007), (0, .ref h), (1, .int a1)]) hx hb dX11_asksHabit_62 hl (k := 2) rfl (by rw [ev19007]; rfl) (by decide) rfl (fun ls hl => ?_)
                  refine lv_goto (tgt := 36) hx hb dX11_asksHabit_65 (by decide) ?_
                  exact ih36 v19007 H locs ls (by omega) (by omega) (RVs hinv tv19007 (clK rfl (by omega)) (by rw [← hr19004]; omega)) hP hS (lv_sub hl [1, 2, 0] rfl)
                · have zc19006 := eqK rfl (show (0 : Int32).toInt = 0 by decide) c19006
                  refine lv_bipush (v := (-2)) hx hb dX11_asksHabit_59 (by decide) ?_
                  exact retRi hx hb hr hlk hS dX11_asksHabit_61 (⟨by have kk : (-2 : Int32).toInt = -2 := (by decide); omega, fun q9 => absurd q9 (by have kk : (-2 : Int32).toInt = -2 := (by decide); omega)⟩)
          exact B36 _ 0 H locs ls (Nat.lt_succ_self _) (by decide) (RV0 (by decide)) hP hS (lv_sub hl [1, 2, 0] rfl)
        · have zc8 := eqK rfl (show (-1 : Int32).toInt = (-1) by decide) c8
          refine lv_bipush (v := (-6)) hx hb dX11_asksHabit_31 (by decide) ?_
          exact retRi hx hb hr hlk hS dX11_asksHabit_33 (⟨by have kk : (-6 : Int32).toInt = -6 := (by decide); omega, fun q9 => absurd q9 (by have kk : (-6 : Int32).toInt = -6 := (by decide); omega)⟩)
      · have zc5 := eqK rfl (show (0 : Int32).toInt = 0 by decide) c5
        refine lv_bipush (v := (-2)) hx hb dX11_asksHabit_18 (by decide) ?_
        exact retRi hx hb hr hlk hS dX11_asksHabit_20 (⟨by have kk : (-2 : Int32).toInt = -2 := (by decide); omega, fun q9 => absurd q9 (by have kk : (-2 : Int32).toInt = -2 := (by decide); omega)⟩)

set_option maxRecDepth 100000 in
set_option maxHeartbeats 8000000 in
theorem sX11_habit (l : Launch) (G : va_G) (cs : Nat → ClassId) (h : Nat) (q : Nat → Nat) (F : Nat → Int32) (A : Nat → Nat → Int32) (D : Int64) (B : Nat → Nat → Int64) (hI : IM F A) (a1 : Int32) : SafeR l yX11_habit cX11_habit 3 (some .int) 3 G (TY cs) [.ref h, .int a1] (mS cs h q F A D B) (fun r : Int32 => True) := by
  refine mkP (Qc := QRi (fun r : Int32 => True)) (by decide) (by simp [lg_sl, Value.category]) ?_
  intro p e s m args below meth c ls hx hb hml hr hlk hown ht hK hP hS hl
  have hl : lv_has ls 3 [(0, .ref h), (1, .int a1)] := hl
  refine lv_aload_n hx hb dX11_habit_0 rfl (lv_at hl 0 rfl) ?_
  refine lv_iload_n hx hb dX11_habit_1 rfl (lv_at hl 1 rfl) ?_
  refine lv_iconst (v := 1) hx hb dX11_habit_2 (by decide) ?_
  refine behR (runVP (As := [.int a1, .int 1]) (rest := []) ⟨hx, hb, hml, hown, ht⟩ (sX11_asksHabit l G cs h q F A D B hI a1 1 (by decide)) okV_RX11_406 ⟨by decide, by decide⟩ hK hP [0, 1, 2, 3, 4, 5, 6, 7, 8, 9, 10, 11, 12, 13, 14, 15, 16, 17, 18, 19] rfl 0 rfl rfl hl.1 rfl (Nat.le_of_ble_eq_true rfl) dX11_habit_3 ⟨by decide, by decide⟩) hP hS (fun _ h => h) (fun r1 H locs hr1 hP hS => ?_)
  have kk2 : (1 : Int32).toInt = 1 := by decide
  have hr1 : (r1.toInt = -2 ∨ r1.toInt = -6 ∨ (r1.toInt = 0 ∧ 0 ≤ a1.toInt ∧ a1.toInt ≤ 3 ∧ 0 ≤ (A 31 a1.toNatClampNeg).toInt ∧ (1 : Int32).toInt = 1)) ∧ (r1.toInt = 0 → RV B a1 (A 31 a1.toNatClampNeg).toInt) := hr1
  obtain ⟨hr1, gr1⟩ := hr1
  refine lv_istore_n (lv' := [(2, .int r1), (0, .ref h), (1, .int a1)]) hx hb dX11_habit_6 rfl hl (by decide) rfl (fun ls hl => ?_)
  refine lv_iload_n hx hb dX11_habit_7 rfl (lv_at hl 0 rfl) ?_
  refine lv_if_ge (tgt := 15) hx hb dX11_habit_8 (by decide) (fun c3 => ?_) (fun c3 => ?_)
  · have zc3 := leK (show (0 : Int32).toInt = 0 by decide) rfl c3
    refine lv_aload_n hx hb dX11_habit_15 rfl (lv_at hl 1 rfl) ?_
    refine lv_iload_n hx hb dX11_habit_16 rfl (lv_at hl 2 rfl) ?_
    refine lv_iconst (v := (-1)) hx hb dX11_habit_17 (by decide) ?_
    refine behR (runVP (As := [.int a1, .int (-1)]) (rest := []) ⟨hx, hb, hml, hown, ht⟩ (sX11_oftenest l G cs h q F A D B hI a1 (-1) (by omega)) okV_RX11_409 ⟨by decide, by decide⟩ hK hP [0, 1, 2, 3, 4, 5, 6, 7, 8, 9, 10, 11, 12, 13, 14, 15, 16, 17, 18, 19] rfl 0 rfl rfl hl.1 rfl (Nat.le_of_ble_eq_true rfl) dX11_habit_18 ⟨by decide, by decide⟩) hP hS (fun _ h => h) (fun r4 H locs hr4 hP hS => ?_)
    exact retRi hx hb hr hlk hS dX11_habit_21 (trivial)
  · have zc3 := nleK (show (0 : Int32).toInt = 0 by decide) rfl c3
    refine lv_iload_n hx hb dX11_habit_11 rfl (lv_at hl 0 rfl) ?_
    refine lv_goto (tgt := 21) hx hb dX11_habit_12 (by decide) ?_
    exact retRi hx hb hr hlk hS dX11_habit_21 (trivial)

set_option maxRecDepth 100000 in
set_option maxHeartbeats 8000000 in
theorem sX11_follows (l : Launch) (G : va_G) (cs : Nat → ClassId) (h : Nat) (q : Nat → Nat) (F : Nat → Int32) (A : Nat → Nat → Int32) (D : Int64) (B : Nat → Nat → Int64) (hI : IM F A) (a1 : Int32) (a2 : Int32) : SafeR l yX11_follows cX11_follows 4 (some .int) 3 G (TY cs) [.ref h, .int a1, .int a2] (mS cs h q F A D B) (fun r : Int32 => True) := by
  refine mkP (Qc := QRi (fun r : Int32 => True)) (by decide) (by simp [lg_sl, Value.category]) ?_
  intro p e s m args below meth c ls hx hb hml hr hlk hown ht hK hP hS hl
  have hl : lv_has ls 4 [(0, .ref h), (1, .int a1), (2, .int a2)] := hl
  refine lv_aload_n hx hb dX11_follows_0 rfl (lv_at hl 0 rfl) ?_
  refine lv_iload_n hx hb dX11_follows_1 rfl (lv_at hl 1 rfl) ?_
  refine lv_aload_n hx hb dX11_follows_2 rfl (lv_at hl 0 rfl) ?_
  refine lv_iload_n hx hb dX11_follows_3 rfl (lv_at hl 2 rfl) ?_
  refine lv_i2l hx hb dX11_follows_4 rfl ?_
  have bb1 := i32b a2
  refine lv_topl (fun v2 ev2 => ?_)
  have tv2 : v2.toInt = a2.toInt := by rw [ev2]; exact Int32.toInt_toInt64 _
  refine behR (runVP (As := [.long v2]) (rest := [.int a1, .ref h]) ⟨hx, hb, hml, hown, ht⟩ (sX11_isRoom l G cs h q F A D B hI v2 ) okV_RX11_89 ⟨by decide, by decide⟩ hK hP [0, 1, 2, 3, 4, 5, 6, 7, 8, 9, 10, 11, 12, 13, 14, 15, 16, 17, 18, 19] rfl 0 rfl rfl hl.1 rfl (Nat.le_of_ble_eq_true rfl) dX11_follows_5 ⟨by decide, by decide⟩) hP hS (fun _ h => h) (fun r3 H locs hr3 hP hS => ?_)
  have hr3 : (r3.toInt = 1 ∧ 0 ≤ v2.toInt ∧ v2.toInt < (A 1 4).toInt ∧ v2.toInt ≤ 6 ∧ (A 1 4).toInt ≤ 7) ∨ r3.toInt = 0 := hr3
  refine behR (runVP (As := [.int a1, .int r3]) (rest := []) ⟨hx, hb, hml, hown, ht⟩ (sX11_asksHabit l G cs h q F A D B hI a1 r3 (by omega)) okV_RX11_406 ⟨by decide, by decide⟩ hK hP [0, 1, 2, 3, 4, 5, 6, 7, 8, 9, 10, 11, 12, 13, 14, 15, 16, 17, 18, 19] rfl 0 rfl rfl hl.1 rfl (Nat.le_of_ble_eq_true rfl) dX11_follows_8 ⟨by decide, by decide⟩) hP hS (fun _ h => h) (fun r4 H locs hr4 hP hS => ?_)
  have hr4 : (r4.toInt = -2 ∨ r4.toInt = -6 ∨ (r4.toInt = 0 ∧ 0 ≤ a1.toInt ∧ a1.toInt ≤ 3 ∧ 0 ≤ (A 31 a1.toNatClampNeg).toInt ∧ r3.toInt = 1)) ∧ (r4.toInt = 0 → RV B a1 (A 31 a1.toNatClampNeg).toInt) := hr4
  obtain ⟨hr4, gr4⟩ := hr4
  refine lv_istore_n (lv' := [(3, .int r4), (0, .ref h), (1, .int a1), (2, .int a2)]) hx hb dX11_follows_11 rfl hl (by decide) rfl (fun ls hl => ?_)
  refine lv_iload_n hx hb dX11_follows_12 rfl (lv_at hl 0 rfl) ?_
  refine lv_if_ge (tgt := 20) hx hb dX11_follows_13 (by decide) (fun c5 => ?_) (fun c5 => ?_)
  · have zc5 := leK (show (0 : Int32).toInt = 0 by decide) rfl c5
    refine lv_aload_n hx hb dX11_follows_20 rfl (lv_at hl 1 rfl) ?_
    refine lv_iload_n hx hb dX11_follows_21 rfl (lv_at hl 2 rfl) ?_
    refine lv_iload_n hx hb dX11_follows_22 rfl (lv_at hl 3 rfl) ?_
    refine behR (runVP (As := [.int a1, .int a2]) (rest := []) ⟨hx, hb, hml, hown, ht⟩ (sX11_oftenest l G cs h q F A D B hI a1 a2 (by omega)) okV_RX11_409 ⟨by decide, by decide⟩ hK hP [0, 1, 2, 3, 4, 5, 6, 7, 8, 9, 10, 11, 12, 13, 14, 15, 16, 17, 18, 19] rfl 0 rfl rfl hl.1 rfl (Nat.le_of_ble_eq_true rfl) dX11_follows_23 ⟨by decide, by decide⟩) hP hS (fun _ h => h) (fun r6 H locs hr6 hP hS => ?_)
    exact retRi hx hb hr hlk hS dX11_follows_26 (trivial)
  · have zc5 := nleK (show (0 : Int32).toInt = 0 by decide) rfl c5
    refine lv_iload_n hx hb dX11_follows_16 rfl (lv_at hl 0 rfl) ?_
    refine lv_goto (tgt := 26) hx hb dX11_follows_17 (by decide) ?_
    exact retRi hx hb hr hlk hS dX11_follows_26 (trivial)

set_option maxRecDepth 100000 in
set_option maxHeartbeats 8000000 in
theorem sX11_period (l : Launch) (G : va_G) (cs : Nat → ClassId) (h : Nat) (q : Nat → Nat) (F : Nat → Int32) (A : Nat → Nat → Int32) (D : Int64) (B : Nat → Nat → Int64) (hI : IM F A) (a1 : Int32) : SafeR l yX11_period cX11_period 6 (some .int) 3 G (TY cs) [.ref h, .int a1] (mS cs h q F A D B) (fun r : Int32 => True) := by
  refine mkP (Qc := QRi (fun r : Int32 => True)) (by decide) (by simp [lg_sl, Value.category]) ?_
  intro p e s m args below meth c ls hx hb hml hr hlk hown ht hK hP hS hl
  have hl : lv_has ls 6 [(0, .ref h), (1, .int a1)] := hl
  refine lv_aload_n hx hb dX11_period_0 rfl (lv_at hl 0 rfl) ?_
  refine lv_iload_n hx hb dX11_period_1 rfl (lv_at hl 1 rfl) ?_
  refine lv_iconst (v := 1) hx hb dX11_period_2 (by decide) ?_
  refine behR (runVP (As := [.int a1, .int 1]) (rest := []) ⟨hx, hb, hml, hown, ht⟩ (sX11_asksHabit l G cs h q F A D B hI a1 1 (by decide)) okV_RX11_406 ⟨by decide, by decide⟩ hK hP [0, 1, 2, 3, 4, 5, 6, 7, 8, 9, 10, 11, 12, 13, 14, 15, 16, 17, 18, 19] rfl 0 rfl rfl hl.1 rfl (Nat.le_of_ble_eq_true rfl) dX11_period_3 ⟨by decide, by decide⟩) hP hS (fun _ h => h) (fun r1 H locs hr1 hP hS => ?_)
  have kk2 : (1 : Int32).toInt = 1 := by decide
  have hr1 : (r1.toInt = -2 ∨ r1.toInt = -6 ∨ (r1.toInt = 0 ∧ 0 ≤ a1.toInt ∧ a1.toInt ≤ 3 ∧ 0 ≤ (A 31 a1.toNatClampNeg).toInt ∧ (1 : Int32).toInt = 1)) ∧ (r1.toInt = 0 → RV B a1 (A 31 a1.toNatClampNeg).toInt) := hr1
  obtain ⟨hr1, gr1⟩ := hr1
  refine lv_istore_n (lv' := [(2, .int r1), (0, .ref h), (1, .int a1)]) hx hb dX11_period_6 rfl hl (by decide) rfl (fun ls hl => ?_)
  refine lv_iload_n hx hb dX11_period_7 rfl (lv_at hl 0 rfl) ?_
  refine lv_if_ge (tgt := 13) hx hb dX11_period_8 (by decide) (fun c3 => ?_) (fun c3 => ?_)
  · have zc3 := leK (show (0 : Int32).toInt = 0 by decide) rfl c3
    refine lv_iconst (v := 1) hx hb dX11_period_13 (by decide) ?_
    refine lv_istore_n (lv' := [(3, .int 1), (2, .int r1), (0, .ref h), (1, .int a1)]) hx hb dX11_period_14 rfl hl (by decide) rfl (fun ls hl => ?_)
    have B15 : ∀ (n : Nat) (x15_3 : Int32) (H : Heap) (locs : List Loc) (ls : Array Slot), (61 - x15_3.toInt).toNat < n → (1 : Int) ≤ x15_3.toInt ∧ x15_3.toInt ≤ 61 → va_P G vwCl (mS cs h q F A D B) H → va_S (fun q => s.heap.size ≤ q) s.heap H locs → lv_has ls 6 [(0, .ref h), (1, .int a1), (3, .int x15_3)] → W p l e (rmk 3 0 0) s m args below meth c H locs 0 0 (MQ below (QRi (fun r : Int32 => True) s.heap.size) args s 0 0 (fun q => s.heap.size ≤ q)) (F0 m 15 ls []) := by
      intro n
      induction n with
      | zero => intro x15_3 H locs ls hmeas hx15_3 hP hS hl; exact absurd hmeas (Nat.not_lt_zero _)
      | succ n ih15 =>
        intro x15_3 H locs ls hmeas hx15_3 hP hS hl
        refine lv_iload_n hx hb dX11_period_15 rfl (lv_at hl 2 rfl) ?_
        refine lv_aload_n hx hb dX11_period_16 rfl (lv_at hl 0 rfl) ?_
        refine getF (v := .ref (q 31)) hx hb ht hown hK hP iTX11 0 31 rfl rfl (by decide) fl_RX11_61 rfl dX11_period_17 ?_
        refine lv_iload_n hx hb dX11_period_20 rfl (lv_at hl 1 rfl) ?_
        refine va_iald hx hb hK.1 hP 16 0 rfl rfl (inK rfl (by omega) (by decide)) dX11_period_21 ?_
        refine lv_topi (fun v12001 ev12001 => ?_)
        have zf12002 : (-1 : Int) ≤ v12001.toInt ∧ v12001.toInt ≤ 60 := by rw [ev12001]; exact (hI.2 31 _)
        have nv12001 : v12001.toInt = (A 31 a1.toNatClampNeg).toInt := congrArg Int32.toInt ev12001
        refine lv_icmp_gt (tgt := 92) hx hb dX11_period_22 (by decide) (fun c12003 => ?_) (fun c12003 => ?_)
        · have zc12003 := ltK rfl rfl c12003
          refine lv_iconst (v := (-1)) hx hb dX11_period_92 (by decide) ?_
          exact retRi hx hb hr hlk hS dX11_period_93 (trivial)
        · have zc12003 := nltK rfl rfl c12003
          refine lv_iconst (v := 1) hx hb dX11_period_25 (by decide) ?_
          refine lv_istore (lv' := [(4, .int 1), (0, .ref h), (1, .int a1), (3, .int x15_3)]) hx hb dX11_period_26 hl (by decide) rfl (fun ls hl => ?_)
          refine lv_iload_n hx hb dX11_period_28 rfl (lv_at hl 3 rfl) ?_
          refine lv_istore (lv' := [(5, .int x15_3), (4, .int 1), (0, .ref h), (1, .int a1), (3, .int x15_3)]) hx hb dX11_period_29 hl (by decide) rfl (fun ls hl => ?_)
          have B31 : ∀ (n : Nat) (x31_4 : Int32) (x31_5 : Int32) (H : Heap) (locs : List Loc) (ls : Array Slot), (60 - x31_5.toInt).toNat < n → (0 : Int) ≤ x31_4.toInt ∧ x31_4.toInt ≤ 1 → (1 : Int) ≤ x31_5.toInt ∧ x31_5.toInt ≤ 60 → (x15_3.toInt ≤ x31_5.toInt) → va_P G vwCl (mS cs h q F A D B) H → va_S (fun q => s.heap.size ≤ q) s.heap H locs → lv_has ls 6 [(0, .ref h), (1, .int a1), (3, .int x15_3), (4, .int x31_4), (5, .int x31_5)] → W p l e (rmk 3 0 0) s m args below meth c H locs 0 0 (MQ below (QRi (fun r : Int32 => True) s.heap.size) args s 0 0 (fun q => s.heap.size ≤ q)) (F0 m 31 ls []) := by
            intro n
            induction n with
            | zero => intro x31_4 x31_5 H locs ls hmeas hx31_4 hx31_5 hip hP hS hl; exact absurd hmeas (Nat.not_lt_zero _)
            | succ n ih31 =>
              intro x31_4 x31_5 H locs ls hmeas hx31_4 hx31_5 hip hP hS hl
              refine lv_iload hx hb dX11_period_31 (lv_at hl 4 rfl) ?_
              refine lv_aload_n hx hb dX11_period_33 rfl (lv_at hl 0 rfl) ?_
              refine getF (v := .ref (q 31)) hx hb ht hown hK hP iTX11 0 31 rfl rfl (by decide) fl_RX11_61 rfl dX11_period_34 ?_
              refine lv_iload_n hx hb dX11_period_37 rfl (lv_at hl 1 rfl) ?_
              refine va_iald hx hb hK.1 hP 16 0 rfl rfl (inK rfl (by omega) (by decide)) dX11_period_38 ?_
              refine lv_topi (fun v22001 ev22001 => ?_)
              have zf22002 : (-1 : Int) ≤ v22001.toInt ∧ v22001.toInt ≤ 60 := by rw [ev22001]; exact (hI.2 31 _)
              have nv22001 : v22001.toInt = (A 31 a1.toNatClampNeg).toInt := congrArg Int32.toInt ev22001
              have B79 : ∀ (H : Heap) (locs : List Loc) (ls : Array Slot), va_P G vwCl (mS cs h q F A D B) H → va_S (fun q => s.heap.size ≤ q) s.heap H locs → lv_has ls 6 [(0, .ref h), (1, .int a1), (3, .int x15_3), (4, .int x31_4)] → W p l e (rmk 3 0 0) s m args below meth c H locs 0 0 (MQ below (QRi (fun r : Int32 => True) s.heap.size) args s 0 0 (fun q => s.heap.size ≤ q)) (F0 m 79 ls []) := by
                intro H locs ls hP hS hl
                refine lv_iload hx hb dX11_period_79 (lv_at hl 3 rfl) ?_
                refine lv_if_eq (tgt := 86) hx hb dX11_period_81 (by decide) (fun c47001 => ?_) (fun c47001 => ?_)
                · have zc47001 := eqK rfl (show (0 : Int32).toInt = 0 by decide) c47001
                  obtain ⟨v47002, ev47002⟩ : ∃ z : Int32, z = x15_3 + 1 := ⟨_, rfl⟩
                  have tv47002 : v47002.toInt = x15_3.toInt + 1 := by rw [ev47002]; exact addT rfl (by decide) (by omega)
                  refine lv_iinc (v := v47002) (lv' := [(3, .int v47002), (0, .ref h), (1, .int a1), (4, .int x31_4)]) hx hb dX11_period_86 hl (k := 2) rfl (by rw [ev47002]; rfl) (by decide) rfl (fun ls hl => ?_)
                  refine lv_goto (tgt := 15) hx hb dX11_period_89 (by decide) ?_
                  exact ih15 v47002 H locs ls (by omega) (by omega) hP hS (lv_sub hl [1, 2, 0] rfl)
                · have zc47001 := neK rfl (show (0 : Int32).toInt = 0 by decide) c47001
                  refine lv_iload_n hx hb dX11_period_84 rfl (lv_at hl 2 rfl) ?_
                  exact retRi hx hb hr hlk hS dX11_period_85 (trivial)
              refine lv_icmp_ge (tgt := 79) hx hb dX11_period_39 (by decide) (fun c22003 => ?_) (fun c22003 => ?_)
              · have zc22003 := leK rfl rfl c22003
                exact B79 H locs ls hP hS (lv_sub hl [0, 1, 2, 3] rfl)
              · have zc22003 := nleK rfl rfl c22003
                refine lv_iload hx hb dX11_period_42 (lv_at hl 3 rfl) ?_
                refine lv_if_eq (tgt := 79) hx hb dX11_period_44 (by decide) (fun c22004 => ?_) (fun c22004 => ?_)
                · have zc22004 := eqK rfl (show (0 : Int32).toInt = 0 by decide) c22004
                  exact B79 H locs ls hP hS (lv_sub hl [0, 1, 2, 3] rfl)
                · have zc22004 := neK rfl (show (0 : Int32).toInt = 0 by decide) c22004
                  refine lv_aload_n hx hb dX11_period_47 rfl (lv_at hl 0 rfl) ?_
                  refine lv_iload_n hx hb dX11_period_48 rfl (lv_at hl 1 rfl) ?_
                  refine lv_iload hx hb dX11_period_49 (lv_at hl 4 rfl) ?_
                  refine behR (runVP (As := [.int a1, .int x31_5]) (rest := []) ⟨hx, hb, hml, hown, ht⟩ (sX11_roomAt l G cs h q F A D B hI a1 x31_5 (by omega) (by omega)) okV_RX11_293 ⟨by decide, by decide⟩ hK hP [0, 1, 2, 3, 4, 5, 6, 7, 8, 9, 10, 11, 12, 13, 14, 15, 16, 17, 18, 19] rfl 0 rfl rfl hl.1 rfl (Nat.le_of_ble_eq_true rfl) dX11_period_51 ⟨by decide, by decide⟩) hP hS (fun _ h => h) (fun r22005 H locs hr22005 hP hS => ?_)
                  have hr22005 : r22005 = (B 33 (60 * a1.toNatClampNeg + x31_5.toNatClampNeg)).toInt32 := hr22005
                  have zbr22005 : -1 ≤ r22005.toInt ∧ r22005.toInt ≤ 6 := by rw [hr22005]; exact RVroom (gr1 (by omega)) (by have q1 := clK (i := x31_5) rfl (by omega); omega)
                  refine lv_aload_n hx hb dX11_period_54 rfl (lv_at hl 0 rfl) ?_
                  refine lv_iload_n hx hb dX11_period_55 rfl (lv_at hl 1 rfl) ?_
                  refine lv_iload hx hb dX11_period_56 (lv_at hl 4 rfl) ?_
                  refine lv_iload_n hx hb dX11_period_58 rfl (lv_at hl 2 rfl) ?_
                  refine lv_isub hx hb dX11_period_59 ?_
                  refine lv_topi (fun v22006 ev22006 => ?_)
                  have tv22006 : v22006.toInt = x31_5.toInt - x15_3.toInt := by rw [ev22006]; exact subT rfl rfl (by omega)
                  refine behR (runVP (As := [.int a1, .int v22006]) (rest := [.int r22005]) ⟨hx, hb, hml, hown, ht⟩ (sX11_roomAt l G cs h q F A D B hI a1 v22006 (by omega) (by omega)) okV_RX11_293 ⟨by decide, by decide⟩ hK hP [0, 1, 2, 3, 4, 5, 6, 7, 8, 9, 10, 11, 12, 13, 14, 15, 16, 17, 18, 19] rfl 0 rfl rfl hl.1 rfl (Nat.le_of_ble_eq_true rfl) dX11_period_60 ⟨by decide, by decide⟩) hP hS (fun _ h => h) (fun r22007 H locs hr22007 hP hS => ?_)
                  have hr22007 : r22007 = (B 33 (60 * a1.toNatClampNeg + v22006.toNatClampNeg)).toInt32 := hr22007
                  have zbr22007 : -1 ≤ r22007.toInt ∧ r22007.toInt ≤ 6 := by rw [hr22007]; exact RVroom (gr1 (by omega)) (by have q1 := clK (i := v22006) rfl (by omega); omega)
                  have B71 : ∀ (s71_0 : Int32) (H : Heap) (locs : List Loc) (ls : Array Slot), (0 : Int) ≤ s71_0.toInt ∧ s71_0.toInt ≤ 1 → va_P G vwCl (mS cs h q F A D B) H → va_S (fun q => s.heap.size ≤ q) s.heap H locs → lv_has ls 6 [(0, .ref h), (1, .int a1), (3, .int x15_3), (5, .int x31_5)] → W p l e (rmk 3 0 0) s m args below meth c H locs 0 0 (MQ below (QRi (fun r : Int32 => True) s.heap.size) args s 0 0 (fun q => s.heap.size ≤ q)) (F0 m 71 ls [.int s71_0]) := by
                    intro s71_0 H locs ls hs71_0 hP hS hl
                    refine lv_istore (lv' := [(4, .int s71_0), (0, .ref h), (1, .int a1), (3, .int x15_3), (5, .int x31_5)]) hx hb dX11_period_71 hl (by decide) rfl (fun ls hl => ?_)
                    obtain ⟨v44001, ev44001⟩ : ∃ z : Int32, z = x31_5 + 1 := ⟨_, rfl⟩
                    have tv44001 : v44001.toInt = x31_5.toInt + 1 := by rw [ev44001]; exact addT rfl (by decide) (by omega)
                    refine lv_iinc (v := v44001) (lv' := [(5, .int v44001), (4, .int s71_0), (0, .ref h), (1, .int a1), (3, .int x15_3)]) hx hb dX11_period_73 hl (k := 4) rfl (by rw [ev44001]; rfl) (by decide) rfl (fun ls hl => ?_)
                    refine lv_goto (tgt := 31) hx hb dX11_period_76 (by decide) ?_
                    exact ih31 s71_0 v44001 H locs ls (by omega) (by omega) (by omega) (by have k0 : (0 : Int32).toInt = 0 := (by decide); have k1 : (1 : Int32).toInt = 1 := (by decide); omega) hP hS (lv_sub hl [2, 3, 4, 1, 0] rfl)
                  refine lv_icmp_ne (tgt := 70) hx hb dX11_period_63 (by decide) (fun c22008 => ?_) (fun c22008 => ?_)
                  · have zc22008 := neK rfl rfl c22008
                    refine lv_iconst (v := 0) hx hb dX11_period_70 (by decide) ?_
                    exact B71 0 H locs ls (by decide) hP hS (lv_sub hl [0, 1, 2, 4] rfl)
                  · have zc22008 := eqK rfl rfl c22008
                    refine lv_iconst (v := 1) hx hb dX11_period_66 (by decide) ?_
                    refine lv_goto (tgt := 71) hx hb dX11_period_67 (by decide) ?_
                    exact B71 1 H locs ls (by decide) hP hS (lv_sub hl [0, 1, 2, 4] rfl)
          exact B31 _ 1 x15_3 H locs ls (Nat.lt_succ_self _) (by decide) (by omega) (by have k0 : (0 : Int32).toInt = 0 := (by decide); have k1 : (1 : Int32).toInt = 1 := (by decide); omega) hP hS (lv_sub hl [2, 3, 4, 1, 0] rfl)
    exact B15 _ 1 H locs ls (Nat.lt_succ_self _) (by decide) hP hS (lv_sub hl [2, 3, 0] rfl)
  · have zc3 := nleK (show (0 : Int32).toInt = 0 by decide) rfl c3
    refine lv_iload_n hx hb dX11_period_11 rfl (lv_at hl 0 rfl) ?_
    exact retRi hx hb hr hlk hS dX11_period_12 (trivial)

