set_option maxRecDepth 100000 in
set_option maxHeartbeats 8000000 in
theorem sX11_isSeed (l : Launch) (G : va_G) (cs : Nat → ClassId) (a1 : Int32) : SafeR l yX11_isSeed cX11_isSeed 1 (some .boolean) 1 G (TY cs) [.int a1] [] (fun r : Int32 => (r.toInt = 1 ∧ 0 ≤ a1.toInt ∧ a1.toInt ≤ 2000000000) ∨ r.toInt = 0) := by
  refine mkP (Qc := QRi (fun r : Int32 => (r.toInt = 1 ∧ 0 ≤ a1.toInt ∧ a1.toInt ≤ 2000000000) ∨ r.toInt = 0)) (by decide) (by simp [lg_sl, Value.category]) ?_
  intro p e s m args below meth c ls hx hb hml hr hlk hown ht hK hP hS hl
  have hl : lv_has ls 1 [(0, .int a1)] := hl
  refine lv_iload_n hx hb dX11_isSeed_0 rfl (lv_at hl 0 rfl) ?_
  refine lv_i2l hx hb dX11_isSeed_1 rfl ?_
  have bb1 := i32b a1
  refine lv_topl (fun v2 ev2 => ?_)
  have tv2 : v2.toInt = a1.toInt := by rw [ev2]; exact Int32.toInt_toInt64 _
  refine lv_lconst (v := 0) hx hb dX11_isSeed_2 (by decide) ?_
  refine lv_ldc2 hx hb hown (ht _ kl_RX11_439) dX11_isSeed_3 ?_
  refine behR (runSP (As := [.long v2, .long 0, .long 2000000000]) (rest := []) ⟨hx, hb, hml, hown, ht⟩ (sX11_in l G cs v2 0 2000000000 ) okS_RX11_79 ⟨by decide, by decide⟩ hK hP [] rfl hl.1 rfl (Nat.le_of_ble_eq_true rfl) dX11_isSeed_6 ⟨by decide, by decide⟩) hP hS (fun _ h => h) (fun r3 H locs hr3 hP hS => ?_)
  have kk4 : (0 : Int64).toInt = 0 := by decide
  have kk5 : (2000000000 : Int64).toInt = 2000000000 := by decide
  have hr3 : (r3.toInt = 1 ∧ (0 : Int64).toInt ≤ v2.toInt ∧ v2.toInt ≤ (2000000000 : Int64).toInt) ∨ (r3.toInt = 0 ∧ (v2.toInt < (0 : Int64).toInt ∨ (2000000000 : Int64).toInt < v2.toInt)) := hr3
  exact retRz hx hb hr hlk hS dX11_isSeed_9 (narZ (by omega)) (show (r3.toInt = 1 ∧ 0 ≤ a1.toInt ∧ a1.toInt ≤ 2000000000) ∨ r3.toInt = 0 by omega)

set_option maxRecDepth 100000 in
set_option maxHeartbeats 8000000 in
theorem sX11_tell (l : Launch) (G : va_G) (cs : Nat → ClassId) (h : Nat) (q : Nat → Nat) (F : Nat → Int32) (A : Nat → Nat → Int32) (D : Int64) (B : Nat → Nat → Int64) (hI : IM F A) (a1 : Int32) (a2 : Int32) (a3 : Int32) (hWG : WG (A 1)) : ImpI l yX11_tell cX11_tell 5 (some .int) 2 0 0 G (TY cs) [.ref h, .int a1, .int a2, .int a3] (mS cs h q F A D B) (fun (r : Int32) (u : (Nat → Int32)) => AI 1 u ∧ (WG u)) (fun u : (Nat → Int32) => (mS cs h q F (vA A 1 u) D B)) := by
  refine mkD (Qc := (QDi G (fun (r : Int32) (u : (Nat → Int32)) => AI 1 u ∧ (WG u)) (fun u : (Nat → Int32) => (mS cs h q F (vA A 1 u) D B)))) (by decide) (by simp [lg_sl, Value.category]) ?_
  intro p e s m args below meth c ls A0 hx hb hml hr hlk hown hmn ht hK hP hD hS hA hl
  have hl : lv_has ls 5 [(0, .ref h), (1, .int a1), (2, .int a2), (3, .int a3)] := hl
  refine lv_aload_n hx hb dX11_tell_0 rfl (lv_at hl 0 rfl) ?_
  refine lv_iload_n hx hb dX11_tell_1 rfl (lv_at hl 1 rfl) ?_
  refine lv_i2l hx hb dX11_tell_2 rfl ?_
  have bb1 := i32b a1
  refine lv_topl (fun v2 ev2 => ?_)
  have tv2 : v2.toInt = a1.toInt := by rw [ev2]; exact Int32.toInt_toInt64 _
  refine behR (runVP (As := [.long v2]) (rest := []) ⟨hx, hb, hml, hown, ht⟩ (sX11_isRoom l G cs h q F A D B hI v2 ) okV_RX11_89 ⟨by decide, by decide⟩ hK hP [0, 1, 2, 3, 4, 5, 6, 7, 8, 9, 10, 11, 12, 13, 14, 15, 16, 17, 18, 19] rfl 0 rfl rfl hl.1 rfl (Nat.le_of_ble_eq_true rfl) dX11_tell_3 ⟨by decide, by decide⟩) hP hS hA (fun r3 H locs hr3 hP hS => ?_)
  have hr3 : (r3.toInt = 1 ∧ 0 ≤ v2.toInt ∧ v2.toInt < (A 1 4).toInt ∧ v2.toInt ≤ 6 ∧ (A 1 4).toInt ≤ 7) ∨ r3.toInt = 0 := hr3
  refine lv_if_eq (tgt := 54) hx hb dX11_tell_6 (by decide) (fun c4 => ?_) (fun c4 => ?_)
  · have zc4 := eqK rfl (show (0 : Int32).toInt = 0 by decide) c4
    refine lv_bipush (v := (-2)) hx hb dX11_tell_54 (by decide) ?_
    exact retDi (A 1) hx hb hr hlk hP hD hS dX11_tell_56 (⟨fun j => hI.2 1 j, hWG⟩) (Nat.le_of_ble_eq_true rfl) (Nat.le_of_ble_eq_true rfl)
  · have zc4 := neK rfl (show (0 : Int32).toInt = 0 by decide) c4
    refine lv_iload_n hx hb dX11_tell_9 rfl (lv_at hl 2 rfl) ?_
    refine lv_i2l hx hb dX11_tell_10 rfl ?_
    have bb5 := i32b a2
    refine lv_topl (fun v6 ev6 => ?_)
    have tv6 : v6.toInt = a2.toInt := by rw [ev6]; exact Int32.toInt_toInt64 _
    refine lv_lconst (v := 0) hx hb dX11_tell_11 (by decide) ?_
    refine lv_ldc2 hx hb hown (ht _ kl_RX11_77) dX11_tell_12 ?_
    refine behR (runSP (As := [.long v6, .long 0, .long 2]) (rest := []) ⟨hx, hb, hml, hown, ht⟩ (sX11_in l G cs v6 0 2 ) okS_RX11_79 ⟨by decide, by decide⟩ hK hP [] rfl hl.1 rfl (Nat.le_of_ble_eq_true rfl) dX11_tell_15 ⟨by decide, by decide⟩) hP hS hA (fun r7 H locs hr7 hP hS => ?_)
    have kk8 : (0 : Int64).toInt = 0 := by decide
    have kk9 : (2 : Int64).toInt = 2 := by decide
    have hr7 : (r7.toInt = 1 ∧ (0 : Int64).toInt ≤ v6.toInt ∧ v6.toInt ≤ (2 : Int64).toInt) ∨ (r7.toInt = 0 ∧ (v6.toInt < (0 : Int64).toInt ∨ (2 : Int64).toInt < v6.toInt)) := hr7
    refine lv_if_eq (tgt := 54) hx hb dX11_tell_18 (by decide) (fun c10 => ?_) (fun c10 => ?_)
    · have zc10 := eqK rfl (show (0 : Int32).toInt = 0 by decide) c10
      refine lv_bipush (v := (-2)) hx hb dX11_tell_54 (by decide) ?_
      exact retDi (A 1) hx hb hr hlk hP hD hS dX11_tell_56 (⟨fun j => hI.2 1 j, hWG⟩) (Nat.le_of_ble_eq_true rfl) (Nat.le_of_ble_eq_true rfl)
    · have zc10 := neK rfl (show (0 : Int32).toInt = 0 by decide) c10
      refine lv_iload_n hx hb dX11_tell_21 rfl (lv_at hl 3 rfl) ?_
      refine lv_i2l hx hb dX11_tell_22 rfl ?_
      have bb11 := i32b a3
      refine lv_topl (fun v12 ev12 => ?_)
      have tv12 : v12.toInt = a3.toInt := by rw [ev12]; exact Int32.toInt_toInt64 _
      refine lv_lconst (v := 0) hx hb dX11_tell_23 (by decide) ?_
      refine lv_iload_n hx hb dX11_tell_24 rfl (lv_at hl 2 rfl) ?_
      have B48 : ∀ (s48_0 : Int64) (s48_1 : Int64) (s48_2 : Int64) (H : Heap) (locs : List Loc) (ls : Array Slot), (99 : Int) ≤ s48_0.toInt ∧ s48_0.toInt ≤ 999 → (0 : Int) ≤ s48_1.toInt ∧ s48_1.toInt ≤ 0 → (-2147483648 : Int) ≤ s48_2.toInt ∧ s48_2.toInt ≤ 2147483647 → ((a2.toInt = 0 ∧ s48_0.toInt = 999) ∨ (a2.toInt = 1 ∧ s48_0.toInt = 100) ∨ (a2.toInt = 2 ∧ s48_0.toInt = 99)) → (s48_2.toInt = a3.toInt) → va_P G vwCl (mS cs h q F A D B) H → va_D A0 (mS cs h q F A D B) → va_S A0 s.heap H locs → lv_has ls 5 [(0, .ref h), (1, .int a1), (2, .int a2), (3, .int a3)] → W p l e (rmk 2 0 0) s m args below meth c H locs 0 0 (MQ below ((QDi G (fun (r : Int32) (u : (Nat → Int32)) => AI 1 u ∧ (WG u)) (fun u : (Nat → Int32) => (mS cs h q F (vA A 1 u) D B))) A0) args s 0 0 A0) (F0 m 48 ls [.long s48_0, .long s48_1, .long s48_2]) := by
        intro s48_0 s48_1 s48_2 H locs ls hs48_0 hs48_1 hs48_2 hlim hn3 hP hD hS hl
        refine behR (runSP (As := [.long s48_2, .long s48_1, .long s48_0]) (rest := []) ⟨hx, hb, hml, hown, ht⟩ (sX11_in l G cs s48_2 s48_1 s48_0 ) okS_RX11_79 ⟨by decide, by decide⟩ hK hP [] rfl hl.1 rfl (Nat.le_of_ble_eq_true rfl) dX11_tell_48 ⟨by decide, by decide⟩) hP hS hA (fun r25001 H locs hr25001 hP hS => ?_)
        have hr25001 : (r25001.toInt = 1 ∧ s48_1.toInt ≤ s48_2.toInt ∧ s48_2.toInt ≤ s48_0.toInt) ∨ (r25001.toInt = 0 ∧ (s48_2.toInt < s48_1.toInt ∨ s48_0.toInt < s48_2.toInt)) := hr25001
        refine lv_if_ne (tgt := 57) hx hb dX11_tell_51 (by decide) (fun c25002 => ?_) (fun c25002 => ?_)
        · have zc25002 := neK rfl (show (0 : Int32).toInt = 0 by decide) c25002
          refine lv_aload_n hx hb dX11_tell_57 rfl (lv_at hl 0 rfl) ?_
          refine getF (v := .ref (q 1)) hx hb ht hown hK hP iTX11 0 1 rfl rfl (by decide) fl_RX11_9 rfl dX11_tell_58 ?_
          refine lv_bipush (v := 7) hx hb dX11_tell_61 (by decide) ?_
          refine va_iald hx hb hK.1 hP 1 0 rfl rfl (show ¬ (_ ∨ _) by decide) dX11_tell_63 ?_
          refine W.eq (g2 := F0 m 64 ls [.int (A 1 7)]) rfl ?_
          have zf25003 : (0 : Int) ≤ (A 1 7).toInt ∧ (A 1 7).toInt ≤ 60 := (hI.2 1 7)
          refine lv_if_le (tgt := 70) hx hb dX11_tell_64 (by decide) (fun c25004 => ?_) (fun c25004 => ?_)
          · have zc25004 := leK rfl (show (0 : Int32).toInt = 0 by decide) c25004
            refine lv_aload_n hx hb dX11_tell_70 rfl (lv_at hl 0 rfl) ?_
            refine lv_iload_n hx hb dX11_tell_71 rfl (lv_at hl 1 rfl) ?_
            refine lv_iload_n hx hb dX11_tell_72 rfl (lv_at hl 2 rfl) ?_
            refine behR (runVP (As := [.int a1, .int a2]) (rest := []) ⟨hx, hb, hml, hown, ht⟩ (sX11_of l G cs h q F A D B hI a1 a2 (by omega) (by omega)) okV_RX11_227 ⟨by decide, by decide⟩ hK hP [0, 1, 2, 3, 4, 5, 6, 7, 8, 9, 10, 11, 12, 13, 14, 15, 16, 17, 18, 19] rfl 0 rfl rfl hl.1 rfl (Nat.le_of_ble_eq_true rfl) dX11_tell_73 ⟨by decide, by decide⟩) hP hS hA (fun r25005 H locs hr25005 hP hS => ?_)
            have hr25005 : r25005 = (A 1) (8 + 4 * a1.toNatClampNeg + a2.toNatClampNeg) ∧ (0 : Int) ≤ r25005.toInt ∧ r25005.toInt ≤ 999 ∧ (a2.toInt = 3 → r25005.toInt ≤ 127) ∧ (a2.toInt = 2 → r25005.toInt ≤ 99) := hr25005
            refine lv_istore (lv' := [(4, .int r25005), (0, .ref h), (1, .int a1), (2, .int a2), (3, .int a3)]) hx hb dX11_tell_76 hl (by decide) rfl (fun ls hl => ?_)
            refine lv_aload_n hx hb dX11_tell_78 rfl (lv_at hl 1 rfl) ?_
            refine getF (v := .ref (q 1)) hx hb ht hown hK hP iTX11 0 1 rfl rfl (by decide) fl_RX11_9 rfl dX11_tell_79 ?_
            refine lv_bipush (v := 8) hx hb dX11_tell_82 (by decide) ?_
            refine lv_iconst (v := 4) hx hb dX11_tell_84 (by decide) ?_
            refine lv_iload_n hx hb dX11_tell_85 rfl (lv_at hl 2 rfl) ?_
            refine lv_imul hx hb dX11_tell_86 ?_
            refine lv_topi (fun v25006 ev25006 => ?_)
            have tv25006 : v25006.toInt = 4 * a1.toInt := by rw [ev25006]; exact mulT (show (4 : Int32).toInt = 4 by decide) rfl (by omega)
            refine lv_iadd hx hb dX11_tell_87 ?_
            refine lv_topi (fun v25007 ev25007 => ?_)
            have tv25007 : v25007.toInt = 8 + v25006.toInt := by rw [ev25007]; exact addT (show (8 : Int32).toInt = 8 by decide) rfl (by omega)
            refine lv_iload_n hx hb dX11_tell_88 rfl (lv_at hl 3 rfl) ?_
            refine lv_iadd hx hb dX11_tell_89 ?_
            refine lv_topi (fun v25008 ev25008 => ?_)
            have tv25008 : v25008.toInt = v25007.toInt + a2.toInt := by rw [ev25008]; exact addT rfl rfl (by omega)
            refine lv_iload_n hx hb dX11_tell_90 rfl (lv_at hl 4 rfl) ?_
            refine va_iast hx hb hK.1 hP hD hS 1 0 rfl rfl (inK rfl (by omega) (by decide)) dX11_tell_91 (fun H locs hP hD hS => ?_)
            have hP : va_P G vwCl (mS cs h q F (vA A 1 (upd (A 1) v25008.toNatClampNeg a3)) D B) H := hP
            have hD : va_D A0 (mS cs h q F (vA A 1 (upd (A 1) v25008.toNatClampNeg a3)) D B) := hD
            obtain ⟨g25009, eg25009⟩ : ∃ z : Nat → Int32, z = upd (A 1) v25008.toNatClampNeg a3 := ⟨_, rfl⟩
            rw [← eg25009] at hP hD
            have hg25009 : AI 1 g25009 := by rw [eg25009]; exact AI_upd (fun j => hI.2 1 j) (tell_fact (r := a1.toInt) (w := a2.toInt) (by omega) (by omega) (by omega) (by omega))
            refine lv_iload hx hb dX11_tell_92 (lv_at hl 0 rfl) ?_
            exact retDi g25009 hx hb hr hlk hP hD hS dX11_tell_94 (⟨hg25009, (WGe hWG eg25009 ((fun j => hI.2 1 j) 5).2 (by have y9 := clK (i := v25008) rfl (by omega); omega))⟩) (Nat.le_of_ble_eq_true rfl) (Nat.le_of_ble_eq_true rfl)
          · have zc25004 := nleK rfl (show (0 : Int32).toInt = 0 by decide) c25004
            refine lv_bipush (v := (-5)) hx hb dX11_tell_67 (by decide) ?_
            exact retDi (A 1) hx hb hr hlk hP hD hS dX11_tell_69 (⟨fun j => hI.2 1 j, hWG⟩) (Nat.le_of_ble_eq_true rfl) (Nat.le_of_ble_eq_true rfl)
        · have zc25002 := eqK rfl (show (0 : Int32).toInt = 0 by decide) c25002
          refine lv_bipush (v := (-2)) hx hb dX11_tell_54 (by decide) ?_
          exact retDi (A 1) hx hb hr hlk hP hD hS dX11_tell_56 (⟨fun j => hI.2 1 j, hWG⟩) (Nat.le_of_ble_eq_true rfl) (Nat.le_of_ble_eq_true rfl)
      refine lv_if_ne (tgt := 34) hx hb dX11_tell_25 (by decide) (fun c13 => ?_) (fun c13 => ?_)
      · have zc13 := neK rfl (show (0 : Int32).toInt = 0 by decide) c13
        refine lv_iload_n hx hb dX11_tell_34 rfl (lv_at hl 2 rfl) ?_
        refine lv_iconst (v := 1) hx hb dX11_tell_35 (by decide) ?_
        refine lv_icmp_ne (tgt := 45) hx hb dX11_tell_36 (by decide) (fun c14 => ?_) (fun c14 => ?_)
        · have zc14 := neK rfl (show (1 : Int32).toInt = 1 by decide) c14
          refine lv_ldc2 hx hb hown (ht _ kl_RX11_454) dX11_tell_45 ?_
          exact B48 99 0 v12 H locs ls (by decide) (by decide) (by omega) (by have k1 : (999 : Int64).toInt = 999 := (by decide); have k2 : (100 : Int64).toInt = 100 := (by decide); have k3 : (99 : Int64).toInt = 99 := (by decide); omega) (by have k0 : (0 : Int32).toInt = 0 := (by decide); have k1 : (1 : Int32).toInt = 1 := (by decide); omega) hP hD hS (lv_sub hl [0, 1, 2, 3] rfl)
        · have zc14 := eqK rfl (show (1 : Int32).toInt = 1 by decide) c14
          refine lv_ldc2 hx hb hown (ht _ kl_RX11_452) dX11_tell_39 ?_
          refine lv_goto (tgt := 48) hx hb dX11_tell_42 (by decide) ?_
          exact B48 100 0 v12 H locs ls (by decide) (by decide) (by omega) (by have k1 : (999 : Int64).toInt = 999 := (by decide); have k2 : (100 : Int64).toInt = 100 := (by decide); have k3 : (99 : Int64).toInt = 99 := (by decide); omega) (by have k0 : (0 : Int32).toInt = 0 := (by decide); have k1 : (1 : Int32).toInt = 1 := (by decide); omega) hP hD hS (lv_sub hl [0, 1, 2, 3] rfl)
      · have zc13 := eqK rfl (show (0 : Int32).toInt = 0 by decide) c13
        refine lv_ldc2 hx hb hown (ht _ kl_RX11_450) dX11_tell_28 ?_
        refine lv_goto (tgt := 48) hx hb dX11_tell_31 (by decide) ?_
        exact B48 999 0 v12 H locs ls (by decide) (by decide) (by omega) (by have k1 : (999 : Int64).toInt = 999 := (by decide); have k2 : (100 : Int64).toInt = 100 := (by decide); have k3 : (99 : Int64).toInt = 99 := (by decide); omega) (by have k0 : (0 : Int32).toInt = 0 := (by decide); have k1 : (1 : Int32).toInt = 1 := (by decide); omega) hP hD hS (lv_sub hl [0, 1, 2, 3] rfl)

set_option maxRecDepth 100000 in
set_option maxHeartbeats 8000000 in
theorem sX11_door (l : Launch) (G : va_G) (cs : Nat → ClassId) (h : Nat) (q : Nat → Nat) (F : Nat → Int32) (A : Nat → Nat → Int32) (D : Int64) (B : Nat → Nat → Int64) (hI : IM F A) (a1 : Int32) (a2 : Int32) (a3 : Int32) (ha1 : (0 : Int) ≤ a1.toInt ∧ a1.toInt ≤ 6) (ha2 : (0 : Int) ≤ a2.toInt ∧ a2.toInt ≤ 6) (ha3 : (0 : Int) ≤ a3.toInt ∧ a3.toInt ≤ 1) (hWG : WG (A 1)) : ImpW l yX11_door cX11_door 5 0 0 0 G (TY cs) [.ref h, .int a1, .int a2, .int a3] (mS cs h q F A D B) (fun u : (Nat → Int32) => AI 1 u ∧ (WG u)) (fun u : (Nat → Int32) => (mS cs h q F (vA A 1 u) D B)) := by
  refine mkD (Qc := (QDw G (fun u : (Nat → Int32) => AI 1 u ∧ (WG u)) (fun u : (Nat → Int32) => (mS cs h q F (vA A 1 u) D B)))) (by decide) (by simp [lg_sl, Value.category]) ?_
  intro p e s m args below meth c ls A0 hx hb hml hr hlk hown hmn ht hK hP hD hS hA hl
  have hl : lv_has ls 5 [(0, .ref h), (1, .int a1), (2, .int a2), (3, .int a3)] := hl
  refine lv_bipush (v := 8) hx hb dX11_door_0 (by decide) ?_
  refine lv_iconst (v := 4) hx hb dX11_door_2 (by decide) ?_
  refine lv_iload_n hx hb dX11_door_3 rfl (lv_at hl 1 rfl) ?_
  refine lv_imul hx hb dX11_door_4 ?_
  refine lv_topi (fun v1 ev1 => ?_)
  have tv1 : v1.toInt = 4 * a1.toInt := by rw [ev1]; exact mulT (show (4 : Int32).toInt = 4 by decide) rfl (by omega)
  refine lv_iadd hx hb dX11_door_5 ?_
  refine lv_topi (fun v2 ev2 => ?_)
  have tv2 : v2.toInt = 8 + v1.toInt := by rw [ev2]; exact addT (show (8 : Int32).toInt = 8 by decide) rfl (by omega)
  refine lv_iconst (v := 3) hx hb dX11_door_6 (by decide) ?_
  refine lv_iadd hx hb dX11_door_7 ?_
  refine lv_topi (fun v3 ev3 => ?_)
  have tv3 : v3.toInt = v2.toInt + 3 := by rw [ev3]; exact addT rfl (show (3 : Int32).toInt = 3 by decide) (by omega)
  refine lv_istore (lv' := [(4, .int v3), (0, .ref h), (1, .int a1), (2, .int a2), (3, .int a3)]) hx hb dX11_door_8 hl (by decide) rfl (fun ls hl => ?_)
  refine lv_aload_n hx hb dX11_door_10 rfl (lv_at hl 1 rfl) ?_
  refine getF (v := .ref (q 1)) hx hb ht hown hK hP iTX11 0 1 rfl rfl (by decide) fl_RX11_9 rfl dX11_door_11 ?_
  refine lv_iload hx hb dX11_door_14 (lv_at hl 0 rfl) ?_
  refine lv_aload_n hx hb dX11_door_16 rfl (lv_at hl 1 rfl) ?_
  refine getF (v := .ref (q 1)) hx hb ht hown hK hP iTX11 0 1 rfl rfl (by decide) fl_RX11_9 rfl dX11_door_17 ?_
  refine lv_iload hx hb dX11_door_20 (lv_at hl 0 rfl) ?_
  refine va_iald hx hb hK.1 hP 1 0 rfl rfl (inK rfl (by omega) (by decide)) dX11_door_22 ?_
  refine lv_topi (fun v4 ev4 => ?_)
  have zl : (0 : Int) ≤ v4.toInt ∧ v4.toInt ≤ 127 := by rw [ev4]; have zz := of_fact (i := v3) (r := a1.toInt) (w := 3) hI (by omega) (by omega) (by omega); omega
  refine lv_iconst (v := 1) hx hb dX11_door_23 (by decide) ?_
  refine lv_iload_n hx hb dX11_door_24 rfl (lv_at hl 3 rfl) ?_
  refine lv_ishl hx hb dX11_door_25 ?_
  refine lv_topi (fun v5 ev5 => ?_)
  have tv5 : (1 : Int) ≤ v5.toInt ∧ v5.toInt ≤ 64 := by rw [ev5]; exact shlT 6 (by decide) rfl (by omega) (by decide)
  have pv5 : v5.toInt = P2 a2.toInt := by rw [ev5]; exact shlP rfl (by omega)
  refine lv_iconst (v := (-1)) hx hb dX11_door_26 (by decide) ?_
  refine lv_ixor hx hb dX11_door_27 ?_
  refine lv_topi (fun v6 ev6 => ?_)
  refine lv_iand hx hb dX11_door_28 ?_
  refine lv_topi (fun v7 ev7 => ?_)
  have tv7 : 0 ≤ v7.toInt ∧ v7.toInt ≤ 127 := by rw [ev7]; exact andA 7 rfl (by omega) (by decide)
  refine lv_iload_n hx hb dX11_door_29 rfl (lv_at hl 4 rfl) ?_
  refine lv_iload_n hx hb dX11_door_30 rfl (lv_at hl 3 rfl) ?_
  refine lv_ishl hx hb dX11_door_31 ?_
  refine lv_topi (fun v8 ev8 => ?_)
  have tv8 : (0 : Int) ≤ v8.toInt ∧ v8.toInt ≤ 64 := by rw [ev8]; exact shl01T 6 (by decide) rfl rfl (by omega) (by omega) (by decide)
  refine lv_ior hx hb dX11_door_32 ?_
  refine lv_topi (fun v9 ev9 => ?_)
  have tv9 : 0 ≤ v9.toInt ∧ v9.toInt ≤ 127 := by rw [ev9]; exact orA 7 rfl rfl (by omega) (by omega) (by decide)
  refine va_iast hx hb hK.1 hP hD hS 1 0 rfl rfl (inK rfl (by omega) (by decide)) dX11_door_33 (fun H locs hP hD hS => ?_)
  have hP : va_P G vwCl (mS cs h q F (vA A 1 (upd (A 1) v3.toNatClampNeg v9)) D B) H := hP
  have hD : va_D A0 (mS cs h q F (vA A 1 (upd (A 1) v3.toNatClampNeg v9)) D B) := hD
  obtain ⟨g10, eg10⟩ : ∃ z : Nat → Int32, z = upd (A 1) v3.toNatClampNeg v9 := ⟨_, rfl⟩
  rw [← eg10] at hP hD
  have hg10 : AI 1 g10 := by rw [eg10]; exact AI_upd (fun j => hI.2 1 j) (door_fact (r := a1.toInt) (by omega) (by omega) (by omega))
  exact retDw g10 hx hb hr hlk hP hD hS dX11_door_34 (⟨hg10, (WGe hWG eg10 ((fun j => hI.2 1 j) 5).2 (by have y9 := clK (i := v3) rfl (by omega); omega))⟩) (Nat.le_of_ble_eq_true rfl) (Nat.le_of_ble_eq_true rfl)

set_option maxRecDepth 100000 in
set_option maxHeartbeats 8000000 in
theorem sX11_shut (l : Launch) (G : va_G) (cs : Nat → ClassId) (h : Nat) (q : Nat → Nat) (F : Nat → Int32) (A : Nat → Nat → Int32) (D : Int64) (B : Nat → Nat → Int64) (hI : IM F A) (a1 : Int32) (a2 : Int32) (a3 : Int32) (hWG : WG (A 1)) : ImpI l yX11_shut cX11_shut 5 (some .int) 2 0 0 G (TY cs) [.ref h, .int a1, .int a2, .int a3] (mS cs h q F A D B) (fun (r : Int32) (u : (Nat → Int32)) => AI 1 u ∧ (WG u)) (fun u : (Nat → Int32) => (mS cs h q F (vA A 1 u) D B)) := by
  refine mkD (Qc := (QDi G (fun (r : Int32) (u : (Nat → Int32)) => AI 1 u ∧ (WG u)) (fun u : (Nat → Int32) => (mS cs h q F (vA A 1 u) D B)))) (by decide) (by simp [lg_sl, Value.category]) ?_
  intro p e s m args below meth c ls A0 hx hb hml hr hlk hown hmn ht hK hP hD hS hA hl
  have hl : lv_has ls 5 [(0, .ref h), (1, .int a1), (2, .int a2), (3, .int a3)] := hl
  refine lv_aload_n hx hb dX11_shut_0 rfl (lv_at hl 0 rfl) ?_
  refine lv_iload_n hx hb dX11_shut_1 rfl (lv_at hl 1 rfl) ?_
  refine lv_i2l hx hb dX11_shut_2 rfl ?_
  have bb1 := i32b a1
  refine lv_topl (fun v2 ev2 => ?_)
  have tv2 : v2.toInt = a1.toInt := by rw [ev2]; exact Int32.toInt_toInt64 _
  refine behR (runVP (As := [.long v2]) (rest := []) ⟨hx, hb, hml, hown, ht⟩ (sX11_isRoom l G cs h q F A D B hI v2 ) okV_RX11_89 ⟨by decide, by decide⟩ hK hP [0, 1, 2, 3, 4, 5, 6, 7, 8, 9, 10, 11, 12, 13, 14, 15, 16, 17, 18, 19] rfl 0 rfl rfl hl.1 rfl (Nat.le_of_ble_eq_true rfl) dX11_shut_3 ⟨by decide, by decide⟩) hP hS hA (fun r3 H locs hr3 hP hS => ?_)
  have hr3 : (r3.toInt = 1 ∧ 0 ≤ v2.toInt ∧ v2.toInt < (A 1 4).toInt ∧ v2.toInt ≤ 6 ∧ (A 1 4).toInt ≤ 7) ∨ r3.toInt = 0 := hr3
  refine lv_if_eq (tgt := 33) hx hb dX11_shut_6 (by decide) (fun c4 => ?_) (fun c4 => ?_)
  · have zc4 := eqK rfl (show (0 : Int32).toInt = 0 by decide) c4
    refine lv_bipush (v := (-2)) hx hb dX11_shut_33 (by decide) ?_
    exact retDi (A 1) hx hb hr hlk hP hD hS dX11_shut_35 (⟨fun j => hI.2 1 j, hWG⟩) (Nat.le_of_ble_eq_true rfl) (Nat.le_of_ble_eq_true rfl)
  · have zc4 := neK rfl (show (0 : Int32).toInt = 0 by decide) c4
    refine lv_aload_n hx hb dX11_shut_9 rfl (lv_at hl 0 rfl) ?_
    refine lv_iload_n hx hb dX11_shut_10 rfl (lv_at hl 2 rfl) ?_
    refine lv_i2l hx hb dX11_shut_11 rfl ?_
    have bb5 := i32b a2
    refine lv_topl (fun v6 ev6 => ?_)
    have tv6 : v6.toInt = a2.toInt := by rw [ev6]; exact Int32.toInt_toInt64 _
    refine behR (runVP (As := [.long v6]) (rest := []) ⟨hx, hb, hml, hown, ht⟩ (sX11_isRoom l G cs h q F A D B hI v6 ) okV_RX11_89 ⟨by decide, by decide⟩ hK hP [0, 1, 2, 3, 4, 5, 6, 7, 8, 9, 10, 11, 12, 13, 14, 15, 16, 17, 18, 19] rfl 0 rfl rfl hl.1 rfl (Nat.le_of_ble_eq_true rfl) dX11_shut_12 ⟨by decide, by decide⟩) hP hS hA (fun r7 H locs hr7 hP hS => ?_)
    have hr7 : (r7.toInt = 1 ∧ 0 ≤ v6.toInt ∧ v6.toInt < (A 1 4).toInt ∧ v6.toInt ≤ 6 ∧ (A 1 4).toInt ≤ 7) ∨ r7.toInt = 0 := hr7
    refine lv_if_eq (tgt := 33) hx hb dX11_shut_15 (by decide) (fun c8 => ?_) (fun c8 => ?_)
    · have zc8 := eqK rfl (show (0 : Int32).toInt = 0 by decide) c8
      refine lv_bipush (v := (-2)) hx hb dX11_shut_33 (by decide) ?_
      exact retDi (A 1) hx hb hr hlk hP hD hS dX11_shut_35 (⟨fun j => hI.2 1 j, hWG⟩) (Nat.le_of_ble_eq_true rfl) (Nat.le_of_ble_eq_true rfl)
    · have zc8 := neK rfl (show (0 : Int32).toInt = 0 by decide) c8
      refine lv_iload_n hx hb dX11_shut_18 rfl (lv_at hl 1 rfl) ?_
      refine lv_iload_n hx hb dX11_shut_19 rfl (lv_at hl 2 rfl) ?_
      refine lv_icmp_eq (tgt := 33) hx hb dX11_shut_20 (by decide) (fun c9 => ?_) (fun c9 => ?_)
      · have zc9 := eqK rfl rfl c9
        refine lv_bipush (v := (-2)) hx hb dX11_shut_33 (by decide) ?_
        exact retDi (A 1) hx hb hr hlk hP hD hS dX11_shut_35 (⟨fun j => hI.2 1 j, hWG⟩) (Nat.le_of_ble_eq_true rfl) (Nat.le_of_ble_eq_true rfl)
      · have zc9 := neK rfl rfl c9
        refine lv_iload_n hx hb dX11_shut_23 rfl (lv_at hl 3 rfl) ?_
        refine lv_i2l hx hb dX11_shut_24 rfl ?_
        have bb10 := i32b a3
        refine lv_topl (fun v11 ev11 => ?_)
        have tv11 : v11.toInt = a3.toInt := by rw [ev11]; exact Int32.toInt_toInt64 _
        refine lv_lconst (v := 0) hx hb dX11_shut_25 (by decide) ?_
        refine lv_lconst (v := 1) hx hb dX11_shut_26 (by decide) ?_
        refine behR (runSP (As := [.long v11, .long 0, .long 1]) (rest := []) ⟨hx, hb, hml, hown, ht⟩ (sX11_in l G cs v11 0 1 ) okS_RX11_79 ⟨by decide, by decide⟩ hK hP [] rfl hl.1 rfl (Nat.le_of_ble_eq_true rfl) dX11_shut_27 ⟨by decide, by decide⟩) hP hS hA (fun r12 H locs hr12 hP hS => ?_)
        have kk13 : (0 : Int64).toInt = 0 := by decide
        have kk14 : (1 : Int64).toInt = 1 := by decide
        have hr12 : (r12.toInt = 1 ∧ (0 : Int64).toInt ≤ v11.toInt ∧ v11.toInt ≤ (1 : Int64).toInt) ∨ (r12.toInt = 0 ∧ (v11.toInt < (0 : Int64).toInt ∨ (1 : Int64).toInt < v11.toInt)) := hr12
        refine lv_if_ne (tgt := 36) hx hb dX11_shut_30 (by decide) (fun c15 => ?_) (fun c15 => ?_)
        · have zc15 := neK rfl (show (0 : Int32).toInt = 0 by decide) c15
          refine lv_aload_n hx hb dX11_shut_36 rfl (lv_at hl 0 rfl) ?_
          refine getF (v := .ref (q 1)) hx hb ht hown hK hP iTX11 0 1 rfl rfl (by decide) fl_RX11_9 rfl dX11_shut_37 ?_
          refine lv_bipush (v := 7) hx hb dX11_shut_40 (by decide) ?_
          refine va_iald hx hb hK.1 hP 1 0 rfl rfl (show ¬ (_ ∨ _) by decide) dX11_shut_42 ?_
          refine W.eq (g2 := F0 m 43 ls [.int (A 1 7)]) rfl ?_
          have zf16 : (0 : Int) ≤ (A 1 7).toInt ∧ (A 1 7).toInt ≤ 60 := (hI.2 1 7)
          refine lv_if_le (tgt := 49) hx hb dX11_shut_43 (by decide) (fun c17 => ?_) (fun c17 => ?_)
          · have zc17 := leK rfl (show (0 : Int32).toInt = 0 by decide) c17
            refine lv_aload_n hx hb dX11_shut_49 rfl (lv_at hl 0 rfl) ?_
            refine lv_iload_n hx hb dX11_shut_50 rfl (lv_at hl 1 rfl) ?_
            refine lv_iconst (v := 3) hx hb dX11_shut_51 (by decide) ?_
            refine behR (runVP (As := [.int a1, .int 3]) (rest := []) ⟨hx, hb, hml, hown, ht⟩ (sX11_of l G cs h q F A D B hI a1 3 (by omega) (by decide)) okV_RX11_227 ⟨by decide, by decide⟩ hK hP [0, 1, 2, 3, 4, 5, 6, 7, 8, 9, 10, 11, 12, 13, 14, 15, 16, 17, 18, 19] rfl 0 rfl rfl hl.1 rfl (Nat.le_of_ble_eq_true rfl) dX11_shut_52 ⟨by decide, by decide⟩) hP hS hA (fun r18 H locs hr18 hP hS => ?_)
            have kk19 : (3 : Int32).toInt = 3 := by decide
            have hr18 : r18 = (A 1) (8 + 4 * a1.toNatClampNeg + (3 : Int32).toNatClampNeg) ∧ (0 : Int) ≤ r18.toInt ∧ r18.toInt ≤ 999 ∧ ((3 : Int32).toInt = 3 → r18.toInt ≤ 127) ∧ ((3 : Int32).toInt = 2 → r18.toInt ≤ 99) := hr18
            refine lv_iload_n hx hb dX11_shut_55 rfl (lv_at hl 2 rfl) ?_
            refine behR (runSP (As := [.int r18, .int a2]) (rest := []) ⟨hx, hb, hml, hown, ht⟩ (sX11_bit l G cs r18 a2 ) okS_RX11_258 ⟨by decide, by decide⟩ hK hP [] rfl hl.1 rfl (Nat.le_of_ble_eq_true rfl) dX11_shut_56 ⟨by decide, by decide⟩) hP hS hA (fun r20 H locs hr20 hP hS => ?_)
            have hr20 : r20 = bitE r18 a2 ∧ (0 : Int) ≤ r20.toInt ∧ r20.toInt ≤ 1 := hr20
            refine lv_istore (lv' := [(4, .int r20), (0, .ref h), (1, .int a1), (2, .int a2), (3, .int a3)]) hx hb dX11_shut_59 hl (by decide) rfl (fun ls hl => ?_)
            refine lv_aload_n hx hb dX11_shut_61 rfl (lv_at hl 1 rfl) ?_
            refine lv_iload_n hx hb dX11_shut_62 rfl (lv_at hl 2 rfl) ?_
            refine lv_iload_n hx hb dX11_shut_63 rfl (lv_at hl 3 rfl) ?_
            refine lv_iload_n hx hb dX11_shut_64 rfl (lv_at hl 4 rfl) ?_
            refine behDw (wr := []) (runVD (As := [.int a1, .int a2, .int a3]) (rest := []) ⟨hx, hb, hml, hown, ht⟩ (sX11_door l G cs h q F A D B hI a1 a2 a3 (by omega) (by omega) (by omega) (show WG (A 1) from hWG)) okV_RX11_456 ⟨by decide, by decide⟩ hK hP hD [0, 1, 2, 3, 4, 5, 6, 7, 8, 9, 10, 11, 12, 13, 14, 15, 16, 17, 18, 19] rfl (by decide) rfl 0 rfl rfl hl.1 rfl (Nat.le_of_ble_eq_true rfl) dX11_shut_65 ⟨(Nat.le_of_ble_eq_true rfl), (Nat.le_of_ble_eq_true rfl)⟩) hP hD hS hA [0, 1, 2, 3, 4, 5, 6, 7, 8, 9, 10, 11, 12, 13, 14, 15, 16, 17, 18, 19] [] rfl rfl (by decide) (by decide) (fun u H locs hu hP hD hS => ?_)
            obtain ⟨g21, rfl⟩ : ∃ z, z = u := ⟨_, rfl⟩
            obtain ⟨hg21, hr22⟩ := hu
            have hr22 : WG g21 := hr22
            have hP : va_P G vwCl (mS cs h q F (vA A 1 g21) D B) H := hP
            have hD : va_D A0 (mS cs h q F (vA A 1 g21) D B) := hD
            refine lv_aload_n hx hb dX11_shut_68 rfl (lv_at hl 1 rfl) ?_
            refine lv_iload_n hx hb dX11_shut_69 rfl (lv_at hl 3 rfl) ?_
            refine lv_iload_n hx hb dX11_shut_70 rfl (lv_at hl 2 rfl) ?_
            refine lv_iload_n hx hb dX11_shut_71 rfl (lv_at hl 4 rfl) ?_
            refine behDw (wr := []) (runVD (As := [.int a2, .int a1, .int a3]) (rest := []) ⟨hx, hb, hml, hown, ht⟩ (sX11_door l G cs h q F (vA A 1 g21) D B (IM_arr (k := 1) hI hg21) a2 a1 a3 (by omega) (by omega) (by omega) (show WG g21 from hr22)) okV_RX11_456 ⟨by decide, by decide⟩ hK hP hD [0, 1, 2, 3, 4, 5, 6, 7, 8, 9, 10, 11, 12, 13, 14, 15, 16, 17, 18, 19] rfl (by decide) rfl 0 rfl rfl hl.1 rfl (Nat.le_of_ble_eq_true rfl) dX11_shut_72 ⟨(Nat.le_of_ble_eq_true rfl), (Nat.le_of_ble_eq_true rfl)⟩) hP hD hS hA [0, 1, 2, 3, 4, 5, 6, 7, 8, 9, 10, 11, 12, 13, 14, 15, 16, 17, 18, 19] [] rfl rfl (by decide) (by decide) (fun u H locs hu hP hD hS => ?_)
            obtain ⟨g23, rfl⟩ : ∃ z, z = u := ⟨_, rfl⟩
            obtain ⟨hg23, hr24⟩ := hu
            have hr24 : WG g23 := hr24
            have hP : va_P G vwCl (mS cs h q F (vA A 1 g23) D B) H := hP
            have hD : va_D A0 (mS cs h q F (vA A 1 g23) D B) := hD
            refine lv_iload hx hb dX11_shut_75 (lv_at hl 0 rfl) ?_
            exact retDi g23 hx hb hr hlk hP hD hS dX11_shut_77 (⟨hg23, hr24⟩) (Nat.le_of_ble_eq_true rfl) (Nat.le_of_ble_eq_true rfl)
          · have zc17 := nleK rfl (show (0 : Int32).toInt = 0 by decide) c17
            refine lv_bipush (v := (-5)) hx hb dX11_shut_46 (by decide) ?_
            exact retDi (A 1) hx hb hr hlk hP hD hS dX11_shut_48 (⟨fun j => hI.2 1 j, hWG⟩) (Nat.le_of_ble_eq_true rfl) (Nat.le_of_ble_eq_true rfl)
        · have zc15 := eqK rfl (show (0 : Int32).toInt = 0 by decide) c15
          refine lv_bipush (v := (-2)) hx hb dX11_shut_33 (by decide) ?_
          exact retDi (A 1) hx hb hr hlk hP hD hS dX11_shut_35 (⟨fun j => hI.2 1 j, hWG⟩) (Nat.le_of_ble_eq_true rfl) (Nat.le_of_ble_eq_true rfl)

set_option maxRecDepth 100000 in
set_option maxHeartbeats 8000000 in
theorem sX11_count (l : Launch) (G : va_G) (cs : Nat → ClassId) (h : Nat) (q : Nat → Nat) (F : Nat → Int32) (A : Nat → Nat → Int32) (D : Int64) (B : Nat → Nat → Int64) (hI : IM F A) (a1 : Int32) : SafeR l yX11_count cX11_count 4 (some .int) 1 G (TY cs) [.ref h, .int a1] (mS cs h q F A D B) (fun r : Int32 => True) := by
  refine mkP (Qc := QRi (fun r : Int32 => True)) (by decide) (by simp [lg_sl, Value.category]) ?_
  intro p e s m args below meth c ls hx hb hml hr hlk hown ht hK hP hS hl
  have hl : lv_has ls 4 [(0, .ref h), (1, .int a1)] := hl
  refine lv_iconst (v := 0) hx hb dX11_count_0 (by decide) ?_
  refine lv_istore_n (lv' := [(2, .int 0), (0, .ref h), (1, .int a1)]) hx hb dX11_count_1 rfl hl (by decide) rfl (fun ls hl => ?_)
  refine lv_iload_n hx hb dX11_count_2 rfl (lv_at hl 2 rfl) ?_
  rcases csN8 a1 with hN | hN | rfl | rfl | rfl | rfl | rfl | rfl | rfl | rfl
  · refine lv_tableOut (tgt := 179) hx hb dX11_count_3 (by left; omega) (by decide) ?_
    refine lv_iconst (v := (-1)) hx hb dX11_count_179 (by decide) ?_
    exact retRi hx hb hr hlk hS dX11_count_180 (trivial)
  · refine lv_tableOut (tgt := 179) hx hb dX11_count_3 (by right; omega) (by decide) ?_
    refine lv_iconst (v := (-1)) hx hb dX11_count_179 (by decide) ?_
    exact retRi hx hb hr hlk hS dX11_count_180 (trivial)
  · refine lv_tableIn (off := 45) (tgt := 48) hx hb dX11_count_3 (by decide) (by decide) (by decide) (by decide) ?_
    refine lv_aload_n hx hb dX11_count_48 rfl (lv_at hl 1 rfl) ?_
    refine getF (v := .ref (q 1)) hx hb ht hown hK hP iTX11 0 1 rfl rfl (by decide) fl_RX11_9 rfl dX11_count_49 ?_
    refine lv_iconst (v := 4) hx hb dX11_count_52 (by decide) ?_
    refine va_iald hx hb hK.1 hP 1 0 rfl rfl (show ¬ (_ ∨ _) by decide) dX11_count_53 ?_
    refine W.eq (g2 := F0 m 54 ls [.int (A 1 4)]) rfl ?_
    have zf1 : (0 : Int) ≤ (A 1 4).toInt ∧ (A 1 4).toInt ≤ 7 := (hI.2 1 4)
    exact retRi hx hb hr hlk hS dX11_count_54 (trivial)
  · refine lv_tableIn (off := 52) (tgt := 55) hx hb dX11_count_3 (by decide) (by decide) (by decide) (by decide) ?_
    refine lv_iconst (v := 0) hx hb dX11_count_55 (by decide) ?_
    refine lv_istore_n (lv' := [(3, .int 0), (2, .int 0), (0, .ref h), (1, .int 1)]) hx hb dX11_count_56 rfl hl (by decide) rfl (fun ls hl => ?_)
    have B57 : ∀ (n : Nat) (x57_2 : Int32) (x57_3 : Int32) (H : Heap) (locs : List Loc) (ls : Array Slot), (7 - x57_3.toInt).toNat < n → (0 : Int) ≤ x57_3.toInt ∧ x57_3.toInt ≤ 7 → va_P G vwCl (mS cs h q F A D B) H → va_S (fun q => s.heap.size ≤ q) s.heap H locs → lv_has ls 4 [(0, .ref h), (2, .int x57_2), (3, .int x57_3)] → W p l e (rmk 1 0 0) s m args below meth c H locs 0 0 (MQ below (QRi (fun r : Int32 => True) s.heap.size) args s 0 0 (fun q => s.heap.size ≤ q)) (F0 m 57 ls []) := by
      intro n
      induction n with
      | zero => intro x57_2 x57_3 H locs ls hmeas hx57_3 hP hS hl; exact absurd hmeas (Nat.not_lt_zero _)
      | succ n ih57 =>
        intro x57_2 x57_3 H locs ls hmeas hx57_3 hP hS hl
        refine lv_iload_n hx hb dX11_count_57 rfl (lv_at hl 2 rfl) ?_
        refine lv_aload_n hx hb dX11_count_58 rfl (lv_at hl 0 rfl) ?_
        refine getF (v := .ref (q 1)) hx hb ht hown hK hP iTX11 0 1 rfl rfl (by decide) fl_RX11_9 rfl dX11_count_59 ?_
        refine lv_iconst (v := 4) hx hb dX11_count_62 (by decide) ?_
        refine va_iald hx hb hK.1 hP 1 0 rfl rfl (show ¬ (_ ∨ _) by decide) dX11_count_63 ?_
        refine W.eq (g2 := F0 m 64 ls [.int (A 1 4), .int x57_3]) rfl ?_
        have zf67001 : (0 : Int) ≤ (A 1 4).toInt ∧ (A 1 4).toInt ≤ 7 := (hI.2 1 4)
        refine lv_icmp_ge (tgt := 85) hx hb dX11_count_64 (by decide) (fun c67002 => ?_) (fun c67002 => ?_)
        · have zc67002 := leK rfl rfl c67002
          refine lv_iload_n hx hb dX11_count_85 rfl (lv_at hl 1 rfl) ?_
          refine lv_iconst (v := 2) hx hb dX11_count_86 (by decide) ?_
          refine lv_idiv hx hb dX11_count_87 (by decide) ?_
          refine lv_topi (fun v67003 ev67003 => ?_)
          exact retRi hx hb hr hlk hS dX11_count_88 (trivial)
        · have zc67002 := nleK rfl rfl c67002
          refine lv_iload_n hx hb dX11_count_67 rfl (lv_at hl 1 rfl) ?_
          refine lv_aload_n hx hb dX11_count_68 rfl (lv_at hl 0 rfl) ?_
          refine lv_iload_n hx hb dX11_count_69 rfl (lv_at hl 2 rfl) ?_
          refine lv_iconst (v := 3) hx hb dX11_count_70 (by decide) ?_
          refine behR (runVP (As := [.int x57_3, .int 3]) (rest := [.int x57_2]) ⟨hx, hb, hml, hown, ht⟩ (sX11_of l G cs h q F A D B hI x57_3 3 (by omega) (by decide)) okV_RX11_227 ⟨by decide, by decide⟩ hK hP [0, 1, 2, 3, 4, 5, 6, 7, 8, 9, 10, 11, 12, 13, 14, 15, 16, 17, 18, 19] rfl 0 rfl rfl hl.1 rfl (Nat.le_of_ble_eq_true rfl) dX11_count_71 ⟨by decide, by decide⟩) hP hS (fun _ h => h) (fun r67004 H locs hr67004 hP hS => ?_)
          have kk67005 : (3 : Int32).toInt = 3 := by decide
          have hr67004 : r67004 = (A 1) (8 + 4 * x57_3.toNatClampNeg + (3 : Int32).toNatClampNeg) ∧ (0 : Int) ≤ r67004.toInt ∧ r67004.toInt ≤ 999 ∧ ((3 : Int32).toInt = 3 → r67004.toInt ≤ 127) ∧ ((3 : Int32).toInt = 2 → r67004.toInt ≤ 99) := hr67004
          refine behR (runSP (As := [.int r67004]) (rest := [.int x57_2]) ⟨hx, hb, hml, hown, ht⟩ (sX11_bits l G cs r67004 ) okS_RX11_255 ⟨by decide, by decide⟩ hK hP [] rfl hl.1 rfl (Nat.le_of_ble_eq_true rfl) dX11_count_74 ⟨by decide, by decide⟩) hP hS (fun _ h => h) (fun r67006 H locs hr67006 hP hS => ?_)
          refine lv_iadd hx hb dX11_count_77 ?_
          refine lv_topi (fun v67007 ev67007 => ?_)
          refine lv_istore_n (lv' := [(2, .int v67007), (0, .ref h), (3, .int x57_3)]) hx hb dX11_count_78 rfl hl (by decide) rfl (fun ls hl => ?_)
          obtain ⟨v67008, ev67008⟩ : ∃ z : Int32, z = x57_3 + 1 := ⟨_, rfl⟩
          have tv67008 : v67008.toInt = x57_3.toInt + 1 := by rw [ev67008]; exact addT rfl (by decide) (by omega)
          refine lv_iinc (v := v67008) (lv' := [(3, .int v67008), (2, .int v67007), (0, .ref h)]) hx hb dX11_count_79 hl (k := 2) rfl (by rw [ev67008]; rfl) (by decide) rfl (fun ls hl => ?_)
          refine lv_goto (tgt := 57) hx hb dX11_count_82 (by decide) ?_
          exact ih57 v67007 v67008 H locs ls (by omega) (by omega) hP hS (lv_sub hl [2, 1, 0] rfl)
    exact B57 _ 0 0 s.heap [] ls (Nat.lt_succ_self _) (by decide) hP hS (lv_sub hl [2, 1, 0] rfl)
  · refine lv_tableIn (off := 86) (tgt := 89) hx hb dX11_count_3 (by decide) (by decide) (by decide) (by decide) ?_
    refine lv_aload_n hx hb dX11_count_89 rfl (lv_at hl 1 rfl) ?_
    refine getF (v := .ref (q 1)) hx hb ht hown hK hP iTX11 0 1 rfl rfl (by decide) fl_RX11_9 rfl dX11_count_90 ?_
    refine lv_iconst (v := 5) hx hb dX11_count_93 (by decide) ?_
    refine va_iald hx hb hK.1 hP 1 0 rfl rfl (show ¬ (_ ∨ _) by decide) dX11_count_94 ?_
    refine W.eq (g2 := F0 m 95 ls [.int (A 1 5)]) rfl ?_
    have zf2 : (0 : Int) ≤ (A 1 5).toInt ∧ (A 1 5).toInt ≤ 6 := (hI.2 1 5)
    exact retRi hx hb hr hlk hS dX11_count_95 (trivial)
  · refine lv_tableIn (off := 93) (tgt := 96) hx hb dX11_count_3 (by decide) (by decide) (by decide) (by decide) ?_
    refine lv_iconst (v := 0) hx hb dX11_count_96 (by decide) ?_
    refine lv_istore_n (lv' := [(3, .int 0), (2, .int 0), (0, .ref h), (1, .int 3)]) hx hb dX11_count_97 rfl hl (by decide) rfl (fun ls hl => ?_)
    have B98 : ∀ (n : Nat) (x98_2 : Int32) (x98_3 : Int32) (H : Heap) (locs : List Loc) (ls : Array Slot), (7 - x98_3.toInt).toNat < n → (0 : Int) ≤ x98_3.toInt ∧ x98_3.toInt ≤ 7 → va_P G vwCl (mS cs h q F A D B) H → va_S (fun q => s.heap.size ≤ q) s.heap H locs → lv_has ls 4 [(0, .ref h), (2, .int x98_2), (3, .int x98_3)] → W p l e (rmk 1 0 0) s m args below meth c H locs 0 0 (MQ below (QRi (fun r : Int32 => True) s.heap.size) args s 0 0 (fun q => s.heap.size ≤ q)) (F0 m 98 ls []) := by
      intro n
      induction n with
      | zero => intro x98_2 x98_3 H locs ls hmeas hx98_3 hP hS hl; exact absurd hmeas (Nat.not_lt_zero _)
      | succ n ih98 =>
        intro x98_2 x98_3 H locs ls hmeas hx98_3 hP hS hl
        refine lv_iload_n hx hb dX11_count_98 rfl (lv_at hl 2 rfl) ?_
        refine lv_aload_n hx hb dX11_count_99 rfl (lv_at hl 0 rfl) ?_
        refine getF (v := .ref (q 1)) hx hb ht hown hK hP iTX11 0 1 rfl rfl (by decide) fl_RX11_9 rfl dX11_count_100 ?_
        refine lv_iconst (v := 4) hx hb dX11_count_103 (by decide) ?_
        refine va_iald hx hb hK.1 hP 1 0 rfl rfl (show ¬ (_ ∨ _) by decide) dX11_count_104 ?_
        refine W.eq (g2 := F0 m 105 ls [.int (A 1 4), .int x98_3]) rfl ?_
        have zf43001 : (0 : Int) ≤ (A 1 4).toInt ∧ (A 1 4).toInt ≤ 7 := (hI.2 1 4)
        refine lv_icmp_ge (tgt := 123) hx hb dX11_count_105 (by decide) (fun c43002 => ?_) (fun c43002 => ?_)
        · have zc43002 := leK rfl rfl c43002
          refine lv_iload_n hx hb dX11_count_123 rfl (lv_at hl 1 rfl) ?_
          exact retRi hx hb hr hlk hS dX11_count_124 (trivial)
        · have zc43002 := nleK rfl rfl c43002
          refine lv_iload_n hx hb dX11_count_108 rfl (lv_at hl 1 rfl) ?_
          refine lv_aload_n hx hb dX11_count_109 rfl (lv_at hl 0 rfl) ?_
          refine lv_iload_n hx hb dX11_count_110 rfl (lv_at hl 2 rfl) ?_
          refine lv_iconst (v := 0) hx hb dX11_count_111 (by decide) ?_
          refine behR (runVP (As := [.int x98_3, .int 0]) (rest := [.int x98_2]) ⟨hx, hb, hml, hown, ht⟩ (sX11_of l G cs h q F A D B hI x98_3 0 (by omega) (by decide)) okV_RX11_227 ⟨by decide, by decide⟩ hK hP [0, 1, 2, 3, 4, 5, 6, 7, 8, 9, 10, 11, 12, 13, 14, 15, 16, 17, 18, 19] rfl 0 rfl rfl hl.1 rfl (Nat.le_of_ble_eq_true rfl) dX11_count_112 ⟨by decide, by decide⟩) hP hS (fun _ h => h) (fun r43003 H locs hr43003 hP hS => ?_)
          have kk43004 : (0 : Int32).toInt = 0 := by decide
          have hr43003 : r43003 = (A 1) (8 + 4 * x98_3.toNatClampNeg + (0 : Int32).toNatClampNeg) ∧ (0 : Int) ≤ r43003.toInt ∧ r43003.toInt ≤ 999 ∧ ((0 : Int32).toInt = 3 → r43003.toInt ≤ 127) ∧ ((0 : Int32).toInt = 2 → r43003.toInt ≤ 99) := hr43003
          refine lv_iadd hx hb dX11_count_115 ?_
          refine lv_topi (fun v43005 ev43005 => ?_)
          refine lv_istore_n (lv' := [(2, .int v43005), (0, .ref h), (3, .int x98_3)]) hx hb dX11_count_116 rfl hl (by decide) rfl (fun ls hl => ?_)
          obtain ⟨v43006, ev43006⟩ : ∃ z : Int32, z = x98_3 + 1 := ⟨_, rfl⟩
          have tv43006 : v43006.toInt = x98_3.toInt + 1 := by rw [ev43006]; exact addT rfl (by decide) (by omega)
          refine lv_iinc (v := v43006) (lv' := [(3, .int v43006), (2, .int v43005), (0, .ref h)]) hx hb dX11_count_117 hl (k := 2) rfl (by rw [ev43006]; rfl) (by decide) rfl (fun ls hl => ?_)
          refine lv_goto (tgt := 98) hx hb dX11_count_120 (by decide) ?_
          exact ih98 v43005 v43006 H locs ls (by omega) (by omega) hP hS (lv_sub hl [2, 1, 0] rfl)
    exact B98 _ 0 0 s.heap [] ls (Nat.lt_succ_self _) (by decide) hP hS (lv_sub hl [2, 1, 0] rfl)
  · refine lv_tableIn (off := 122) (tgt := 125) hx hb dX11_count_3 (by decide) (by decide) (by decide) (by decide) ?_
    refine lv_aload_n hx hb dX11_count_125 rfl (lv_at hl 1 rfl) ?_
    refine getF (v := .ref (q 1)) hx hb ht hown hK hP iTX11 0 1 rfl rfl (by decide) fl_RX11_9 rfl dX11_count_126 ?_
    refine lv_bipush (v := 6) hx hb dX11_count_129 (by decide) ?_
    refine va_iald hx hb hK.1 hP 1 0 rfl rfl (show ¬ (_ ∨ _) by decide) dX11_count_131 ?_
    refine W.eq (g2 := F0 m 132 ls [.int (A 1 6)]) rfl ?_
    exact retRi hx hb hr hlk hS dX11_count_132 (trivial)
  · refine lv_tableIn (off := 130) (tgt := 133) hx hb dX11_count_3 (by decide) (by decide) (by decide) (by decide) ?_
    refine lv_aload_n hx hb dX11_count_133 rfl (lv_at hl 1 rfl) ?_
    refine getF (v := .int (F 5)) hx hb ht hown hK hP iTX11 0 5 rfl rfl (by decide) fl_RX11_93 rfl dX11_count_134 ?_
    have zf3 : (0 : Int) ≤ (F 5).toInt ∧ (F 5).toInt ≤ 900 := hI.1 5
    exact retRi hx hb hr hlk hS dX11_count_137 (trivial)
  · refine lv_tableIn (off := 135) (tgt := 138) hx hb dX11_count_3 (by decide) (by decide) (by decide) (by decide) ?_
    refine lv_aload_n hx hb dX11_count_138 rfl (lv_at hl 1 rfl) ?_
    refine getF (v := .ref (q 1)) hx hb ht hown hK hP iTX11 0 1 rfl rfl (by decide) fl_RX11_9 rfl dX11_count_139 ?_
    refine lv_bipush (v := 7) hx hb dX11_count_142 (by decide) ?_
    refine va_iald hx hb hK.1 hP 1 0 rfl rfl (show ¬ (_ ∨ _) by decide) dX11_count_144 ?_
    refine W.eq (g2 := F0 m 145 ls [.int (A 1 7)]) rfl ?_
    have zf4 : (0 : Int) ≤ (A 1 7).toInt ∧ (A 1 7).toInt ≤ 60 := (hI.2 1 7)
    exact retRi hx hb hr hlk hS dX11_count_145 (trivial)
  · refine lv_tableIn (off := 143) (tgt := 146) hx hb dX11_count_3 (by decide) (by decide) (by decide) (by decide) ?_
    refine lv_iconst (v := 0) hx hb dX11_count_146 (by decide) ?_
    refine lv_istore_n (lv' := [(3, .int 0), (2, .int 0), (0, .ref h), (1, .int 7)]) hx hb dX11_count_147 rfl hl (by decide) rfl (fun ls hl => ?_)
    have B148 : ∀ (n : Nat) (x148_2 : Int32) (x148_3 : Int32) (H : Heap) (locs : List Loc) (ls : Array Slot), (4 - x148_3.toInt).toNat < n → (0 : Int) ≤ x148_3.toInt ∧ x148_3.toInt ≤ 4 → va_P G vwCl (mS cs h q F A D B) H → va_S (fun q => s.heap.size ≤ q) s.heap H locs → lv_has ls 4 [(0, .ref h), (2, .int x148_2), (3, .int x148_3)] → W p l e (rmk 1 0 0) s m args below meth c H locs 0 0 (MQ below (QRi (fun r : Int32 => True) s.heap.size) args s 0 0 (fun q => s.heap.size ≤ q)) (F0 m 148 ls []) := by
      intro n
      induction n with
      | zero => intro x148_2 x148_3 H locs ls hmeas hx148_3 hP hS hl; exact absurd hmeas (Nat.not_lt_zero _)
      | succ n ih148 =>
        intro x148_2 x148_3 H locs ls hmeas hx148_3 hP hS hl
        refine lv_iload_n hx hb dX11_count_148 rfl (lv_at hl 2 rfl) ?_
        refine lv_iconst (v := 4) hx hb dX11_count_149 (by decide) ?_
        refine lv_icmp_ge (tgt := 177) hx hb dX11_count_150 (by decide) (fun c9001 => ?_) (fun c9001 => ?_)
        · have zc9001 := leK (show (4 : Int32).toInt = 4 by decide) rfl c9001
          refine lv_iload_n hx hb dX11_count_177 rfl (lv_at hl 1 rfl) ?_
          exact retRi hx hb hr hlk hS dX11_count_178 (trivial)
        · have zc9001 := nleK (show (4 : Int32).toInt = 4 by decide) rfl c9001
          refine lv_iload_n hx hb dX11_count_153 rfl (lv_at hl 1 rfl) ?_
          refine lv_aload_n hx hb dX11_count_154 rfl (lv_at hl 0 rfl) ?_
          refine getF (v := .ref (q 31)) hx hb ht hown hK hP iTX11 0 31 rfl rfl (by decide) fl_RX11_61 rfl dX11_count_155 ?_
          refine lv_iload_n hx hb dX11_count_158 rfl (lv_at hl 2 rfl) ?_
          refine va_iald hx hb hK.1 hP 16 0 rfl rfl (inK rfl (by omega) (by decide)) dX11_count_159 ?_
          refine lv_topi (fun v9002 ev9002 => ?_)
          have zf9003 : (-1 : Int) ≤ v9002.toInt ∧ v9002.toInt ≤ 60 := by rw [ev9002]; exact (hI.2 31 _)
          have nv9002 : v9002.toInt = (A 31 x148_3.toNatClampNeg).toInt := congrArg Int32.toInt ev9002
          refine lv_iconst (v := (-1)) hx hb dX11_count_160 (by decide) ?_
          have B169 : ∀ (s169_0 : Int32) (s169_1 : Int32) (H : Heap) (locs : List Loc) (ls : Array Slot), (0 : Int) ≤ s169_0.toInt ∧ s169_0.toInt ≤ 1 → va_P G vwCl (mS cs h q F A D B) H → va_S (fun q => s.heap.size ≤ q) s.heap H locs → lv_has ls 4 [(0, .ref h), (3, .int x148_3)] → W p l e (rmk 1 0 0) s m args below meth c H locs 0 0 (MQ below (QRi (fun r : Int32 => True) s.heap.size) args s 0 0 (fun q => s.heap.size ≤ q)) (F0 m 169 ls [.int s169_0, .int s169_1]) := by
            intro s169_0 s169_1 H locs ls hs169_0 hP hS hl
            refine lv_iadd hx hb dX11_count_169 ?_
            refine lv_topi (fun v22001 ev22001 => ?_)
            refine lv_istore_n (lv' := [(2, .int v22001), (0, .ref h), (3, .int x148_3)]) hx hb dX11_count_170 rfl hl (by decide) rfl (fun ls hl => ?_)
            obtain ⟨v22002, ev22002⟩ : ∃ z : Int32, z = x148_3 + 1 := ⟨_, rfl⟩
            have tv22002 : v22002.toInt = x148_3.toInt + 1 := by rw [ev22002]; exact addT rfl (by decide) (by omega)
            refine lv_iinc (v := v22002) (lv' := [(3, .int v22002), (2, .int v22001), (0, .ref h)]) hx hb dX11_count_171 hl (k := 2) rfl (by rw [ev22002]; rfl) (by decide) rfl (fun ls hl => ?_)
            refine lv_goto (tgt := 148) hx hb dX11_count_174 (by decide) ?_
            exact ih148 v22001 v22002 H locs ls (by omega) (by omega) hP hS (lv_sub hl [2, 1, 0] rfl)
          refine lv_icmp_ne (tgt := 168) hx hb dX11_count_161 (by decide) (fun c9004 => ?_) (fun c9004 => ?_)
          · have zc9004 := neK rfl (show (-1 : Int32).toInt = (-1) by decide) c9004
            refine lv_iconst (v := 1) hx hb dX11_count_168 (by decide) ?_
            exact B169 1 x148_2 H locs ls (by decide) hP hS (lv_sub hl [0, 2] rfl)
          · have zc9004 := eqK rfl (show (-1 : Int32).toInt = (-1) by decide) c9004
            refine lv_iconst (v := 0) hx hb dX11_count_164 (by decide) ?_
            refine lv_goto (tgt := 169) hx hb dX11_count_165 (by decide) ?_
            exact B169 0 x148_2 H locs ls (by decide) hP hS (lv_sub hl [0, 2] rfl)
    exact B148 _ 0 0 s.heap [] ls (Nat.lt_succ_self _) (by decide) hP hS (lv_sub hl [2, 1, 0] rfl)

set_option maxRecDepth 100000 in
set_option maxHeartbeats 8000000 in
theorem sX11_isSlot (l : Launch) (G : va_G) (cs : Nat → ClassId) (a1 : Int32) : SafeR l yX11_isSlot cX11_isSlot 1 (some .boolean) 1 G (TY cs) [.int a1] [] (fun r : Int32 => (r.toInt = 1 ∧ 0 ≤ a1.toInt ∧ a1.toInt ≤ 3) ∨ (r.toInt = 0 ∧ (a1.toInt < 0 ∨ 3 < a1.toInt))) := by
  refine mkP (Qc := QRi (fun r : Int32 => (r.toInt = 1 ∧ 0 ≤ a1.toInt ∧ a1.toInt ≤ 3) ∨ (r.toInt = 0 ∧ (a1.toInt < 0 ∨ 3 < a1.toInt)))) (by decide) (by simp [lg_sl, Value.category]) ?_
  intro p e s m args below meth c ls hx hb hml hr hlk hown ht hK hP hS hl
  have hl : lv_has ls 1 [(0, .int a1)] := hl
  refine lv_iload_n hx hb dX11_isSlot_0 rfl (lv_at hl 0 rfl) ?_
  refine lv_i2l hx hb dX11_isSlot_1 rfl ?_
  have bb1 := i32b a1
  refine lv_topl (fun v2 ev2 => ?_)
  have tv2 : v2.toInt = a1.toInt := by rw [ev2]; exact Int32.toInt_toInt64 _
  refine lv_lconst (v := 0) hx hb dX11_isSlot_2 (by decide) ?_
  refine lv_ldc2 hx hb hown (ht _ kl_RX11_225) dX11_isSlot_3 ?_
  refine behR (runSP (As := [.long v2, .long 0, .long 3]) (rest := []) ⟨hx, hb, hml, hown, ht⟩ (sX11_in l G cs v2 0 3 ) okS_RX11_79 ⟨by decide, by decide⟩ hK hP [] rfl hl.1 rfl (Nat.le_of_ble_eq_true rfl) dX11_isSlot_6 ⟨by decide, by decide⟩) hP hS (fun _ h => h) (fun r3 H locs hr3 hP hS => ?_)
  have kk4 : (0 : Int64).toInt = 0 := by decide
  have kk5 : (3 : Int64).toInt = 3 := by decide
  have hr3 : (r3.toInt = 1 ∧ (0 : Int64).toInt ≤ v2.toInt ∧ v2.toInt ≤ (3 : Int64).toInt) ∨ (r3.toInt = 0 ∧ (v2.toInt < (0 : Int64).toInt ∨ (3 : Int64).toInt < v2.toInt)) := hr3
  exact retRz hx hb hr hlk hS dX11_isSlot_9 (narZ (by omega)) (show (r3.toInt = 1 ∧ 0 ≤ a1.toInt ∧ a1.toInt ≤ 3) ∨ (r3.toInt = 0 ∧ (a1.toInt < 0 ∨ 3 < a1.toInt)) by omega)

set_option maxRecDepth 100000 in
set_option maxHeartbeats 8000000 in
theorem sX11_cut (l : Launch) (G : va_G) (cs : Nat → ClassId) (a1 : Int64) (a2 : Int32) : SafeL l yX11_cut cX11_cut 4 (some .long) 0 G (TY cs) [.long a1, .int a2] [] (fun r : Int64 => True) := by
  refine mkP (Qc := QRl (fun r : Int64 => True)) (by decide) (by simp [lg_sl, Value.category]) ?_
  intro p e s m args below meth c ls hx hb hml hr hlk hown ht hK hP hS hl
  have hl : lv_has ls 4 [(0, .long a1), (2, .int a2)] := hl
  refine lv_bipush (v := 64) hx hb dX11_cut_0 (by decide) ?_
  refine lv_bipush (v := 8) hx hb dX11_cut_2 (by decide) ?_
  refine lv_iload_n hx hb dX11_cut_4 rfl (lv_at hl 1 rfl) ?_
  refine lv_ishl hx hb dX11_cut_5 ?_
  refine lv_topi (fun v1 ev1 => ?_)
  refine lv_isub hx hb dX11_cut_6 ?_
  refine lv_topi (fun v2 ev2 => ?_)
  refine lv_istore_n (lv' := [(3, .int v2), (0, .long a1), (2, .int a2)]) hx hb dX11_cut_7 rfl hl (by decide) rfl (fun ls hl => ?_)
  refine lv_lload_n hx hb dX11_cut_8 rfl (lv_at hl 1 rfl) ?_
  refine lv_iload_n hx hb dX11_cut_9 rfl (lv_at hl 0 rfl) ?_
  refine lv_lshl hx hb dX11_cut_10 rfl ?_
  refine lv_topl (fun v3 ev3 => ?_)
  refine lv_iload_n hx hb dX11_cut_11 rfl (lv_at hl 0 rfl) ?_
  refine lv_lshr hx hb dX11_cut_12 rfl ?_
  refine lv_topl (fun v4 ev4 => ?_)
  exact retRl hx hb hr hlk hS dX11_cut_13 (trivial)

set_option maxRecDepth 100000 in
set_option maxHeartbeats 8000000 in
theorem sX11_row (l : Launch) (G : va_G) (cs : Nat → ClassId) (h : Nat) (q : Nat → Nat) (F : Nat → Int32) (A : Nat → Nat → Int32) (D : Int64) (B : Nat → Nat → Int64) (hI : IM F A) (a1 : Int32) (a2 : Int32) (a3 : Int32) : ImpI l yX11_row cX11_row 5 (some .int) 2 0 0 G (TY cs) [.ref h, .int a1, .int a2, .int a3] (mS cs h q F A D B) (fun (r : Int32) (u : (Nat → Int32) × (Nat → Int32) × (Nat → Int64)) => AI 31 u.1 ∧ AI 32 u.2.1 ∧ (RowM r a1 a2 a3 (A 31) u.1 (A 32) u.2.1)) (fun u : (Nat → Int32) × (Nat → Int32) × (Nat → Int64) => (mS cs h q F (vA (vA A 31 u.1) 32 u.2.1) D (vA B 33 u.2.2))) := by
  refine mkD (Qc := (QDi G (fun (r : Int32) (u : (Nat → Int32) × (Nat → Int32) × (Nat → Int64)) => AI 31 u.1 ∧ AI 32 u.2.1 ∧ (RowM r a1 a2 a3 (A 31) u.1 (A 32) u.2.1)) (fun u : (Nat → Int32) × (Nat → Int32) × (Nat → Int64) => (mS cs h q F (vA (vA A 31 u.1) 32 u.2.1) D (vA B 33 u.2.2))))) (by decide) (by simp [lg_sl, Value.category]) ?_
  intro p e s m args below meth c ls A0 hx hb hml hr hlk hown hmn ht hK hP hD hS hA hl
  have hl : lv_has ls 5 [(0, .ref h), (1, .int a1), (2, .int a2), (3, .int a3)] := hl
  refine lv_iload_n hx hb dX11_row_0 rfl (lv_at hl 1 rfl) ?_
  refine behR (runSP (As := [.int a1]) (rest := []) ⟨hx, hb, hml, hown, ht⟩ (sX11_isSlot l G cs a1 ) okS_RX11_290 ⟨by decide, by decide⟩ hK hP [] rfl hl.1 rfl (Nat.le_of_ble_eq_true rfl) dX11_row_1 ⟨by decide, by decide⟩) hP hS hA (fun r1 H locs hr1 hP hS => ?_)
  have hr1 : (r1.toInt = 1 ∧ 0 ≤ a1.toInt ∧ a1.toInt ≤ 3) ∨ (r1.toInt = 0 ∧ (a1.toInt < 0 ∨ 3 < a1.toInt)) := hr1
  refine lv_if_eq (tgt := 25) hx hb dX11_row_4 (by decide) (fun c2 => ?_) (fun c2 => ?_)
  · have zc2 := eqK rfl (show (0 : Int32).toInt = 0 by decide) c2
    refine lv_bipush (v := (-2)) hx hb dX11_row_25 (by decide) ?_
    exact retDi ((A 31), (A 32), (B 33)) hx hb hr hlk hP hD hS dX11_row_27 (⟨fun j => hI.2 31 j, fun j => hI.2 32 j, Or.inl ⟨by decide, by omega, rfl, rfl⟩⟩) (Nat.le_of_ble_eq_true rfl) (Nat.le_of_ble_eq_true rfl)
  · have zc2 := neK rfl (show (0 : Int32).toInt = 0 by decide) c2
    refine lv_iload_n hx hb dX11_row_7 rfl (lv_at hl 2 rfl) ?_
    refine lv_i2l hx hb dX11_row_8 rfl ?_
    have bb3 := i32b a2
    refine lv_topl (fun v4 ev4 => ?_)
    have tv4 : v4.toInt = a2.toInt := by rw [ev4]; exact Int32.toInt_toInt64 _
    refine lv_lconst (v := 0) hx hb dX11_row_9 (by decide) ?_
    refine lv_ldc2 hx hb hown (ht _ kl_RX11_225) dX11_row_10 ?_
    refine behR (runSP (As := [.long v4, .long 0, .long 3]) (rest := []) ⟨hx, hb, hml, hown, ht⟩ (sX11_in l G cs v4 0 3 ) okS_RX11_79 ⟨by decide, by decide⟩ hK hP [] rfl hl.1 rfl (Nat.le_of_ble_eq_true rfl) dX11_row_13 ⟨by decide, by decide⟩) hP hS hA (fun r5 H locs hr5 hP hS => ?_)
    have kk6 : (0 : Int64).toInt = 0 := by decide
    have kk7 : (3 : Int64).toInt = 3 := by decide
    have hr5 : (r5.toInt = 1 ∧ (0 : Int64).toInt ≤ v4.toInt ∧ v4.toInt ≤ (3 : Int64).toInt) ∨ (r5.toInt = 0 ∧ (v4.toInt < (0 : Int64).toInt ∨ (3 : Int64).toInt < v4.toInt)) := hr5
    refine lv_if_eq (tgt := 25) hx hb dX11_row_16 (by decide) (fun c8 => ?_) (fun c8 => ?_)
    · have zc8 := eqK rfl (show (0 : Int32).toInt = 0 by decide) c8
      refine lv_bipush (v := (-2)) hx hb dX11_row_25 (by decide) ?_
      exact retDi ((A 31), (A 32), (B 33)) hx hb hr hlk hP hD hS dX11_row_27 (⟨fun j => hI.2 31 j, fun j => hI.2 32 j, Or.inl ⟨by decide, by omega, rfl, rfl⟩⟩) (Nat.le_of_ble_eq_true rfl) (Nat.le_of_ble_eq_true rfl)
    · have zc8 := neK rfl (show (0 : Int32).toInt = 0 by decide) c8
      refine lv_iload_n hx hb dX11_row_19 rfl (lv_at hl 3 rfl) ?_
      refine lv_bipush (v := 60) hx hb dX11_row_20 (by decide) ?_
      refine lv_icmp_le (tgt := 28) hx hb dX11_row_22 (by decide) (fun c9 => ?_) (fun c9 => ?_)
      · have zc9 := leK rfl (show (60 : Int32).toInt = 60 by decide) c9
        refine lv_iload_n hx hb dX11_row_28 rfl (lv_at hl 3 rfl) ?_
        refine lv_if_ge (tgt := 35) hx hb dX11_row_29 (by decide) (fun c10 => ?_) (fun c10 => ?_)
        · have zc10 := leK (show (0 : Int32).toInt = 0 by decide) rfl c10
          refine lv_aload_n hx hb dX11_row_35 rfl (lv_at hl 0 rfl) ?_
          refine getF (v := .ref (q 31)) hx hb ht hown hK hP iTX11 0 31 rfl rfl (by decide) fl_RX11_61 rfl dX11_row_36 ?_
          refine lv_iload_n hx hb dX11_row_39 rfl (lv_at hl 1 rfl) ?_
          refine lv_iload_n hx hb dX11_row_40 rfl (lv_at hl 3 rfl) ?_
          refine va_iast hx hb hK.1 hP hD hS 16 0 rfl rfl (inK rfl (by omega) (by decide)) dX11_row_41 (fun H locs hP hD hS => ?_)
          have hP : va_P G vwCl (mS cs h q F (vA A 31 (upd (A 31) a1.toNatClampNeg a3)) D B) H := hP
          have hD : va_D A0 (mS cs h q F (vA A 31 (upd (A 31) a1.toNatClampNeg a3)) D B) := hD
          obtain ⟨g11, eg11⟩ : ∃ z : Nat → Int32, z = upd (A 31) a1.toNatClampNeg a3 := ⟨_, rfl⟩
          rw [← eg11] at hP hD
          have hg11 : AI 31 g11 := by rw [eg11]; exact AI_upd (fun j => hI.2 31 j) (show (-1 : Int) ≤ a3.toInt ∧ a3.toInt ≤ 60 by omega)
          refine lv_aload_n hx hb dX11_row_42 rfl (lv_at hl 0 rfl) ?_
          refine getF (v := .ref (q 32)) hx hb ht hown hK hP iTX11 0 32 rfl rfl (by decide) fl_RX11_64 rfl dX11_row_43 ?_
          refine lv_iload_n hx hb dX11_row_46 rfl (lv_at hl 1 rfl) ?_
          refine lv_iload_n hx hb dX11_row_47 rfl (lv_at hl 2 rfl) ?_
          refine va_iast hx hb hK.1 hP hD hS 17 0 rfl rfl (inK rfl (by omega) (by decide)) dX11_row_48 (fun H locs hP hD hS => ?_)
          have hP : va_P G vwCl (mS cs h q F (vA (vA A 31 g11) 32 (upd (A 32) a1.toNatClampNeg a2)) D B) H := hP
          have hD : va_D A0 (mS cs h q F (vA (vA A 31 g11) 32 (upd (A 32) a1.toNatClampNeg a2)) D B) := hD
          obtain ⟨g12, eg12⟩ : ∃ z : Nat → Int32, z = upd (A 32) a1.toNatClampNeg a2 := ⟨_, rfl⟩
          rw [← eg12] at hP hD
          have hg12 : AI 32 g12 := by rw [eg12]; exact AI_upd (fun j => hI.2 32 j) (show (0 : Int) ≤ a2.toInt ∧ a2.toInt ≤ 3 by omega)
          refine lv_iconst (v := 0) hx hb dX11_row_49 (by decide) ?_
          refine lv_istore (lv' := [(4, .int 0), (0, .ref h), (1, .int a1), (2, .int a2), (3, .int a3)]) hx hb dX11_row_50 hl (by decide) rfl (fun ls hl => ?_)
          have B52 : ∀ (n : Nat) (x52_4 : Int32) (b33_52 : (Nat → Int64)) (H : Heap) (locs : List Loc) (ls : Array Slot), (60 - x52_4.toInt).toNat < n → (0 : Int) ≤ x52_4.toInt ∧ x52_4.toInt ≤ 60 → va_P G vwCl (mS cs h q F (vA (vA A 31 g11) 32 g12) D (vA B 33 b33_52)) H → va_D A0 (mS cs h q F (vA (vA A 31 g11) 32 g12) D (vA B 33 b33_52)) → va_S A0 s.heap H locs → lv_has ls 5 [(0, .ref h), (1, .int a1), (4, .int x52_4)] → W p l e (rmk 2 0 0) s m args below meth c H locs 0 0 (MQ below ((QDi G (fun (r : Int32) (u : (Nat → Int32) × (Nat → Int32) × (Nat → Int64)) => AI 31 u.1 ∧ AI 32 u.2.1 ∧ (RowM r a1 a2 a3 (A 31) u.1 (A 32) u.2.1)) (fun u : (Nat → Int32) × (Nat → Int32) × (Nat → Int64) => (mS cs h q F (vA (vA A 31 u.1) 32 u.2.1) D (vA B 33 u.2.2)))) A0) args s 0 0 A0) (F0 m 52 ls []) := by
            intro n
            induction n with
            | zero => intro x52_4 b33_52 H locs ls hmeas hx52_4 hP hD hS hl; exact absurd hmeas (Nat.not_lt_zero _)
            | succ n ih52 =>
              intro x52_4 b33_52 H locs ls hmeas hx52_4 hP hD hS hl
              refine lv_iload hx hb dX11_row_52 (lv_at hl 2 rfl) ?_
              refine lv_bipush (v := 60) hx hb dX11_row_54 (by decide) ?_
              refine lv_icmp_ge (tgt := 78) hx hb dX11_row_56 (by decide) (fun c29001 => ?_) (fun c29001 => ?_)
              · have zc29001 := leK (show (60 : Int32).toInt = 60 by decide) rfl c29001
                refine lv_iconst (v := 0) hx hb dX11_row_78 (by decide) ?_
                exact retDi (g11, g12, b33_52) hx hb hr hlk hP hD hS dX11_row_79 (⟨hg11, hg12, Or.inr (Or.inr ⟨by decide, by omega, by omega, by omega, eg11, eg12⟩)⟩) (Nat.le_of_ble_eq_true rfl) (Nat.le_of_ble_eq_true rfl)
              · have zc29001 := nleK (show (60 : Int32).toInt = 60 by decide) rfl c29001
                refine lv_aload_n hx hb dX11_row_59 rfl (lv_at hl 0 rfl) ?_
                refine getF (v := .ref (q 33)) hx hb ht hown hK hP iTX11 0 33 rfl rfl (by decide) fl_RX11_67 rfl dX11_row_60 ?_
                refine lv_bipush (v := 60) hx hb dX11_row_63 (by decide) ?_
                refine lv_iload_n hx hb dX11_row_65 rfl (lv_at hl 1 rfl) ?_
                refine lv_imul hx hb dX11_row_66 ?_
                refine lv_topi (fun v29002 ev29002 => ?_)
                have tv29002 : v29002.toInt = 60 * a1.toInt := by rw [ev29002]; exact mulT (show (60 : Int32).toInt = 60 by decide) rfl (by omega)
                refine lv_iload hx hb dX11_row_67 (lv_at hl 2 rfl) ?_
                refine lv_iadd hx hb dX11_row_69 ?_
                refine lv_topi (fun v29003 ev29003 => ?_)
                have tv29003 : v29003.toInt = v29002.toInt + x52_4.toInt := by rw [ev29003]; exact addT rfl rfl (by omega)
                refine lv_lconst (v := 0) hx hb dX11_row_70 (by decide) ?_
                refine va_last hx hb hK.1 hP hD hS 18 2 rfl rfl (inK rfl (by omega) (by decide)) dX11_row_71 (fun H locs hP hD hS => ?_)
                obtain ⟨g29004, hP, hD⟩ : ∃ g29004 : Nat → Int64, va_P G vwCl (mS cs h q F (vA (vA A 31 g11) 32 g12) D (vA B 33 g29004)) H ∧ va_D A0 (mS cs h q F (vA (vA A 31 g11) 32 g12) D (vA B 33 g29004)) := ⟨vp_updL b33_52 v29003.toNatClampNeg (0 : Int64), hP, hD⟩
                obtain ⟨v29005, ev29005⟩ : ∃ z : Int32, z = x52_4 + 1 := ⟨_, rfl⟩
                have tv29005 : v29005.toInt = x52_4.toInt + 1 := by rw [ev29005]; exact addT rfl (by decide) (by omega)
                refine lv_iinc (v := v29005) (lv' := [(4, .int v29005), (0, .ref h), (1, .int a1)]) hx hb dX11_row_72 hl (k := 2) rfl (by rw [ev29005]; rfl) (by decide) rfl (fun ls hl => ?_)
                refine lv_goto (tgt := 52) hx hb dX11_row_75 (by decide) ?_
                exact ih52 v29005 g29004 H locs ls (by omega) (by omega) hP hD hS (lv_sub hl [1, 2, 0] rfl)
          exact B52 _ 0 (B 33) H locs ls (Nat.lt_succ_self _) (by decide) hP hD hS (lv_sub hl [1, 2, 0] rfl)
        · have zc10 := nleK (show (0 : Int32).toInt = 0 by decide) rfl c10
          refine lv_bipush (v := (-3)) hx hb dX11_row_32 (by decide) ?_
          exact retDi ((A 31), (A 32), (B 33)) hx hb hr hlk hP hD hS dX11_row_34 (⟨fun j => hI.2 31 j, fun j => hI.2 32 j, Or.inr (Or.inl ⟨by decide, by omega, by omega, by omega, rfl, rfl⟩)⟩) (Nat.le_of_ble_eq_true rfl) (Nat.le_of_ble_eq_true rfl)
      · have zc9 := nleK rfl (show (60 : Int32).toInt = 60 by decide) c9
        refine lv_bipush (v := (-2)) hx hb dX11_row_25 (by decide) ?_
        exact retDi ((A 31), (A 32), (B 33)) hx hb hr hlk hP hD hS dX11_row_27 (⟨fun j => hI.2 31 j, fun j => hI.2 32 j, Or.inl ⟨by decide, by omega, rfl, rfl⟩⟩) (Nat.le_of_ble_eq_true rfl) (Nat.le_of_ble_eq_true rfl)

