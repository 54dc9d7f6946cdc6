set_option maxRecDepth 100000 in
set_option maxHeartbeats 8000000 in
theorem sX11_disturbs (l : Launch) (G : va_G) (cs : Nat → ClassId) (h : Nat) (q : Nat → Nat) (F : Nat → Int32) (A : Nat → Nat → Int32) (D : Int64) (B : Nat → Nat → Int64) (hI : IM F A) (a1 : Int32) : SafeR l yX11_disturbs cX11_disturbs 5 (some .int) 4 G (TY cs) [.ref h, .int a1] (mS cs h q F A D B) (fun r : Int32 => True) := by
  refine mkP (Qc := QRi (fun r : Int32 => True)) (by decide) (by simp [lg_sl, Value.category]) ?_
  intro p e s m args below meth c ls hx hb hml hr hlk hown ht hK hP hS hl
  have hl : lv_has ls 5 [(0, .ref h), (1, .int a1)] := hl
  refine lv_aload_n hx hb dX11_disturbs_0 rfl (lv_at hl 0 rfl) ?_
  refine lv_iload_n hx hb dX11_disturbs_1 rfl (lv_at hl 1 rfl) ?_
  refine lv_iconst (v := 1) hx hb dX11_disturbs_2 (by decide) ?_
  refine behR (runVP (As := [.int a1, .int 1]) (rest := []) ⟨hx, hb, hml, hown, ht⟩ (sX11_asksRound l G cs h q F A D B hI a1 1 (by decide)) okV_RX11_303 ⟨by decide, by decide⟩ hK hP [0, 1, 2, 3, 4, 5, 6, 7, 8, 9, 10, 11, 12, 13, 14, 15, 16, 17, 18, 19] rfl 0 rfl rfl hl.1 rfl (Nat.le_of_ble_eq_true rfl) dX11_disturbs_3 ⟨by decide, by decide⟩) hP hS (fun _ h => h) (fun r1 H locs hr1 hP hS => ?_)
  have kk2 : (1 : Int32).toInt = 1 := by decide
  have hr1 : (r1.toInt = -2 ∨ r1.toInt = -6 ∨ (r1.toInt = 0 ∧ 0 ≤ a1.toInt ∧ a1.toInt ≤ 3 ∧ 0 ≤ (A 31 a1.toNatClampNeg).toInt ∧ (1 : Int32).toInt = 1)) ∧ (r1.toInt = 0 → RV B a1 (A 31 a1.toNatClampNeg).toInt) := hr1
  obtain ⟨hr1, gr1⟩ := hr1
  refine lv_istore_n (lv' := [(2, .int r1), (0, .ref h), (1, .int a1)]) hx hb dX11_disturbs_6 rfl hl (by decide) rfl (fun ls hl => ?_)
  refine lv_iload_n hx hb dX11_disturbs_7 rfl (lv_at hl 0 rfl) ?_
  refine lv_if_ge (tgt := 13) hx hb dX11_disturbs_8 (by decide) (fun c3 => ?_) (fun c3 => ?_)
  · have zc3 := leK (show (0 : Int32).toInt = 0 by decide) rfl c3
    refine lv_iconst (v := 0) hx hb dX11_disturbs_13 (by decide) ?_
    refine lv_istore_n (lv' := [(3, .int 0), (2, .int r1), (0, .ref h), (1, .int a1)]) hx hb dX11_disturbs_14 rfl hl (by decide) rfl (fun ls hl => ?_)
    refine lv_iconst (v := 0) hx hb dX11_disturbs_15 (by decide) ?_
    refine lv_istore (lv' := [(4, .int 0), (3, .int 0), (2, .int r1), (0, .ref h), (1, .int a1)]) hx hb dX11_disturbs_16 hl (by decide) rfl (fun ls hl => ?_)
    have B18 : ∀ (n : Nat) (x18_3 : Int32) (x18_4 : Int32) (H : Heap) (locs : List Loc) (ls : Array Slot), (60 - x18_4.toInt).toNat < n → (0 : Int) ≤ x18_4.toInt ∧ x18_4.toInt ≤ 60 → va_P G vwCl (mS cs h q F A D B) H → va_S (fun q => s.heap.size ≤ q) s.heap H locs → lv_has ls 5 [(0, .ref h), (1, .int a1), (3, .int x18_3), (4, .int x18_4)] → W p l e (rmk 4 0 0) s m args below meth c H locs 0 0 (MQ below (QRi (fun r : Int32 => True) s.heap.size) args s 0 0 (fun q => s.heap.size ≤ q)) (F0 m 18 ls []) := by
      intro n
      induction n with
      | zero => intro x18_3 x18_4 H locs ls hmeas hx18_4 hP hS hl; exact absurd hmeas (Nat.not_lt_zero _)
      | succ n ih18 =>
        intro x18_3 x18_4 H locs ls hmeas hx18_4 hP hS hl
        refine lv_iload hx hb dX11_disturbs_18 (lv_at hl 3 rfl) ?_
        refine lv_aload_n hx hb dX11_disturbs_20 rfl (lv_at hl 0 rfl) ?_
        refine getF (v := .ref (q 31)) hx hb ht hown hK hP iTX11 0 31 rfl rfl (by decide) fl_RX11_61 rfl dX11_disturbs_21 ?_
        refine lv_iload_n hx hb dX11_disturbs_24 rfl (lv_at hl 1 rfl) ?_
        refine va_iald hx hb hK.1 hP 16 0 rfl rfl (inK rfl (by omega) (by decide)) dX11_disturbs_25 ?_
        refine lv_topi (fun v14001 ev14001 => ?_)
        have zf14002 : (-1 : Int) ≤ v14001.toInt ∧ v14001.toInt ≤ 60 := by rw [ev14001]; exact (hI.2 31 _)
        have nv14001 : v14001.toInt = (A 31 a1.toNatClampNeg).toInt := congrArg Int32.toInt ev14001
        refine lv_icmp_ge (tgt := 65) hx hb dX11_disturbs_26 (by decide) (fun c14003 => ?_) (fun c14003 => ?_)
        · have zc14003 := leK rfl rfl c14003
          refine lv_iload_n hx hb dX11_disturbs_65 rfl (lv_at hl 2 rfl) ?_
          exact retRi hx hb hr hlk hS dX11_disturbs_66 (trivial)
        · have zc14003 := nleK rfl rfl c14003
          refine lv_iload_n hx hb dX11_disturbs_29 rfl (lv_at hl 2 rfl) ?_
          refine lv_aload_n hx hb dX11_disturbs_30 rfl (lv_at hl 0 rfl) ?_
          refine lv_iload_n hx hb dX11_disturbs_31 rfl (lv_at hl 1 rfl) ?_
          refine lv_iload hx hb dX11_disturbs_32 (lv_at hl 3 rfl) ?_
          refine behR (runVP (As := [.int a1, .int x18_4]) (rest := [.int x18_3]) ⟨hx, hb, hml, hown, ht⟩ (sX11_roomAt l G cs h q F A D B hI a1 x18_4 (by omega) (by omega)) okV_RX11_293 ⟨by decide, by decide⟩ hK hP [0, 1, 2, 3, 4, 5, 6, 7, 8, 9, 10, 11, 12, 13, 14, 15, 16, 17, 18, 19] rfl 0 rfl rfl hl.1 rfl (Nat.le_of_ble_eq_true rfl) dX11_disturbs_34 ⟨by decide, by decide⟩) hP hS (fun _ h => h) (fun r14004 H locs hr14004 hP hS => ?_)
          have hr14004 : r14004 = (B 33 (60 * a1.toNatClampNeg + x18_4.toNatClampNeg)).toInt32 := hr14004
          have zbr14004 : -1 ≤ r14004.toInt ∧ r14004.toInt ≤ 6 := by rw [hr14004]; exact RVroom (gr1 (by omega)) (by have q1 := clK (i := x18_4) rfl (by omega); omega)
          refine lv_iconst (v := (-1)) hx hb dX11_disturbs_37 (by decide) ?_
          have B57 : ∀ (s57_0 : Int32) (s57_1 : Int32) (H : Heap) (locs : List Loc) (ls : Array Slot), (0 : Int) ≤ s57_0.toInt ∧ s57_0.toInt ≤ 999 → va_P G vwCl (mS cs h q F A D B) H → va_S (fun q => s.heap.size ≤ q) s.heap H locs → lv_has ls 5 [(0, .ref h), (1, .int a1), (4, .int x18_4)] → W p l e (rmk 4 0 0) s m args below meth c H locs 0 0 (MQ below (QRi (fun r : Int32 => True) s.heap.size) args s 0 0 (fun q => s.heap.size ≤ q)) (F0 m 57 ls [.int s57_0, .int s57_1]) := by
            intro s57_0 s57_1 H locs ls hs57_0 hP hS hl
            refine lv_iadd hx hb dX11_disturbs_57 ?_
            refine lv_topi (fun v36001 ev36001 => ?_)
            refine lv_istore_n (lv' := [(3, .int v36001), (0, .ref h), (1, .int a1), (4, .int x18_4)]) hx hb dX11_disturbs_58 rfl hl (by decide) rfl (fun ls hl => ?_)
            obtain ⟨v36002, ev36002⟩ : ∃ z : Int32, z = x18_4 + 1 := ⟨_, rfl⟩
            have tv36002 : v36002.toInt = x18_4.toInt + 1 := by rw [ev36002]; exact addT rfl (by decide) (by omega)
            refine lv_iinc (v := v36002) (lv' := [(4, .int v36002), (3, .int v36001), (0, .ref h), (1, .int a1)]) hx hb dX11_disturbs_59 hl (k := 3) rfl (by rw [ev36002]; rfl) (by decide) rfl (fun ls hl => ?_)
            refine lv_goto (tgt := 18) hx hb dX11_disturbs_62 (by decide) ?_
            exact ih18 v36001 v36002 H locs ls (by omega) (by omega) hP hS (lv_sub hl [2, 3, 1, 0] rfl)
          refine lv_icmp_ne (tgt := 45) hx hb dX11_disturbs_38 (by decide) (fun c14005 => ?_) (fun c14005 => ?_)
          · have zc14005 := neK rfl (show (-1 : Int32).toInt = (-1) by decide) c14005
            refine lv_aload_n hx hb dX11_disturbs_45 rfl (lv_at hl 0 rfl) ?_
            refine lv_aload_n hx hb dX11_disturbs_46 rfl (lv_at hl 0 rfl) ?_
            refine lv_iload_n hx hb dX11_disturbs_47 rfl (lv_at hl 1 rfl) ?_
            refine lv_iload hx hb dX11_disturbs_48 (lv_at hl 3 rfl) ?_
            refine behR (runVP (As := [.int a1, .int x18_4]) (rest := [.ref h, .int x18_3]) ⟨hx, hb, hml, hown, ht⟩ (sX11_roomAt l G cs h q F A D B hI a1 x18_4 (by omega) (by omega)) okV_RX11_293 ⟨by decide, by decide⟩ hK hP [0, 1, 2, 3, 4, 5, 6, 7, 8, 9, 10, 11, 12, 13, 14, 15, 16, 17, 18, 19] rfl 0 rfl rfl hl.1 rfl (Nat.le_of_ble_eq_true rfl) dX11_disturbs_50 ⟨by decide, by decide⟩) hP hS (fun _ h => h) (fun r14006 H locs hr14006 hP hS => ?_)
            have hr14006 : r14006 = (B 33 (60 * a1.toNatClampNeg + x18_4.toNatClampNeg)).toInt32 := hr14006
            have zbr14006 : -1 ≤ r14006.toInt ∧ r14006.toInt ≤ 6 := by rw [hr14006]; exact RVroom (gr1 (by omega)) (by have q1 := clK (i := x18_4) rfl (by omega); omega)
            have qrr14006 := congrArg Int32.toInt (hr14006.trans hr14004.symm)
            refine lv_iconst (v := 0) hx hb dX11_disturbs_53 (by decide) ?_
            refine behR (runVP (As := [.int r14006, .int 0]) (rest := [.int x18_3]) ⟨hx, hb, hml, hown, ht⟩ (sX11_of l G cs h q F A D B hI r14006 0 (by omega) (by decide)) okV_RX11_227 ⟨by decide, by decide⟩ hK hP [0, 1, 2, 3, 4, 5, 6, 7, 8, 9, 10, 11, 12, 13, 14, 15, 16, 17, 18, 19] rfl 0 rfl rfl hl.1 rfl (Nat.le_of_ble_eq_true rfl) dX11_disturbs_54 ⟨by decide, by decide⟩) hP hS (fun _ h => h) (fun r14007 H locs hr14007 hP hS => ?_)
            have kk14008 : (0 : Int32).toInt = 0 := by decide
            have hr14007 : (0 : Int) ≤ r14007.toInt ∧ r14007.toInt ≤ 999 ∧ ((0 : Int32).toInt = 3 → r14007.toInt ≤ 127) ∧ ((0 : Int32).toInt = 2 → r14007.toInt ≤ 99) := hr14007
            exact B57 r14007 x18_3 H locs ls (by omega) hP hS (lv_sub hl [0, 1, 3] rfl)
          · have zc14005 := eqK rfl (show (-1 : Int32).toInt = (-1) by decide) c14005
            refine lv_iconst (v := 0) hx hb dX11_disturbs_41 (by decide) ?_
            refine lv_goto (tgt := 57) hx hb dX11_disturbs_42 (by decide) ?_
            exact B57 0 x18_3 H locs ls (by decide) hP hS (lv_sub hl [0, 1, 3] rfl)
    exact B18 _ 0 0 H locs ls (Nat.lt_succ_self _) (by decide) hP hS (lv_sub hl [3, 4, 1, 0] rfl)
  · have zc3 := nleK (show (0 : Int32).toInt = 0 by decide) rfl c3
    refine lv_iload_n hx hb dX11_disturbs_11 rfl (lv_at hl 0 rfl) ?_
    exact retRi hx hb hr hlk hS dX11_disturbs_12 (trivial)

set_option maxRecDepth 100000 in
set_option maxHeartbeats 8000000 in
theorem sX11_gain (l : Launch) (G : va_G) (cs : Nat → ClassId) (h : Nat) (q : Nat → Nat) (F : Nat → Int32) (A : Nat → Nat → Int32) (D : Int64) (B : Nat → Nat → Int64) (hI : IM F A) (a1 : Int32) : ImpI l yX11_gain cX11_gain 3 (some .int) 7 0 0 G (TY cs) [.ref h, .int a1] (mS cs h q F A D B) (fun (r : Int32) (u : Int32 × Int32 × (Nat → Int32) × (Nat → Int32)) => True) (fun u : Int32 × Int32 × (Nat → Int32) × (Nat → Int32) => (mS cs h q (upd (upd F 17 u.1) 18 u.2.1) (vA (vA A 15 u.2.2.1) 16 u.2.2.2) D B)) := by
  refine mkD (Qc := (QDi G (fun (r : Int32) (u : Int32 × Int32 × (Nat → Int32) × (Nat → Int32)) => True) (fun u : Int32 × Int32 × (Nat → Int32) × (Nat → Int32) => (mS cs h q (upd (upd F 17 u.1) 18 u.2.1) (vA (vA A 15 u.2.2.1) 16 u.2.2.2) D B)))) (by decide) (by simp [lg_sl, Value.category]) ?_
  intro p e s m args below meth c ls A0 hx hb hml hr hlk hown hmn ht hK hP hD hS hA hl
  have hl : lv_has ls 3 [(0, .ref h), (1, .int a1)] := hl
  refine lv_aload_n hx hb dX11_gain_0 rfl (lv_at hl 0 rfl) ?_
  refine lv_iload_n hx hb dX11_gain_1 rfl (lv_at hl 1 rfl) ?_
  refine lv_iconst (v := 1) hx hb dX11_gain_2 (by decide) ?_
  refine behR (runVP (As := [.int a1, .int 1]) (rest := []) ⟨hx, hb, hml, hown, ht⟩ (sX11_asksRound l G cs h q F A D B hI a1 1 (by decide)) okV_RX11_303 ⟨by decide, by decide⟩ hK hP [0, 1, 2, 3, 4, 5, 6, 7, 8, 9, 10, 11, 12, 13, 14, 15, 16, 17, 18, 19] rfl 0 rfl rfl hl.1 rfl (Nat.le_of_ble_eq_true rfl) dX11_gain_3 ⟨by decide, by decide⟩) hP hS hA (fun r1 H locs hr1 hP hS => ?_)
  have kk2 : (1 : Int32).toInt = 1 := by decide
  have hr1 : (r1.toInt = -2 ∨ r1.toInt = -6 ∨ (r1.toInt = 0 ∧ 0 ≤ a1.toInt ∧ a1.toInt ≤ 3 ∧ 0 ≤ (A 31 a1.toNatClampNeg).toInt ∧ (1 : Int32).toInt = 1)) ∧ (r1.toInt = 0 → RV B a1 (A 31 a1.toNatClampNeg).toInt) := hr1
  obtain ⟨hr1, gr1⟩ := hr1
  refine lv_istore_n (lv' := [(2, .int r1), (0, .ref h), (1, .int a1)]) hx hb dX11_gain_6 rfl hl (by decide) rfl (fun ls hl => ?_)
  refine lv_iload_n hx hb dX11_gain_7 rfl (lv_at hl 0 rfl) ?_
  refine lv_bipush (v := (-2)) hx hb dX11_gain_8 (by decide) ?_
  refine lv_icmp_ne (tgt := 19) hx hb dX11_gain_10 (by decide) (fun c3 => ?_) (fun c3 => ?_)
  · have zc3 := neK rfl (show (-2 : Int32).toInt = (-2) by decide) c3
    refine lv_iload_n hx hb dX11_gain_19 rfl (lv_at hl 0 rfl) ?_
    refine lv_bipush (v := (-6)) hx hb dX11_gain_20 (by decide) ?_
    refine lv_icmp_ne (tgt := 31) hx hb dX11_gain_22 (by decide) (fun c4 => ?_) (fun c4 => ?_)
    · have zc4 := neK rfl (show (-6 : Int32).toInt = (-6) by decide) c4
      refine lv_aload_n hx hb dX11_gain_31 rfl (lv_at hl 1 rfl) ?_
      refine lv_iload_n hx hb dX11_gain_32 rfl (lv_at hl 2 rfl) ?_
      refine lv_aload_n hx hb dX11_gain_33 rfl (lv_at hl 1 rfl) ?_
      refine getF (v := .ref (q 31)) hx hb ht hown hK hP iTX11 0 31 rfl rfl (by decide) fl_RX11_61 rfl dX11_gain_34 ?_
      refine lv_iload_n hx hb dX11_gain_37 rfl (lv_at hl 2 rfl) ?_
      refine va_iald hx hb hK.1 hP 16 0 rfl rfl (inK rfl (by omega) (by decide)) dX11_gain_38 ?_
      refine lv_topi (fun v5 ev5 => ?_)
      have zf6 : (-1 : Int) ≤ v5.toInt ∧ v5.toInt ≤ 60 := by rw [ev5]; exact (hI.2 31 _)
      have nv5 : v5.toInt = (A 31 a1.toNatClampNeg).toInt := congrArg Int32.toInt ev5
      refine lv_iconst (v := 0) hx hb dX11_gain_39 (by decide) ?_
      refine behDi (wr := []) (runVD (As := [.int a1, .int v5, .int 0]) (rest := []) ⟨hx, hb, hml, hown, ht⟩ (sX11_gainOf l G cs h q F A D B hI a1 v5 0 (by omega) (by omega) (by decide) (RVle (gr1 (by omega)) (by first | omega | (rw [ev5]; exact Int.le_refl _)))) okV_RX11_309 ⟨by decide, by decide⟩ hK hP hD [0, 1, 2, 3, 4, 5, 6, 7, 8, 9, 10, 11, 12, 13, 14, 15, 16, 17, 18, 19] rfl (by decide) rfl 0 rfl rfl hl.1 rfl (Nat.le_of_ble_eq_true rfl) dX11_gain_40 ⟨(Nat.le_of_ble_eq_true rfl), (Nat.le_of_ble_eq_true rfl)⟩) hP hD hS hA [0, 1, 2, 3, 4, 5, 6, 7, 8, 9, 10, 11, 12, 13, 14, 15, 16, 17, 18, 19] [] rfl rfl (by decide) (by decide) (fun r9 u H locs hu hP hD hS => ?_)
      obtain ⟨x7, x8, g9, g10⟩ := u
      obtain ⟨r11, rfl⟩ : ∃ z, z = r9 := ⟨_, rfl⟩
      have hr11 := hu
      have hP : va_P G vwCl (mS cs h q (upd (upd F 17 x7) 18 x8) (vA (vA A 15 g9) 16 g10) D B) H := hP
      have hD : va_D A0 (mS cs h q (upd (upd F 17 x7) 18 x8) (vA (vA A 15 g9) 16 g10) D B) := hD
      exact retDi (x7, x8, g9, g10) hx hb hr hlk hP hD hS dX11_gain_43 (trivial) (Nat.le_of_ble_eq_true rfl) (Nat.le_of_ble_eq_true rfl)
    · have zc4 := eqK rfl (show (-6 : Int32).toInt = (-6) by decide) c4
      refine lv_ldcw hx hb hown (ht _ ki_RX11_308) dX11_gain_25 ?_
      refine lv_goto (tgt := 43) hx hb dX11_gain_28 (by decide) ?_
      exact retDi ((F 17), (F 18), (A 15), (A 16)) hx hb hr hlk hP hD hS dX11_gain_43 (trivial) (Nat.le_of_ble_eq_true rfl) (Nat.le_of_ble_eq_true rfl)
  · have zc3 := eqK rfl (show (-2 : Int32).toInt = (-2) by decide) c3
    refine lv_ldcw hx hb hown (ht _ ki_RX11_307) dX11_gain_13 ?_
    refine lv_goto (tgt := 43) hx hb dX11_gain_16 (by decide) ?_
    exact retDi ((F 17), (F 18), (A 15), (A 16)) hx hb hr hlk hP hD hS dX11_gain_43 (trivial) (Nat.le_of_ble_eq_true rfl) (Nat.le_of_ble_eq_true rfl)

set_option maxRecDepth 100000 in
set_option maxHeartbeats 8000000 in
theorem sX11_stop (l : Launch) (G : va_G) (cs : Nat → ClassId) (h : Nat) (q : Nat → Nat) (F : Nat → Int32) (A : Nat → Nat → Int32) (D : Int64) (B : Nat → Nat → Int64) (hI : IM F A) (a1 : Int32) : ImpI l yX11_stop cX11_stop 5 (some .int) 7 0 0 G (TY cs) [.ref h, .int a1] (mS cs h q F A D B) (fun (r : Int32) (u : Int32 × Int32 × (Nat → Int32) × (Nat → Int32)) => True) (fun u : Int32 × Int32 × (Nat → Int32) × (Nat → Int32) => (mS cs h q (upd (upd F 17 u.1) 18 u.2.1) (vA (vA A 15 u.2.2.1) 16 u.2.2.2) D B)) := by
  refine mkD (Qc := (QDi G (fun (r : Int32) (u : Int32 × Int32 × (Nat → Int32) × (Nat → Int32)) => True) (fun u : Int32 × Int32 × (Nat → Int32) × (Nat → Int32) => (mS cs h q (upd (upd F 17 u.1) 18 u.2.1) (vA (vA A 15 u.2.2.1) 16 u.2.2.2) D B)))) (by decide) (by simp [lg_sl, Value.category]) ?_
  intro p e s m args below meth c ls A0 hx hb hml hr hlk hown hmn ht hK hP hD hS hA hl
  have hl : lv_has ls 5 [(0, .ref h), (1, .int a1)] := hl
  refine lv_aload_n hx hb dX11_stop_0 rfl (lv_at hl 0 rfl) ?_
  refine lv_iload_n hx hb dX11_stop_1 rfl (lv_at hl 1 rfl) ?_
  refine lv_iconst (v := 1) hx hb dX11_stop_2 (by decide) ?_
  refine behR (runVP (As := [.int a1, .int 1]) (rest := []) ⟨hx, hb, hml, hown, ht⟩ (sX11_asksRound l G cs h q F A D B hI a1 1 (by decide)) okV_RX11_303 ⟨by decide, by decide⟩ hK hP [0, 1, 2, 3, 4, 5, 6, 7, 8, 9, 10, 11, 12, 13, 14, 15, 16, 17, 18, 19] rfl 0 rfl rfl hl.1 rfl (Nat.le_of_ble_eq_true rfl) dX11_stop_3 ⟨by decide, by decide⟩) hP hS hA (fun r1 H locs hr1 hP hS => ?_)
  have kk2 : (1 : Int32).toInt = 1 := by decide
  have hr1 : (r1.toInt = -2 ∨ r1.toInt = -6 ∨ (r1.toInt = 0 ∧ 0 ≤ a1.toInt ∧ a1.toInt ≤ 3 ∧ 0 ≤ (A 31 a1.toNatClampNeg).toInt ∧ (1 : Int32).toInt = 1)) ∧ (r1.toInt = 0 → RV B a1 (A 31 a1.toNatClampNeg).toInt) := hr1
  obtain ⟨hr1, gr1⟩ := hr1
  refine lv_istore_n (lv' := [(2, .int r1), (0, .ref h), (1, .int a1)]) hx hb dX11_stop_6 rfl hl (by decide) rfl (fun ls hl => ?_)
  refine lv_iload_n hx hb dX11_stop_7 rfl (lv_at hl 0 rfl) ?_
  refine lv_if_ge (tgt := 13) hx hb dX11_stop_8 (by decide) (fun c3 => ?_) (fun c3 => ?_)
  · have zc3 := leK (show (0 : Int32).toInt = 0 by decide) rfl c3
    refine lv_iconst (v := 0) hx hb dX11_stop_13 (by decide) ?_
    refine lv_istore_n (lv' := [(3, .int 0), (2, .int r1), (0, .ref h), (1, .int a1)]) hx hb dX11_stop_14 rfl hl (by decide) rfl (fun ls hl => ?_)
    refine lv_iconst (v := 1) hx hb dX11_stop_15 (by decide) ?_
    refine lv_istore (lv' := [(4, .int 1), (3, .int 0), (2, .int r1), (0, .ref h), (1, .int a1)]) hx hb dX11_stop_16 hl (by decide) rfl (fun ls hl => ?_)
    have B18 : ∀ (n : Nat) (x18_3 : Int32) (x18_4 : Int32) (f17_18 : Int32) (f18_18 : Int32) (a15_18 : (Nat → Int32)) (a16_18 : (Nat → Int32)) (H : Heap) (locs : List Loc) (ls : Array Slot), (61 - x18_4.toInt).toNat < n → (0 : Int) ≤ x18_3.toInt ∧ x18_3.toInt ≤ 60 → (1 : Int) ≤ x18_4.toInt ∧ x18_4.toInt ≤ 61 → (x18_3.toInt ≤ (A 31 a1.toNatClampNeg).toInt) → va_P G vwCl (mS cs h q (upd (upd F 17 f17_18) 18 f18_18) (vA (vA A 15 a15_18) 16 a16_18) D B) H → va_D A0 (mS cs h q (upd (upd F 17 f17_18) 18 f18_18) (vA (vA A 15 a15_18) 16 a16_18) D B) → va_S A0 s.heap H locs → lv_has ls 5 [(0, .ref h), (1, .int a1), (3, .int x18_3), (4, .int x18_4)] → W p l e (rmk 7 0 0) s m args below meth c H locs 0 0 (MQ below ((QDi G (fun (r : Int32) (u : Int32 × Int32 × (Nat → Int32) × (Nat → Int32)) => True) (fun u : Int32 × Int32 × (Nat → Int32) × (Nat → Int32) => (mS cs h q (upd (upd F 17 u.1) 18 u.2.1) (vA (vA A 15 u.2.2.1) 16 u.2.2.2) D B))) A0) args s 0 0 A0) (F0 m 18 ls []) := by
      intro n
      induction n with
      | zero => intro x18_3 x18_4 f17_18 f18_18 a15_18 a16_18 H locs ls hmeas hx18_3 hx18_4 hbm hP hD hS hl; exact absurd hmeas (Nat.not_lt_zero _)
      | succ n ih18 =>
        intro x18_3 x18_4 f17_18 f18_18 a15_18 a16_18 H locs ls hmeas hx18_3 hx18_4 hbm hP hD hS hl
        refine lv_iload hx hb dX11_stop_18 (lv_at hl 3 rfl) ?_
        refine lv_aload_n hx hb dX11_stop_20 rfl (lv_at hl 0 rfl) ?_
        refine getF (v := .ref (q 31)) hx hb ht hown hK hP iTX11 0 31 rfl rfl (by decide) fl_RX11_61 rfl dX11_stop_21 ?_
        refine lv_iload_n hx hb dX11_stop_24 rfl (lv_at hl 1 rfl) ?_
        refine va_iald hx hb hK.1 hP 16 0 rfl rfl (inK rfl (by omega) (by decide)) dX11_stop_25 ?_
        refine lv_topi (fun v14001 ev14001 => ?_)
        have zf14002 : (-1 : Int) ≤ v14001.toInt ∧ v14001.toInt ≤ 60 := by rw [ev14001]; exact (hI.2 31 _)
        have nv14001 : v14001.toInt = (A 31 a1.toNatClampNeg).toInt := congrArg Int32.toInt ev14001
        refine lv_icmp_gt (tgt := 60) hx hb dX11_stop_26 (by decide) (fun c14003 => ?_) (fun c14003 => ?_)
        · have zc14003 := ltK rfl rfl c14003
          refine lv_iload_n hx hb dX11_stop_60 rfl (lv_at hl 2 rfl) ?_
          exact retDi (f17_18, f18_18, a15_18, a16_18) hx hb hr hlk hP hD hS dX11_stop_61 (trivial) (Nat.le_of_ble_eq_true rfl) (Nat.le_of_ble_eq_true rfl)
        · have zc14003 := nltK rfl rfl c14003
          refine lv_aload_n hx hb dX11_stop_29 rfl (lv_at hl 0 rfl) ?_
          refine lv_iload_n hx hb dX11_stop_30 rfl (lv_at hl 1 rfl) ?_
          refine lv_iload hx hb dX11_stop_31 (lv_at hl 3 rfl) ?_
          refine lv_iconst (v := 0) hx hb dX11_stop_33 (by decide) ?_
          refine behDi (wr := []) (runVD (As := [.int a1, .int x18_4, .int 0]) (rest := []) ⟨hx, hb, hml, hown, ht⟩ (sX11_gainOf l G cs h q (upd (upd F 17 f17_18) 18 f18_18) (vA (vA A 15 a15_18) 16 a16_18) D B (IM_arr (k := 16) (IM_arr (k := 15) (IM_put (k := 18) (IM_put (k := 17) hI (i32b _)) (i32b _)) (fun _ => i32b _)) (fun _ => i32b _)) a1 x18_4 0 (by omega) (by omega) (by decide) (RVle (gr1 (by omega)) (by first | omega | (rw [ev14001]; exact Int.le_refl _)))) okV_RX11_309 ⟨by decide, by decide⟩ hK hP hD [0, 1, 2, 3, 4, 5, 6, 7, 8, 9, 10, 11, 12, 13, 14, 15, 16, 17, 18, 19] rfl (by decide) rfl 0 rfl rfl hl.1 rfl (Nat.le_of_ble_eq_true rfl) dX11_stop_34 ⟨(Nat.le_of_ble_eq_true rfl), (Nat.le_of_ble_eq_true rfl)⟩) hP hD hS hA [0, 1, 2, 3, 4, 5, 6, 7, 8, 9, 10, 11, 12, 13, 14, 15, 16, 17, 18, 19] [] rfl rfl (by decide) (by decide) (fun r9 u H locs hu hP hD hS => ?_)
          obtain ⟨x14004, x14005, g14006, g14007⟩ := u
          obtain ⟨r14008, rfl⟩ : ∃ z, z = r9 := ⟨_, rfl⟩
          have hr14008 := hu
          have hP : va_P G vwCl (mS cs h q (upd (upd F 17 x14004) 18 x14005) (vA (vA A 15 g14006) 16 g14007) D B) H := hP
          have hD : va_D A0 (mS cs h q (upd (upd F 17 x14004) 18 x14005) (vA (vA A 15 g14006) 16 g14007) D B) := hD
          refine lv_aload_n hx hb dX11_stop_37 rfl (lv_at hl 0 rfl) ?_
          refine lv_iload_n hx hb dX11_stop_38 rfl (lv_at hl 1 rfl) ?_
          refine lv_iload_n hx hb dX11_stop_39 rfl (lv_at hl 2 rfl) ?_
          refine lv_iconst (v := 0) hx hb dX11_stop_40 (by decide) ?_
          refine behDi (wr := []) (runVD (As := [.int a1, .int x18_3, .int 0]) (rest := [.int r14008]) ⟨hx, hb, hml, hown, ht⟩ (sX11_gainOf l G cs h q (upd (upd F 17 x14004) 18 x14005) (vA (vA A 15 g14006) 16 g14007) D B (IM_arr (k := 16) (IM_arr (k := 15) (IM_put (k := 18) (IM_put (k := 17) hI (i32b _)) (i32b _)) (fun _ => i32b _)) (fun _ => i32b _)) a1 x18_3 0 (by omega) (by omega) (by decide) (RVle (gr1 (by omega)) (by first | omega | (rw [ev14001]; exact Int.le_refl _)))) okV_RX11_309 ⟨by decide, by decide⟩ hK hP hD [0, 1, 2, 3, 4, 5, 6, 7, 8, 9, 10, 11, 12, 13, 14, 15, 16, 17, 18, 19] rfl (by decide) rfl 0 rfl rfl hl.1 rfl (Nat.le_of_ble_eq_true rfl) dX11_stop_41 ⟨(Nat.le_of_ble_eq_true rfl), (Nat.le_of_ble_eq_true rfl)⟩) hP hD hS hA [0, 1, 2, 3, 4, 5, 6, 7, 8, 9, 10, 11, 12, 13, 14, 15, 16, 17, 18, 19] [] rfl rfl (by decide) (by decide) (fun r9 u H locs hu hP hD hS => ?_)
          obtain ⟨x14009, x14010, g14011, g14012⟩ := u
          obtain ⟨r14013, rfl⟩ : ∃ z, z = r9 := ⟨_, rfl⟩
          have hr14013 := hu
          have hP : va_P G vwCl (mS cs h q (upd (upd F 17 x14009) 18 x14010) (vA (vA A 15 g14011) 16 g14012) D B) H := hP
          have hD : va_D A0 (mS cs h q (upd (upd F 17 x14009) 18 x14010) (vA (vA A 15 g14011) 16 g14012) D B) := hD
          have B53 : ∀ (s53_0 : Int32) (H : Heap) (locs : List Loc) (ls : Array Slot), (0 : Int) ≤ s53_0.toInt ∧ s53_0.toInt ≤ 60 → (s53_0.toInt ≤ (A 31 a1.toNatClampNeg).toInt) → va_P G vwCl (mS cs h q (upd (upd F 17 x14009) 18 x14010) (vA (vA A 15 g14011) 16 g14012) D B) H → va_D A0 (mS cs h q (upd (upd F 17 x14009) 18 x14010) (vA (vA A 15 g14011) 16 g14012) D B) → va_S A0 s.heap H locs → lv_has ls 5 [(0, .ref h), (1, .int a1), (4, .int x18_4)] → W p l e (rmk 7 0 0) s m args below meth c H locs 0 0 (MQ below ((QDi G (fun (r : Int32) (u : Int32 × Int32 × (Nat → Int32) × (Nat → Int32)) => True) (fun u : Int32 × Int32 × (Nat → Int32) × (Nat → Int32) => (mS cs h q (upd (upd F 17 u.1) 18 u.2.1) (vA (vA A 15 u.2.2.1) 16 u.2.2.2) D B))) A0) args s 0 0 A0) (F0 m 53 ls [.int s53_0]) := by
            intro s53_0 H locs ls hs53_0 hbs hP hD hS hl
            refine lv_istore_n (lv' := [(3, .int s53_0), (0, .ref h), (1, .int a1), (4, .int x18_4)]) hx hb dX11_stop_53 rfl hl (by decide) rfl (fun ls hl => ?_)
            obtain ⟨v34001, ev34001⟩ : ∃ z : Int32, z = x18_4 + 1 := ⟨_, rfl⟩
            have tv34001 : v34001.toInt = x18_4.toInt + 1 := by rw [ev34001]; exact addT rfl (by decide) (by omega)
            refine lv_iinc (v := v34001) (lv' := [(4, .int v34001), (3, .int s53_0), (0, .ref h), (1, .int a1)]) hx hb dX11_stop_54 hl (k := 3) rfl (by rw [ev34001]; rfl) (by decide) rfl (fun ls hl => ?_)
            refine lv_goto (tgt := 18) hx hb dX11_stop_57 (by decide) ?_
            exact ih18 s53_0 v34001 x14009 x14010 g14011 g14012 H locs ls (by omega) (by omega) (by omega) (by have k0 : (0 : Int32).toInt = 0 := (by decide); have k1 : (1 : Int32).toInt = 1 := (by decide); omega) hP hD hS (lv_sub hl [2, 3, 1, 0] rfl)
          refine lv_icmp_le (tgt := 52) hx hb dX11_stop_44 (by decide) (fun c14014 => ?_) (fun c14014 => ?_)
          · have zc14014 := leK rfl rfl c14014
            refine lv_iload_n hx hb dX11_stop_52 rfl (lv_at hl 2 rfl) ?_
            exact B53 x18_3 H locs ls (by omega) (by have k0 : (0 : Int32).toInt = 0 := (by decide); have k1 : (1 : Int32).toInt = 1 := (by decide); omega) hP hD hS (lv_sub hl [0, 1, 3] rfl)
          · have zc14014 := nleK rfl rfl c14014
            refine lv_iload hx hb dX11_stop_47 (lv_at hl 3 rfl) ?_
            refine lv_goto (tgt := 53) hx hb dX11_stop_49 (by decide) ?_
            exact B53 x18_4 H locs ls (by omega) (by have k0 : (0 : Int32).toInt = 0 := (by decide); have k1 : (1 : Int32).toInt = 1 := (by decide); omega) hP hD hS (lv_sub hl [0, 1, 3] rfl)
    exact B18 _ 0 1 (F 17) (F 18) (A 15) (A 16) H locs ls (Nat.lt_succ_self _) (by decide) (by decide) (by have k0 : (0 : Int32).toInt = 0 := (by decide); have k1 : (1 : Int32).toInt = 1 := (by decide); omega) hP hD hS (lv_sub hl [3, 4, 1, 0] rfl)
  · have zc3 := nleK (show (0 : Int32).toInt = 0 by decide) rfl c3
    refine lv_iload_n hx hb dX11_stop_11 rfl (lv_at hl 0 rfl) ?_
    exact retDi ((F 17), (F 18), (A 15), (A 16)) hx hb hr hlk hP hD hS dX11_stop_12 (trivial) (Nat.le_of_ble_eq_true rfl) (Nat.le_of_ble_eq_true rfl)

set_option maxRecDepth 100000 in
set_option maxHeartbeats 8000000 in
theorem sX11_doubt (l : Launch) (G : va_G) (cs : Nat → ClassId) (h : Nat) (q : Nat → Nat) (F : Nat → Int32) (A : Nat → Nat → Int32) (D : Int64) (B : Nat → Nat → Int64) (hI : IM F A) (a1 : Int32) (a2 : Int32) : ImpI l yX11_doubt cX11_doubt 5 (some .int) 5 0 0 G (TY cs) [.ref h, .int a1, .int a2] (mS cs h q F A D B) (fun (r : Int32) (u : Int32 × Int32 × (Nat → Int32) × (Nat → Int32)) => True) (fun u : Int32 × Int32 × (Nat → Int32) × (Nat → Int32) => (mS cs h q (upd (upd F 17 u.1) 18 u.2.1) (vA (vA A 15 u.2.2.1) 16 u.2.2.2) D B)) := by
  refine mkD (Qc := (QDi G (fun (r : Int32) (u : Int32 × Int32 × (Nat → Int32) × (Nat → Int32)) => True) (fun u : Int32 × Int32 × (Nat → Int32) × (Nat → Int32) => (mS cs h q (upd (upd F 17 u.1) 18 u.2.1) (vA (vA A 15 u.2.2.1) 16 u.2.2.2) D B)))) (by decide) (by simp [lg_sl, Value.category]) ?_
  intro p e s m args below meth c ls A0 hx hb hml hr hlk hown hmn ht hK hP hD hS hA hl
  have hl : lv_has ls 5 [(0, .ref h), (1, .int a1), (2, .int a2)] := hl
  refine lv_aload_n hx hb dX11_doubt_0 rfl (lv_at hl 0 rfl) ?_
  refine lv_iload_n hx hb dX11_doubt_1 rfl (lv_at hl 1 rfl) ?_
  refine lv_iload_n hx hb dX11_doubt_2 rfl (lv_at hl 2 rfl) ?_
  refine lv_i2l hx hb dX11_doubt_3 rfl ?_
  have bb1 := i32b a2
  refine lv_topl (fun v2 ev2 => ?_)
  have tv2 : v2.toInt = a2.toInt := by rw [ev2]; exact Int32.toInt_toInt64 _
  refine lv_lconst (v := 0) hx hb dX11_doubt_4 (by decide) ?_
  refine lv_ldc2 hx hb hown (ht _ kl_RX11_273) dX11_doubt_5 ?_
  refine behR (runSP (As := [.long v2, .long 0, .long 1000000]) (rest := [.int a1, .ref h]) ⟨hx, hb, hml, hown, ht⟩ (sX11_in l G cs v2 0 1000000 ) okS_RX11_79 ⟨by decide, by decide⟩ hK hP [] rfl hl.1 rfl (Nat.le_of_ble_eq_true rfl) dX11_doubt_8 ⟨by decide, by decide⟩) hP hS hA (fun r3 H locs hr3 hP hS => ?_)
  have kk4 : (0 : Int64).toInt = 0 := by decide
  have kk5 : (1000000 : Int64).toInt = 1000000 := by decide
  have hr3 : (r3.toInt = 1 ∧ (0 : Int64).toInt ≤ v2.toInt ∧ v2.toInt ≤ (1000000 : Int64).toInt) ∨ (r3.toInt = 0 ∧ (v2.toInt < (0 : Int64).toInt ∨ (1000000 : Int64).toInt < v2.toInt)) := hr3
  refine behR (runVP (As := [.int a1, .int r3]) (rest := []) ⟨hx, hb, hml, hown, ht⟩ (sX11_asksRound l G cs h q F A D B hI a1 r3 (by omega)) okV_RX11_303 ⟨by decide, by decide⟩ hK hP [0, 1, 2, 3, 4, 5, 6, 7, 8, 9, 10, 11, 12, 13, 14, 15, 16, 17, 18, 19] rfl 0 rfl rfl hl.1 rfl (Nat.le_of_ble_eq_true rfl) dX11_doubt_11 ⟨by decide, by decide⟩) hP hS hA (fun r6 H locs hr6 hP hS => ?_)
  have hr6 : (r6.toInt = -2 ∨ r6.toInt = -6 ∨ (r6.toInt = 0 ∧ 0 ≤ a1.toInt ∧ a1.toInt ≤ 3 ∧ 0 ≤ (A 31 a1.toNatClampNeg).toInt ∧ r3.toInt = 1)) ∧ (r6.toInt = 0 → RV B a1 (A 31 a1.toNatClampNeg).toInt) := hr6
  obtain ⟨hr6, gr6⟩ := hr6
  refine lv_istore_n (lv' := [(3, .int r6), (0, .ref h), (1, .int a1), (2, .int a2)]) hx hb dX11_doubt_14 rfl hl (by decide) rfl (fun ls hl => ?_)
  refine lv_iload_n hx hb dX11_doubt_15 rfl (lv_at hl 0 rfl) ?_
  refine lv_if_ge (tgt := 21) hx hb dX11_doubt_16 (by decide) (fun c7 => ?_) (fun c7 => ?_)
  · have zc7 := leK (show (0 : Int32).toInt = 0 by decide) rfl c7
    refine lv_aload_n hx hb dX11_doubt_21 rfl (lv_at hl 1 rfl) ?_
    refine behDw (wr := []) (runVD (As := []) (rest := []) ⟨hx, hb, hml, hown, ht⟩ (sX11_asItIs l G cs h q F A D B hI  ) okV_RX11_278 ⟨by decide, by decide⟩ hK hP hD [0, 1, 2, 3, 4, 5, 6, 7, 8, 9, 10, 11, 12, 13, 14, 15, 16, 17, 18, 19] rfl (by decide) rfl 0 rfl rfl hl.1 rfl (Nat.le_of_ble_eq_true rfl) dX11_doubt_22 ⟨(Nat.le_of_ble_eq_true rfl), (Nat.le_of_ble_eq_true rfl)⟩) hP hD hS hA [0, 1, 2, 3, 4, 5, 6, 7, 8, 9, 10, 11, 12, 13, 14, 15, 16, 17, 18, 19] [] rfl rfl (by decide) (by decide) (fun u H locs hu hP hD hS => ?_)
    obtain ⟨x8, x9, g10, g11⟩ := u
    have hr12 := hu
    have hP : va_P G vwCl (mS cs h q (upd (upd F 17 x8) 18 x9) (vA (vA A 15 g10) 16 g11) D B) H := hP
    have hD : va_D A0 (mS cs h q (upd (upd F 17 x8) 18 x9) (vA (vA A 15 g10) 16 g11) D B) := hD
    refine lv_iconst (v := 0) hx hb dX11_doubt_25 (by decide) ?_
    refine lv_istore (lv' := [(4, .int 0), (3, .int r6), (0, .ref h), (1, .int a1), (2, .int a2)]) hx hb dX11_doubt_26 hl (by decide) rfl (fun ls hl => ?_)
    have B28 : ∀ (n : Nat) (x28_4 : Int32) (f18_28 : Int32) (a15_28 : (Nat → Int32)) (a16_28 : (Nat → Int32)) (H : Heap) (locs : List Loc) (ls : Array Slot), (60 - x28_4.toInt).toNat < n → (0 : Int) ≤ x28_4.toInt ∧ x28_4.toInt ≤ 60 → va_P G vwCl (mS cs h q (upd (upd F 17 x8) 18 f18_28) (vA (vA A 15 a15_28) 16 a16_28) D B) H → va_D A0 (mS cs h q (upd (upd F 17 x8) 18 f18_28) (vA (vA A 15 a15_28) 16 a16_28) D B) → va_S A0 s.heap H locs → lv_has ls 5 [(0, .ref h), (1, .int a1), (2, .int a2), (4, .int x28_4)] → W p l e (rmk 5 0 0) s m args below meth c H locs 0 0 (MQ below ((QDi G (fun (r : Int32) (u : Int32 × Int32 × (Nat → Int32) × (Nat → Int32)) => True) (fun u : Int32 × Int32 × (Nat → Int32) × (Nat → Int32) => (mS cs h q (upd (upd F 17 u.1) 18 u.2.1) (vA (vA A 15 u.2.2.1) 16 u.2.2.2) D B))) A0) args s 0 0 A0) (F0 m 28 ls []) := by
      intro n
      induction n with
      | zero => intro x28_4 f18_28 a15_28 a16_28 H locs ls hmeas hx28_4 hP hD hS hl; exact absurd hmeas (Nat.not_lt_zero _)
      | succ n ih28 =>
        intro x28_4 f18_28 a15_28 a16_28 H locs ls hmeas hx28_4 hP hD hS hl
        refine lv_iload hx hb dX11_doubt_28 (lv_at hl 3 rfl) ?_
        refine lv_aload_n hx hb dX11_doubt_30 rfl (lv_at hl 0 rfl) ?_
        refine getF (v := .ref (q 31)) hx hb ht hown hK hP iTX11 0 31 rfl rfl (by decide) fl_RX11_61 rfl dX11_doubt_31 ?_
        refine lv_iload_n hx hb dX11_doubt_34 rfl (lv_at hl 1 rfl) ?_
        refine va_iald hx hb hK.1 hP 16 0 rfl rfl (inK rfl (by omega) (by decide)) dX11_doubt_35 ?_
        refine lv_topi (fun v18001 ev18001 => ?_)
        have zf18002 : (-1 : Int) ≤ v18001.toInt ∧ v18001.toInt ≤ 60 := by rw [ev18001]; exact (hI.2 31 _)
        have nv18001 : v18001.toInt = (A 31 a1.toNatClampNeg).toInt := congrArg Int32.toInt ev18001
        refine lv_icmp_ge (tgt := 78) hx hb dX11_doubt_36 (by decide) (fun c18003 => ?_) (fun c18003 => ?_)
        · have zc18003 := leK rfl rfl c18003
          refine lv_iconst (v := (-1)) hx hb dX11_doubt_78 (by decide) ?_
          exact retDi (x8, f18_28, a15_28, a16_28) hx hb hr hlk hP hD hS dX11_doubt_79 (trivial) (Nat.le_of_ble_eq_true rfl) (Nat.le_of_ble_eq_true rfl)
        · have zc18003 := nleK rfl rfl c18003
          refine lv_aload_n hx hb dX11_doubt_39 rfl (lv_at hl 0 rfl) ?_
          refine lv_aload_n hx hb dX11_doubt_40 rfl (lv_at hl 0 rfl) ?_
          refine behR (runVP (As := []) (rest := [.ref h]) ⟨hx, hb, hml, hown, ht⟩ (sX11_inHouse l G cs h q (upd (upd F 17 x8) 18 f18_28) (vA (vA A 15 a15_28) 16 a16_28) D B (IM_arr (k := 16) (IM_arr (k := 15) (IM_put (k := 18) (IM_put (k := 17) hI (i32b _)) (i32b _)) (fun _ => i32b _)) (fun _ => i32b _))  ) okV_RX11_270 ⟨by decide, by decide⟩ hK hP [0, 1, 2, 3, 4, 5, 6, 7, 8, 9, 10, 11, 12, 13, 14, 15, 16, 17, 18, 19] rfl 0 rfl rfl hl.1 rfl (Nat.le_of_ble_eq_true rfl) dX11_doubt_41 ⟨by decide, by decide⟩) hP hS hA (fun r18004 H locs hr18004 hP hS => ?_)
          refine behR (runVP (As := [.int r18004]) (rest := []) ⟨hx, hb, hml, hown, ht⟩ (sX11_inMillion l G cs h q (upd (upd F 17 x8) 18 f18_28) (vA (vA A 15 a15_28) 16 a16_28) D B (IM_arr (k := 16) (IM_arr (k := 15) (IM_put (k := 18) (IM_put (k := 17) hI (i32b _)) (i32b _)) (fun _ => i32b _)) (fun _ => i32b _)) r18004 ) okV_RX11_281 ⟨by decide, by decide⟩ hK hP [0, 1, 2, 3, 4, 5, 6, 7, 8, 9, 10, 11, 12, 13, 14, 15, 16, 17, 18, 19] rfl 0 rfl rfl hl.1 rfl (Nat.le_of_ble_eq_true rfl) dX11_doubt_44 ⟨by decide, by decide⟩) hP hS hA (fun r18005 H locs hr18005 hP hS => ?_)
          refine lv_iload_n hx hb dX11_doubt_47 rfl (lv_at hl 2 rfl) ?_
          refine lv_icmp_ge (tgt := 54) hx hb dX11_doubt_48 (by decide) (fun c18006 => ?_) (fun c18006 => ?_)
          · have zc18006 := leK rfl rfl c18006
            refine lv_aload_n hx hb dX11_doubt_54 rfl (lv_at hl 0 rfl) ?_
            refine lv_aload_n hx hb dX11_doubt_55 rfl (lv_at hl 0 rfl) ?_
            refine lv_iload_n hx hb dX11_doubt_56 rfl (lv_at hl 1 rfl) ?_
            refine lv_iload hx hb dX11_doubt_57 (lv_at hl 3 rfl) ?_
            refine behR (runVP (As := [.int a1, .int x28_4]) (rest := [.ref h]) ⟨hx, hb, hml, hown, ht⟩ (sX11_roomAt l G cs h q (upd (upd F 17 x8) 18 f18_28) (vA (vA A 15 a15_28) 16 a16_28) D B (IM_arr (k := 16) (IM_arr (k := 15) (IM_put (k := 18) (IM_put (k := 17) hI (i32b _)) (i32b _)) (fun _ => i32b _)) (fun _ => i32b _)) a1 x28_4 (by omega) (by omega)) okV_RX11_293 ⟨by decide, by decide⟩ hK hP [0, 1, 2, 3, 4, 5, 6, 7, 8, 9, 10, 11, 12, 13, 14, 15, 16, 17, 18, 19] rfl 0 rfl rfl hl.1 rfl (Nat.le_of_ble_eq_true rfl) dX11_doubt_59 ⟨by decide, by decide⟩) hP hS hA (fun r18007 H locs hr18007 hP hS => ?_)
            have hr18007 : r18007 = (B 33 (60 * a1.toNatClampNeg + x28_4.toNatClampNeg)).toInt32 := hr18007
            have zbr18007 : -1 ≤ r18007.toInt ∧ r18007.toInt ≤ 6 := by rw [hr18007]; exact RVroom (gr6 (by omega)) (by have q1 := clK (i := x28_4) rfl (by omega); omega)
            refine lv_iconst (v := 0) hx hb dX11_doubt_62 (by decide) ?_
            refine behDi (wr := []) (runVD (As := [.int r18007, .int 0]) (rest := []) ⟨hx, hb, hml, hown, ht⟩ (sX11_callIn l G cs h q (upd (upd F 17 x8) 18 f18_28) (vA (vA A 15 a15_28) 16 a16_28) D B (IM_arr (k := 16) (IM_arr (k := 15) (IM_put (k := 18) (IM_put (k := 17) hI (i32b _)) (i32b _)) (fun _ => i32b _)) (fun _ => i32b _)) r18007 0 (by omega) (by decide)) okV_RX11_264 ⟨by decide, by decide⟩ hK hP hD [0, 1, 2, 3, 4, 5, 6, 7, 8, 9, 10, 11, 12, 13, 14, 15, 16, 17, 18, 19] rfl (by decide) rfl 0 rfl rfl hl.1 rfl (Nat.le_of_ble_eq_true rfl) dX11_doubt_63 ⟨(Nat.le_of_ble_eq_true rfl), (Nat.le_of_ble_eq_true rfl)⟩) hP hD hS hA [0, 1, 2, 3, 4, 5, 6, 7, 8, 9, 10, 11, 12, 13, 14, 15, 16, 17, 18, 19] [] rfl rfl (by decide) (by decide) (fun r9 u H locs hu hP hD hS => ?_)
            obtain ⟨x18008, g18009⟩ := u
            obtain ⟨r18010, rfl⟩ : ∃ z, z = r9 := ⟨_, rfl⟩
            have hr18010 := hu
            have hP : va_P G vwCl (mS cs h q (upd (upd F 17 x8) 18 x18008) (vA (vA A 15 g18009) 16 a16_28) D B) H := hP
            have hD : va_D A0 (mS cs h q (upd (upd F 17 x8) 18 x18008) (vA (vA A 15 g18009) 16 a16_28) D B) := hD
            refine lv_pop hx hb dX11_doubt_66 rfl ?_
            refine lv_aload_n hx hb dX11_doubt_67 rfl (lv_at hl 0 rfl) ?_
            refine lv_iconst (v := (-1)) hx hb dX11_doubt_68 (by decide) ?_
            refine behDw (wr := []) (runVD (As := [.int (-1)]) (rest := []) ⟨hx, hb, hml, hown, ht⟩ (sX11_goMinute l G cs h q (upd (upd F 17 x8) 18 x18008) (vA (vA A 15 g18009) 16 a16_28) D B (IM_arr (k := 16) (IM_arr (k := 15) (IM_put (k := 18) (IM_put (k := 17) hI (i32b _)) (i32b _)) (fun _ => i32b _)) (fun _ => i32b _)) (-1) ) okV_RX11_267 ⟨by decide, by decide⟩ hK hP hD [0, 1, 2, 3, 4, 5, 6, 7, 8, 9, 10, 11, 12, 13, 14, 15, 16, 17, 18, 19] rfl (by decide) rfl 0 rfl rfl hl.1 rfl (Nat.le_of_ble_eq_true rfl) dX11_doubt_69 ⟨(Nat.le_of_ble_eq_true rfl), (Nat.le_of_ble_eq_true rfl)⟩) hP hD hS hA [0, 1, 2, 3, 4, 5, 6, 7, 8, 9, 10, 11, 12, 13, 14, 15, 16, 17, 18, 19] [] rfl rfl (by decide) (by decide) (fun u H locs hu hP hD hS => ?_)
            obtain ⟨g18011, g18012⟩ := u
            have hr18013 := hu
            have hP : va_P G vwCl (mS cs h q (upd (upd F 17 x8) 18 x18008) (vA (vA A 15 g18011) 16 g18012) D B) H := hP
            have hD : va_D A0 (mS cs h q (upd (upd F 17 x8) 18 x18008) (vA (vA A 15 g18011) 16 g18012) D B) := hD
            obtain ⟨v18014, ev18014⟩ : ∃ z : Int32, z = x28_4 + 1 := ⟨_, rfl⟩
            have tv18014 : v18014.toInt = x28_4.toInt + 1 := by rw [ev18014]; exact addT rfl (by decide) (by omega)
            refine lv_iinc (v := v18014) (lv' := [(4, .int v18014), (0, .ref h), (1, .int a1), (2, .int a2)]) hx hb dX11_doubt_72 hl (k := 3) rfl (by rw [ev18014]; rfl) (by decide) rfl (fun ls hl => ?_)
            refine lv_goto (tgt := 28) hx hb dX11_doubt_75 (by decide) ?_
            exact ih28 v18014 x18008 g18011 g18012 H locs ls (by omega) (by omega) hP hD hS (lv_sub hl [1, 2, 3, 0] rfl)
          · have zc18006 := nleK rfl rfl c18006
            refine lv_iload hx hb dX11_doubt_51 (lv_at hl 3 rfl) ?_
            exact retDi (x8, f18_28, a15_28, a16_28) hx hb hr hlk hP hD hS dX11_doubt_53 (trivial) (Nat.le_of_ble_eq_true rfl) (Nat.le_of_ble_eq_true rfl)
    exact B28 _ 0 x9 g10 g11 H locs ls (Nat.lt_succ_self _) (by decide) hP hD hS (lv_sub hl [2, 3, 4, 0] rfl)
  · have zc7 := nleK (show (0 : Int32).toInt = 0 by decide) rfl c7
    refine lv_iload_n hx hb dX11_doubt_19 rfl (lv_at hl 0 rfl) ?_
    exact retDi ((F 17), (F 18), (A 15), (A 16)) hx hb hr hlk hP hD hS dX11_doubt_20 (trivial) (Nat.le_of_ble_eq_true rfl) (Nat.le_of_ble_eq_true rfl)

set_option maxRecDepth 100000 in
set_option maxHeartbeats 8000000 in
theorem sX11_walks (l : Launch) (G : va_G) (cs : Nat → ClassId) (h : Nat) (q : Nat → Nat) (F : Nat → Int32) (A : Nat → Nat → Int32) (D : Int64) (B : Nat → Nat → Int64) (hI : IM F A) (a1 : Int32) (a2 : Int32) : SafeR l yX11_walks cX11_walks 4 (some .int) 4 G (TY cs) [.ref h, .int a1, .int a2] (mS cs h q F A D B) (fun r : Int32 => True) := by
  refine mkP (Qc := QRi (fun r : Int32 => True)) (by decide) (by simp [lg_sl, Value.category]) ?_
  intro p e s m args below meth c ls hx hb hml hr hlk hown ht hK hP hS hl
  have hl : lv_has ls 4 [(0, .ref h), (1, .int a1), (2, .int a2)] := hl
  refine lv_aload_n hx hb dX11_walks_0 rfl (lv_at hl 0 rfl) ?_
  refine lv_iload_n hx hb dX11_walks_1 rfl (lv_at hl 1 rfl) ?_
  refine lv_aload_n hx hb dX11_walks_2 rfl (lv_at hl 0 rfl) ?_
  refine lv_iload_n hx hb dX11_walks_3 rfl (lv_at hl 2 rfl) ?_
  refine lv_i2l hx hb dX11_walks_4 rfl ?_
  have bb1 := i32b a2
  refine lv_topl (fun v2 ev2 => ?_)
  have tv2 : v2.toInt = a2.toInt := by rw [ev2]; exact Int32.toInt_toInt64 _
  refine behR (runVP (As := [.long v2]) (rest := [.int a1, .ref h]) ⟨hx, hb, hml, hown, ht⟩ (sX11_isRoom l G cs h q F A D B hI v2 ) okV_RX11_89 ⟨by decide, by decide⟩ hK hP [0, 1, 2, 3, 4, 5, 6, 7, 8, 9, 10, 11, 12, 13, 14, 15, 16, 17, 18, 19] rfl 0 rfl rfl hl.1 rfl (Nat.le_of_ble_eq_true rfl) dX11_walks_5 ⟨by decide, by decide⟩) hP hS (fun _ h => h) (fun r3 H locs hr3 hP hS => ?_)
  have hr3 : (r3.toInt = 1 ∧ 0 ≤ v2.toInt ∧ v2.toInt < (A 1 4).toInt ∧ v2.toInt ≤ 6 ∧ (A 1 4).toInt ≤ 7) ∨ r3.toInt = 0 := hr3
  refine behR (runVP (As := [.int a1, .int r3]) (rest := []) ⟨hx, hb, hml, hown, ht⟩ (sX11_asksRound l G cs h q F A D B hI a1 r3 (by omega)) okV_RX11_303 ⟨by decide, by decide⟩ hK hP [0, 1, 2, 3, 4, 5, 6, 7, 8, 9, 10, 11, 12, 13, 14, 15, 16, 17, 18, 19] rfl 0 rfl rfl hl.1 rfl (Nat.le_of_ble_eq_true rfl) dX11_walks_8 ⟨by decide, by decide⟩) hP hS (fun _ h => h) (fun r4 H locs hr4 hP hS => ?_)
  have hr4 : (r4.toInt = -2 ∨ r4.toInt = -6 ∨ (r4.toInt = 0 ∧ 0 ≤ a1.toInt ∧ a1.toInt ≤ 3 ∧ 0 ≤ (A 31 a1.toNatClampNeg).toInt ∧ r3.toInt = 1)) ∧ (r4.toInt = 0 → RV B a1 (A 31 a1.toNatClampNeg).toInt) := hr4
  obtain ⟨hr4, gr4⟩ := hr4
  refine lv_istore_n (lv' := [(3, .int r4), (0, .ref h), (1, .int a1), (2, .int a2)]) hx hb dX11_walks_11 rfl hl (by decide) rfl (fun ls hl => ?_)
  refine lv_iload_n hx hb dX11_walks_12 rfl (lv_at hl 0 rfl) ?_
  refine lv_if_ge (tgt := 20) hx hb dX11_walks_13 (by decide) (fun c5 => ?_) (fun c5 => ?_)
  · have zc5 := leK (show (0 : Int32).toInt = 0 by decide) rfl c5
    refine lv_aload_n hx hb dX11_walks_20 rfl (lv_at hl 1 rfl) ?_
    refine lv_iload_n hx hb dX11_walks_21 rfl (lv_at hl 2 rfl) ?_
    refine lv_iload_n hx hb dX11_walks_22 rfl (lv_at hl 3 rfl) ?_
    refine behR (runVP (As := [.int a1, .int a2]) (rest := []) ⟨hx, hb, hml, hown, ht⟩ (sX11_canWalk l G cs h q F A D B hI a1 a2 (by omega) (by omega) (gr4 (by omega))) okV_RX11_316 ⟨by decide, by decide⟩ hK hP [0, 1, 2, 3, 4, 5, 6, 7, 8, 9, 10, 11, 12, 13, 14, 15, 16, 17, 18, 19] rfl 0 rfl rfl hl.1 rfl (Nat.le_of_ble_eq_true rfl) dX11_walks_23 ⟨by decide, by decide⟩) hP hS (fun _ h => h) (fun r6 H locs hr6 hP hS => ?_)
    have hr6 : (0 : Int) ≤ r6.toInt ∧ r6.toInt ≤ 1 := hr6
    refine lv_if_eq (tgt := 33) hx hb dX11_walks_26 (by decide) (fun c7 => ?_) (fun c7 => ?_)
    · have zc7 := eqK rfl (show (0 : Int32).toInt = 0 by decide) c7
      refine lv_iconst (v := 0) hx hb dX11_walks_33 (by decide) ?_
      exact retRi hx hb hr hlk hS dX11_walks_34 (trivial)
    · have zc7 := neK rfl (show (0 : Int32).toInt = 0 by decide) c7
      refine lv_iconst (v := 1) hx hb dX11_walks_29 (by decide) ?_
      refine lv_goto (tgt := 34) hx hb dX11_walks_30 (by decide) ?_
      exact retRi hx hb hr hlk hS dX11_walks_34 (trivial)
  · have zc5 := nleK (show (0 : Int32).toInt = 0 by decide) rfl c5
    refine lv_iload_n hx hb dX11_walks_16 rfl (lv_at hl 0 rfl) ?_
    refine lv_goto (tgt := 34) hx hb dX11_walks_17 (by decide) ?_
    exact retRi hx hb hr hlk hS dX11_walks_34 (trivial)

set_option maxRecDepth 100000 in
set_option maxHeartbeats 8000000 in
theorem sX11_penny (l : Launch) (G : va_G) (cs : Nat → ClassId) (h : Nat) (q : Nat → Nat) (F : Nat → Int32) (A : Nat → Nat → Int32) (D : Int64) (B : Nat → Nat → Int64) (hI : IM F A) (a1 : Int32) : ImpI l yX11_penny cX11_penny 8 (some .int) 7 0 0 G (TY cs) [.ref h, .int a1] (mS cs h q F A D B) (fun (r : Int32) (u : Int32 × Int32 × (Nat → Int32) × (Nat → Int32)) => True) (fun u : Int32 × Int32 × (Nat → Int32) × (Nat → Int32) => (mS cs h q (upd (upd F 17 u.1) 18 u.2.1) (vA (vA A 15 u.2.2.1) 16 u.2.2.2) D B)) := by
  refine mkD (Qc := (QDi G (fun (r : Int32) (u : Int32 × Int32 × (Nat → Int32) × (Nat → Int32)) => True) (fun u : Int32 × Int32 × (Nat → Int32) × (Nat → Int32) => (mS cs h q (upd (upd F 17 u.1) 18 u.2.1) (vA (vA A 15 u.2.2.1) 16 u.2.2.2) D B)))) (by decide) (by simp [lg_sl, Value.category]) ?_
  intro p e s m args below meth c ls A0 hx hb hml hr hlk hown hmn ht hK hP hD hS hA hl
  have hl : lv_has ls 8 [(0, .ref h), (1, .int a1)] := hl
  refine lv_aload_n hx hb dX11_penny_0 rfl (lv_at hl 0 rfl) ?_
  refine lv_iload_n hx hb dX11_penny_1 rfl (lv_at hl 1 rfl) ?_
  refine lv_iconst (v := 1) hx hb dX11_penny_2 (by decide) ?_
  refine behR (runVP (As := [.int a1, .int 1]) (rest := []) ⟨hx, hb, hml, hown, ht⟩ (sX11_asksRound l G cs h q F A D B hI a1 1 (by decide)) okV_RX11_303 ⟨by decide, by decide⟩ hK hP [0, 1, 2, 3, 4, 5, 6, 7, 8, 9, 10, 11, 12, 13, 14, 15, 16, 17, 18, 19] rfl 0 rfl rfl hl.1 rfl (Nat.le_of_ble_eq_true rfl) dX11_penny_3 ⟨by decide, by decide⟩) hP hS hA (fun r1 H locs hr1 hP hS => ?_)
  have kk2 : (1 : Int32).toInt = 1 := by decide
  have hr1 : (r1.toInt = -2 ∨ r1.toInt = -6 ∨ (r1.toInt = 0 ∧ 0 ≤ a1.toInt ∧ a1.toInt ≤ 3 ∧ 0 ≤ (A 31 a1.toNatClampNeg).toInt ∧ (1 : Int32).toInt = 1)) ∧ (r1.toInt = 0 → RV B a1 (A 31 a1.toNatClampNeg).toInt) := hr1
  obtain ⟨hr1, gr1⟩ := hr1
  refine lv_istore_n (lv' := [(2, .int r1), (0, .ref h), (1, .int a1)]) hx hb dX11_penny_6 rfl hl (by decide) rfl (fun ls hl => ?_)
  refine lv_iload_n hx hb dX11_penny_7 rfl (lv_at hl 0 rfl) ?_
  refine lv_if_ge (tgt := 13) hx hb dX11_penny_8 (by decide) (fun c3 => ?_) (fun c3 => ?_)
  · have zc3 := leK (show (0 : Int32).toInt = 0 by decide) rfl c3
    refine lv_iconst (v := 0) hx hb dX11_penny_13 (by decide) ?_
    refine lv_istore_n (lv' := [(3, .int 0), (2, .int r1), (0, .ref h), (1, .int a1)]) hx hb dX11_penny_14 rfl hl (by decide) rfl (fun ls hl => ?_)
    refine lv_iconst (v := 0) hx hb dX11_penny_15 (by decide) ?_
    refine lv_istore (lv' := [(4, .int 0), (3, .int 0), (2, .int r1), (0, .ref h), (1, .int a1)]) hx hb dX11_penny_16 hl (by decide) rfl (fun ls hl => ?_)
    have B18 : ∀ (n : Nat) (x18_3 : Int32) (x18_4 : Int32) (H : Heap) (locs : List Loc) (ls : Array Slot), (60 - x18_4.toInt).toNat < n → (0 : Int) ≤ x18_4.toInt ∧ x18_4.toInt ≤ 60 → va_P G vwCl (mS cs h q F A D B) H → va_D A0 (mS cs h q F A D B) → va_S A0 s.heap H locs → lv_has ls 8 [(0, .ref h), (1, .int a1), (3, .int x18_3), (4, .int x18_4)] → W p l e (rmk 7 0 0) s m args below meth c H locs 0 0 (MQ below ((QDi G (fun (r : Int32) (u : Int32 × Int32 × (Nat → Int32) × (Nat → Int32)) => True) (fun u : Int32 × Int32 × (Nat → Int32) × (Nat → Int32) => (mS cs h q (upd (upd F 17 u.1) 18 u.2.1) (vA (vA A 15 u.2.2.1) 16 u.2.2.2) D B))) A0) args s 0 0 A0) (F0 m 18 ls []) := by
      intro n
      induction n with
      | zero => intro x18_3 x18_4 H locs ls hmeas hx18_4 hP hD hS hl; exact absurd hmeas (Nat.not_lt_zero _)
      | succ n ih18 =>
        intro x18_3 x18_4 H locs ls hmeas hx18_4 hP hD hS hl
        refine lv_iload hx hb dX11_penny_18 (lv_at hl 3 rfl) ?_
        refine lv_aload_n hx hb dX11_penny_20 rfl (lv_at hl 0 rfl) ?_
        refine getF (v := .ref (q 31)) hx hb ht hown hK hP iTX11 0 31 rfl rfl (by decide) fl_RX11_61 rfl dX11_penny_21 ?_
        refine lv_iload_n hx hb dX11_penny_24 rfl (lv_at hl 1 rfl) ?_
        refine va_iald hx hb hK.1 hP 16 0 rfl rfl (inK rfl (by omega) (by decide)) dX11_penny_25 ?_
        refine lv_topi (fun v14001 ev14001 => ?_)
        have zf14002 : (-1 : Int) ≤ v14001.toInt ∧ v14001.toInt ≤ 60 := by rw [ev14001]; exact (hI.2 31 _)
        have nv14001 : v14001.toInt = (A 31 a1.toNatClampNeg).toInt := congrArg Int32.toInt ev14001
        refine lv_icmp_ge (tgt := 54) hx hb dX11_penny_26 (by decide) (fun c14003 => ?_) (fun c14003 => ?_)
        · have zc14003 := leK rfl rfl c14003
          refine lv_iconst (v := 0) hx hb dX11_penny_54 (by decide) ?_
          refine lv_istore (lv' := [(4, .int 0), (0, .ref h), (1, .int a1), (3, .int x18_3)]) hx hb dX11_penny_55 hl (by decide) rfl (fun ls hl => ?_)
          refine lv_aload_n hx hb dX11_penny_57 rfl (lv_at hl 1 rfl) ?_
          refine lv_iload_n hx hb dX11_penny_58 rfl (lv_at hl 2 rfl) ?_
          refine lv_aload_n hx hb dX11_penny_59 rfl (lv_at hl 1 rfl) ?_
          refine getF (v := .ref (q 31)) hx hb ht hown hK hP iTX11 0 31 rfl rfl (by decide) fl_RX11_61 rfl dX11_penny_60 ?_
          refine lv_iload_n hx hb dX11_penny_63 rfl (lv_at hl 2 rfl) ?_
          refine va_iald hx hb hK.1 hP 16 0 rfl rfl (inK rfl (by omega) (by decide)) dX11_penny_64 ?_
          refine lv_topi (fun v14004 ev14004 => ?_)
          have zf14005 : (-1 : Int) ≤ v14004.toInt ∧ v14004.toInt ≤ 60 := by rw [ev14004]; exact (hI.2 31 _)
          have nv14004 : v14004.toInt = (A 31 a1.toNatClampNeg).toInt := congrArg Int32.toInt ev14004
          refine lv_iconst (v := 0) hx hb dX11_penny_65 (by decide) ?_
          refine behDi (wr := []) (runVD (As := [.int a1, .int v14004, .int 0]) (rest := []) ⟨hx, hb, hml, hown, ht⟩ (sX11_gainOf l G cs h q F A D B hI a1 v14004 0 (by omega) (by omega) (by decide) (RVle (gr1 (by omega)) (by first | omega | (rw [ev14004]; exact Int.le_refl _)))) okV_RX11_309 ⟨by decide, by decide⟩ hK hP hD [0, 1, 2, 3, 4, 5, 6, 7, 8, 9, 10, 11, 12, 13, 14, 15, 16, 17, 18, 19] rfl (by decide) rfl 0 rfl rfl hl.1 rfl (Nat.le_of_ble_eq_true rfl) dX11_penny_66 ⟨(Nat.le_of_ble_eq_true rfl), (Nat.le_of_ble_eq_true rfl)⟩) hP hD hS hA [0, 1, 2, 3, 4, 5, 6, 7, 8, 9, 10, 11, 12, 13, 14, 15, 16, 17, 18, 19] [] rfl rfl (by decide) (by decide) (fun r9 u H locs hu hP hD hS => ?_)
          obtain ⟨x14006, x14007, g14008, g14009⟩ := u
          obtain ⟨r14010, rfl⟩ : ∃ z, z = r9 := ⟨_, rfl⟩
          have hr14010 := hu
          have hP : va_P G vwCl (mS cs h q (upd (upd F 17 x14006) 18 x14007) (vA (vA A 15 g14008) 16 g14009) D B) H := hP
          have hD : va_D A0 (mS cs h q (upd (upd F 17 x14006) 18 x14007) (vA (vA A 15 g14008) 16 g14009) D B) := hD
          refine lv_istore (lv' := [(5, .int r14010), (4, .int 0), (0, .ref h), (1, .int a1), (3, .int x18_3)]) hx hb dX11_penny_69 hl (by decide) rfl (fun ls hl => ?_)
          refine lv_iconst (v := 1) hx hb dX11_penny_71 (by decide) ?_
          refine lv_istore (lv' := [(6, .int 1), (5, .int r14010), (4, .int 0), (0, .ref h), (1, .int a1), (3, .int x18_3)]) hx hb dX11_penny_72 hl (by decide) rfl (fun ls hl => ?_)
          have B74 : ∀ (n : Nat) (x74_4 : Int32) (x74_5 : Int32) (x74_6 : Int32) (f17_74 : Int32) (f18_74 : Int32) (a15_74 : (Nat → Int32)) (a16_74 : (Nat → Int32)) (H : Heap) (locs : List Loc) (ls : Array Slot), (10 - x74_6.toInt).toNat < n → (0 : Int) ≤ x74_4.toInt ∧ x74_4.toInt ≤ 9 → (1 : Int) ≤ x74_6.toInt ∧ x74_6.toInt ≤ 10 → va_P G vwCl (mS cs h q (upd (upd F 17 f17_74) 18 f18_74) (vA (vA A 15 a15_74) 16 a16_74) D B) H → va_D A0 (mS cs h q (upd (upd F 17 f17_74) 18 f18_74) (vA (vA A 15 a15_74) 16 a16_74) D B) → va_S A0 s.heap H locs → lv_has ls 8 [(0, .ref h), (1, .int a1), (3, .int x18_3), (4, .int x74_4), (5, .int x74_5), (6, .int x74_6)] → W p l e (rmk 7 0 0) s m args below meth c H locs 0 0 (MQ below ((QDi G (fun (r : Int32) (u : Int32 × Int32 × (Nat → Int32) × (Nat → Int32)) => True) (fun u : Int32 × Int32 × (Nat → Int32) × (Nat → Int32) => (mS cs h q (upd (upd F 17 u.1) 18 u.2.1) (vA (vA A 15 u.2.2.1) 16 u.2.2.2) D B))) A0) args s 0 0 A0) (F0 m 74 ls []) := by
            intro n
            induction n with
            | zero => intro x74_4 x74_5 x74_6 f17_74 f18_74 a15_74 a16_74 H locs ls hmeas hx74_4 hx74_6 hP hD hS hl; exact absurd hmeas (Nat.not_lt_zero _)
            | succ n ih74 =>
              intro x74_4 x74_5 x74_6 f17_74 f18_74 a15_74 a16_74 H locs ls hmeas hx74_4 hx74_6 hP hD hS hl
              refine lv_iload hx hb dX11_penny_74 (lv_at hl 5 rfl) ?_
              refine lv_bipush (v := 9) hx hb dX11_penny_76 (by decide) ?_
              refine lv_icmp_gt (tgt := 125) hx hb dX11_penny_78 (by decide) (fun c47001 => ?_) (fun c47001 => ?_)
              · have zc47001 := ltK (show (9 : Int32).toInt = 9 by decide) rfl c47001
                refine lv_iload hx hb dX11_penny_125 (lv_at hl 3 rfl) ?_
                exact retDi (f17_74, f18_74, a15_74, a16_74) hx hb hr hlk hP hD hS dX11_penny_127 (trivial) (Nat.le_of_ble_eq_true rfl) (Nat.le_of_ble_eq_true rfl)
              · have zc47001 := nltK (show (9 : Int32).toInt = 9 by decide) rfl c47001
                refine lv_aload_n hx hb dX11_penny_81 rfl (lv_at hl 0 rfl) ?_
                refine lv_iload_n hx hb dX11_penny_82 rfl (lv_at hl 1 rfl) ?_
                refine lv_aload_n hx hb dX11_penny_83 rfl (lv_at hl 0 rfl) ?_
                refine getF (v := .ref (q 31)) hx hb ht hown hK hP iTX11 0 31 rfl rfl (by decide) fl_RX11_61 rfl dX11_penny_84 ?_
                refine lv_iload_n hx hb dX11_penny_87 rfl (lv_at hl 1 rfl) ?_
                refine va_iald hx hb hK.1 hP 16 0 rfl rfl (inK rfl (by omega) (by decide)) dX11_penny_88 ?_
                refine lv_topi (fun v47002 ev47002 => ?_)
                have zf47003 : (-1 : Int) ≤ v47002.toInt ∧ v47002.toInt ≤ 60 := by rw [ev47002]; exact (hI.2 31 _)
                have nv47002 : v47002.toInt = (A 31 a1.toNatClampNeg).toInt := congrArg Int32.toInt ev47002
                refine lv_iload hx hb dX11_penny_89 (lv_at hl 5 rfl) ?_
                refine behDi (wr := []) (runVD (As := [.int a1, .int v47002, .int x74_6]) (rest := []) ⟨hx, hb, hml, hown, ht⟩ (sX11_gainOf l G cs h q (upd (upd F 17 f17_74) 18 f18_74) (vA (vA A 15 a15_74) 16 a16_74) D B (IM_arr (k := 16) (IM_arr (k := 15) (IM_put (k := 18) (IM_put (k := 17) hI (i32b _)) (i32b _)) (fun _ => i32b _)) (fun _ => i32b _)) a1 v47002 x74_6 (by omega) (by omega) (by omega) (RVle (gr1 (by omega)) (by first | omega | (rw [ev47002]; exact Int.le_refl _)))) okV_RX11_309 ⟨by decide, by decide⟩ hK hP hD [0, 1, 2, 3, 4, 5, 6, 7, 8, 9, 10, 11, 12, 13, 14, 15, 16, 17, 18, 19] rfl (by decide) rfl 0 rfl rfl hl.1 rfl (Nat.le_of_ble_eq_true rfl) dX11_penny_91 ⟨(Nat.le_of_ble_eq_true rfl), (Nat.le_of_ble_eq_true rfl)⟩) hP hD hS hA [0, 1, 2, 3, 4, 5, 6, 7, 8, 9, 10, 11, 12, 13, 14, 15, 16, 17, 18, 19] [] rfl rfl (by decide) (by decide) (fun r9 u H locs hu hP hD hS => ?_)
                obtain ⟨x47004, x47005, g47006, g47007⟩ := u
                obtain ⟨r47008, rfl⟩ : ∃ z, z = r9 := ⟨_, rfl⟩
                have hr47008 := hu
                have hP : va_P G vwCl (mS cs h q (upd (upd F 17 x47004) 18 x47005) (vA (vA A 15 g47006) 16 g47007) D B) H := hP
                have hD : va_D A0 (mS cs h q (upd (upd F 17 x47004) 18 x47005) (vA (vA A 15 g47006) 16 g47007) D B) := hD
                refine lv_iload hx hb dX11_penny_94 (lv_at hl 5 rfl) ?_
                refine lv_iload_n hx hb dX11_penny_96 rfl (lv_at hl 2 rfl) ?_
                refine lv_imul hx hb dX11_penny_97 ?_
                refine lv_topi (fun v47009 ev47009 => ?_)
                refine lv_isub hx hb dX11_penny_98 ?_
                refine lv_topi (fun v47010 ev47010 => ?_)
                refine lv_istore (lv' := [(7, .int v47010), (0, .ref h), (1, .int a1), (3, .int x18_3), (4, .int x74_4), (5, .int x74_5), (6, .int x74_6)]) hx hb dX11_penny_99 hl (by decide) rfl (fun ls hl => ?_)
                refine lv_iload hx hb dX11_penny_101 (lv_at hl 0 rfl) ?_
                refine lv_iload hx hb dX11_penny_103 (lv_at hl 5 rfl) ?_
                have B119 : ∀ (x119_4 : Int32) (x119_5 : Int32) (H : Heap) (locs : List Loc) (ls : Array Slot), (0 : Int) ≤ x119_4.toInt ∧ x119_4.toInt ≤ 9 → va_P G vwCl (mS cs h q (upd (upd F 17 x47004) 18 x47005) (vA (vA A 15 g47006) 16 g47007) D B) H → va_D A0 (mS cs h q (upd (upd F 17 x47004) 18 x47005) (vA (vA A 15 g47006) 16 g47007) D B) → va_S A0 s.heap H locs → lv_has ls 8 [(0, .ref h), (1, .int a1), (3, .int x18_3), (4, .int x119_4), (5, .int x119_5), (6, .int x74_6)] → W p l e (rmk 7 0 0) s m args below meth c H locs 0 0 (MQ below ((QDi G (fun (r : Int32) (u : Int32 × Int32 × (Nat → Int32) × (Nat → Int32)) => True) (fun u : Int32 × Int32 × (Nat → Int32) × (Nat → Int32) => (mS cs h q (upd (upd F 17 u.1) 18 u.2.1) (vA (vA A 15 u.2.2.1) 16 u.2.2.2) D B))) A0) args s 0 0 A0) (F0 m 119 ls []) := by
                  intro x119_4 x119_5 H locs ls hx119_4 hP hD hS hl
                  obtain ⟨v71001, ev71001⟩ : ∃ z : Int32, z = x74_6 + 1 := ⟨_, rfl⟩
                  have tv71001 : v71001.toInt = x74_6.toInt + 1 := by rw [ev71001]; exact addT rfl (by decide) (by omega)
                  refine lv_iinc (v := v71001) (lv' := [(6, .int v71001), (0, .ref h), (1, .int a1), (3, .int x18_3), (4, .int x119_4), (5, .int x119_5)]) hx hb dX11_penny_119 hl (k := 5) rfl (by rw [ev71001]; rfl) (by decide) rfl (fun ls hl => ?_)
                  refine lv_goto (tgt := 74) hx hb dX11_penny_122 (by decide) ?_
                  exact ih74 x119_4 x119_5 v71001 x47004 x47005 g47006 g47007 H locs ls (by omega) (by omega) (by omega) hP hD hS (lv_sub hl [1, 2, 3, 4, 5, 0] rfl)
                refine lv_icmp_gt (tgt := 111) hx hb dX11_penny_105 (by decide) (fun c47011 => ?_) (fun c47011 => ?_)
                · have zc47011 := ltK rfl rfl c47011
                  refine lv_iload hx hb dX11_penny_111 (lv_at hl 0 rfl) ?_
                  refine lv_istore (lv' := [(5, .int v47010), (7, .int v47010), (0, .ref h), (1, .int a1), (3, .int x18_3), (4, .int x74_4), (6, .int x74_6)]) hx hb dX11_penny_113 hl (by decide) rfl (fun ls hl => ?_)
                  refine lv_iload hx hb dX11_penny_115 (lv_at hl 6 rfl) ?_
                  refine lv_istore (lv' := [(4, .int x74_6), (5, .int v47010), (7, .int v47010), (0, .ref h), (1, .int a1), (3, .int x18_3), (6, .int x74_6)]) hx hb dX11_penny_117 hl (by decide) rfl (fun ls hl => ?_)
                  exact B119 x74_6 v47010 H locs ls (by omega) hP hD hS (lv_sub hl [3, 4, 5, 0, 1, 6] rfl)
                · have zc47011 := nltK rfl rfl c47011
                  refine lv_goto (tgt := 119) hx hb dX11_penny_108 (by decide) ?_
                  exact B119 x74_4 x74_5 H locs ls (by omega) hP hD hS (lv_sub hl [1, 2, 3, 4, 5, 6] rfl)
          exact B74 _ 0 r14010 1 x14006 x14007 g14008 g14009 H locs ls (Nat.lt_succ_self _) (by decide) (by decide) hP hD hS (lv_sub hl [3, 4, 5, 2, 1, 0] rfl)
        · have zc14003 := nleK rfl rfl c14003
          refine lv_iload_n hx hb dX11_penny_29 rfl (lv_at hl 2 rfl) ?_
          refine lv_aload_n hx hb dX11_penny_30 rfl (lv_at hl 0 rfl) ?_
          refine lv_iload_n hx hb dX11_penny_31 rfl (lv_at hl 1 rfl) ?_
          refine lv_iload hx hb dX11_penny_32 (lv_at hl 3 rfl) ?_
          refine behR (runVP (As := [.int a1, .int x18_4]) (rest := [.int x18_3]) ⟨hx, hb, hml, hown, ht⟩ (sX11_roomAt l G cs h q F A D B hI a1 x18_4 (by omega) (by omega)) okV_RX11_293 ⟨by decide, by decide⟩ hK hP [0, 1, 2, 3, 4, 5, 6, 7, 8, 9, 10, 11, 12, 13, 14, 15, 16, 17, 18, 19] rfl 0 rfl rfl hl.1 rfl (Nat.le_of_ble_eq_true rfl) dX11_penny_34 ⟨by decide, by decide⟩) hP hS hA (fun r14011 H locs hr14011 hP hS => ?_)
          have hr14011 : r14011 = (B 33 (60 * a1.toNatClampNeg + x18_4.toNatClampNeg)).toInt32 := hr14011
          have zbr14011 : -1 ≤ r14011.toInt ∧ r14011.toInt ≤ 6 := by rw [hr14011]; exact RVroom (gr1 (by omega)) (by have q1 := clK (i := x18_4) rfl (by omega); omega)
          refine lv_iconst (v := (-1)) hx hb dX11_penny_37 (by decide) ?_
          have B46 : ∀ (s46_0 : Int32) (s46_1 : Int32) (H : Heap) (locs : List Loc) (ls : Array Slot), (0 : Int) ≤ s46_0.toInt ∧ s46_0.toInt ≤ 1 → va_P G vwCl (mS cs h q F A D B) H → va_D A0 (mS cs h q F A D B) → va_S A0 s.heap H locs → lv_has ls 8 [(0, .ref h), (1, .int a1), (4, .int x18_4)] → W p l e (rmk 7 0 0) s m args below meth c H locs 0 0 (MQ below ((QDi G (fun (r : Int32) (u : Int32 × Int32 × (Nat → Int32) × (Nat → Int32)) => True) (fun u : Int32 × Int32 × (Nat → Int32) × (Nat → Int32) => (mS cs h q (upd (upd F 17 u.1) 18 u.2.1) (vA (vA A 15 u.2.2.1) 16 u.2.2.2) D B))) A0) args s 0 0 A0) (F0 m 46 ls [.int s46_0, .int s46_1]) := by
            intro s46_0 s46_1 H locs ls hs46_0 hP hD hS hl
            refine lv_iadd hx hb dX11_penny_46 ?_
            refine lv_topi (fun v30001 ev30001 => ?_)
            refine lv_istore_n (lv' := [(3, .int v30001), (0, .ref h), (1, .int a1), (4, .int x18_4)]) hx hb dX11_penny_47 rfl hl (by decide) rfl (fun ls hl => ?_)
            obtain ⟨v30002, ev30002⟩ : ∃ z : Int32, z = x18_4 + 1 := ⟨_, rfl⟩
            have tv30002 : v30002.toInt = x18_4.toInt + 1 := by rw [ev30002]; exact addT rfl (by decide) (by omega)
            refine lv_iinc (v := v30002) (lv' := [(4, .int v30002), (3, .int v30001), (0, .ref h), (1, .int a1)]) hx hb dX11_penny_48 hl (k := 3) rfl (by rw [ev30002]; rfl) (by decide) rfl (fun ls hl => ?_)
            refine lv_goto (tgt := 18) hx hb dX11_penny_51 (by decide) ?_
            exact ih18 v30001 v30002 H locs ls (by omega) (by omega) hP hD hS (lv_sub hl [2, 3, 1, 0] rfl)
          refine lv_icmp_ne (tgt := 45) hx hb dX11_penny_38 (by decide) (fun c14012 => ?_) (fun c14012 => ?_)
          · have zc14012 := neK rfl (show (-1 : Int32).toInt = (-1) by decide) c14012
            refine lv_iconst (v := 1) hx hb dX11_penny_45 (by decide) ?_
            exact B46 1 x18_3 H locs ls (by decide) hP hD hS (lv_sub hl [0, 1, 3] rfl)
          · have zc14012 := eqK rfl (show (-1 : Int32).toInt = (-1) by decide) c14012
            refine lv_iconst (v := 0) hx hb dX11_penny_41 (by decide) ?_
            refine lv_goto (tgt := 46) hx hb dX11_penny_42 (by decide) ?_
            exact B46 0 x18_3 H locs ls (by decide) hP hD hS (lv_sub hl [0, 1, 3] rfl)
    exact B18 _ 0 0 H locs ls (Nat.lt_succ_self _) (by decide) hP hD hS (lv_sub hl [3, 4, 1, 0] rfl)
  · have zc3 := nleK (show (0 : Int32).toInt = 0 by decide) rfl c3
    refine lv_iload_n hx hb dX11_penny_11 rfl (lv_at hl 0 rfl) ?_
    exact retDi ((F 17), (F 18), (A 15), (A 16)) hx hb hr hlk hP hD hS dX11_penny_12 (trivial) (Nat.le_of_ble_eq_true rfl) (Nat.le_of_ble_eq_true rfl)

set_option maxRecDepth 100000 in
set_option maxHeartbeats 8000000 in
theorem sX11_hangs (l : Launch) (G : va_G) (cs : Nat → ClassId) (h : Nat) (q : Nat → Nat) (F : Nat → Int32) (A : Nat → Nat → Int32) (D : Int64) (B : Nat → Nat → Int64) (hI : IM F A) (a1 : Int32) : ImpI l yX11_hangs cX11_hangs 4 (some .int) 5 0 0 G (TY cs) [.ref h, .int a1] (mS cs h q F A D B) (fun (r : Int32) (u : Int32 × Int32 × (Nat → Int32) × (Nat → Int32)) => True) (fun u : Int32 × Int32 × (Nat → Int32) × (Nat → Int32) => (mS cs h q (upd (upd F 17 u.1) 18 u.2.1) (vA (vA A 15 u.2.2.1) 16 u.2.2.2) D B)) := by
  refine mkD (Qc := (QDi G (fun (r : Int32) (u : Int32 × Int32 × (Nat → Int32) × (Nat → Int32)) => True) (fun u : Int32 × Int32 × (Nat → Int32) × (Nat → Int32) => (mS cs h q (upd (upd F 17 u.1) 18 u.2.1) (vA (vA A 15 u.2.2.1) 16 u.2.2.2) D B)))) (by decide) (by simp [lg_sl, Value.category]) ?_
  intro p e s m args below meth c ls A0 hx hb hml hr hlk hown hmn ht hK hP hD hS hA hl
  have hl : lv_has ls 4 [(0, .ref h), (1, .int a1)] := hl
  refine lv_aload_n hx hb dX11_hangs_0 rfl (lv_at hl 0 rfl) ?_
  refine lv_iload_n hx hb dX11_hangs_1 rfl (lv_at hl 1 rfl) ?_
  refine lv_iconst (v := 1) hx hb dX11_hangs_2 (by decide) ?_
  refine behR (runVP (As := [.int a1, .int 1]) (rest := []) ⟨hx, hb, hml, hown, ht⟩ (sX11_asksRound l G cs h q F A D B hI a1 1 (by decide)) okV_RX11_303 ⟨by decide, by decide⟩ hK hP [0, 1, 2, 3, 4, 5, 6, 7, 8, 9, 10, 11, 12, 13, 14, 15, 16, 17, 18, 19] rfl 0 rfl rfl hl.1 rfl (Nat.le_of_ble_eq_true rfl) dX11_hangs_3 ⟨by decide, by decide⟩) hP hS hA (fun r1 H locs hr1 hP hS => ?_)
  have kk2 : (1 : Int32).toInt = 1 := by decide
  have hr1 : (r1.toInt = -2 ∨ r1.toInt = -6 ∨ (r1.toInt = 0 ∧ 0 ≤ a1.toInt ∧ a1.toInt ≤ 3 ∧ 0 ≤ (A 31 a1.toNatClampNeg).toInt ∧ (1 : Int32).toInt = 1)) ∧ (r1.toInt = 0 → RV B a1 (A 31 a1.toNatClampNeg).toInt) := hr1
  obtain ⟨hr1, gr1⟩ := hr1
  refine lv_istore_n (lv' := [(2, .int r1), (0, .ref h), (1, .int a1)]) hx hb dX11_hangs_6 rfl hl (by decide) rfl (fun ls hl => ?_)
  refine lv_iload_n hx hb dX11_hangs_7 rfl (lv_at hl 0 rfl) ?_
  refine lv_if_ge (tgt := 13) hx hb dX11_hangs_8 (by decide) (fun c3 => ?_) (fun c3 => ?_)
  · have zc3 := leK (show (0 : Int32).toInt = 0 by decide) rfl c3
    refine lv_aload_n hx hb dX11_hangs_13 rfl (lv_at hl 1 rfl) ?_
    refine behDw (wr := []) (runVD (As := []) (rest := []) ⟨hx, hb, hml, hown, ht⟩ (sX11_asItIs l G cs h q F A D B hI  ) okV_RX11_278 ⟨by decide, by decide⟩ hK hP hD [0, 1, 2, 3, 4, 5, 6, 7, 8, 9, 10, 11, 12, 13, 14, 15, 16, 17, 18, 19] rfl (by decide) rfl 0 rfl rfl hl.1 rfl (Nat.le_of_ble_eq_true rfl) dX11_hangs_14 ⟨(Nat.le_of_ble_eq_true rfl), (Nat.le_of_ble_eq_true rfl)⟩) hP hD hS hA [0, 1, 2, 3, 4, 5, 6, 7, 8, 9, 10, 11, 12, 13, 14, 15, 16, 17, 18, 19] [] rfl rfl (by decide) (by decide) (fun u H locs hu hP hD hS => ?_)
    obtain ⟨x4, x5, g6, g7⟩ := u
    have hr8 := hu
    have hP : va_P G vwCl (mS cs h q (upd (upd F 17 x4) 18 x5) (vA (vA A 15 g6) 16 g7) D B) H := hP
    have hD : va_D A0 (mS cs h q (upd (upd F 17 x4) 18 x5) (vA (vA A 15 g6) 16 g7) D B) := hD
    refine lv_iconst (v := 0) hx hb dX11_hangs_17 (by decide) ?_
    refine lv_istore_n (lv' := [(3, .int 0), (2, .int r1), (0, .ref h), (1, .int a1)]) hx hb dX11_hangs_18 rfl hl (by decide) rfl (fun ls hl => ?_)
    have B19 : ∀ (n : Nat) (x19_3 : Int32) (f18_19 : Int32) (a15_19 : (Nat → Int32)) (a16_19 : (Nat → Int32)) (H : Heap) (locs : List Loc) (ls : Array Slot), (60 - x19_3.toInt).toNat < n → (0 : Int) ≤ x19_3.toInt ∧ x19_3.toInt ≤ 60 → va_P G vwCl (mS cs h q (upd (upd F 17 x4) 18 f18_19) (vA (vA A 15 a15_19) 16 a16_19) D B) H → va_D A0 (mS cs h q (upd (upd F 17 x4) 18 f18_19) (vA (vA A 15 a15_19) 16 a16_19) D B) → va_S A0 s.heap H locs → lv_has ls 4 [(0, .ref h), (1, .int a1), (3, .int x19_3)] → W p l e (rmk 5 0 0) s m args below meth c H locs 0 0 (MQ below ((QDi G (fun (r : Int32) (u : Int32 × Int32 × (Nat → Int32) × (Nat → Int32)) => True) (fun u : Int32 × Int32 × (Nat → Int32) × (Nat → Int32) => (mS cs h q (upd (upd F 17 u.1) 18 u.2.1) (vA (vA A 15 u.2.2.1) 16 u.2.2.2) D B))) A0) args s 0 0 A0) (F0 m 19 ls []) := by
      intro n
      induction n with
      | zero => intro x19_3 f18_19 a15_19 a16_19 H locs ls hmeas hx19_3 hP hD hS hl; exact absurd hmeas (Nat.not_lt_zero _)
      | succ n ih19 =>
        intro x19_3 f18_19 a15_19 a16_19 H locs ls hmeas hx19_3 hP hD hS hl
        refine lv_iload_n hx hb dX11_hangs_19 rfl (lv_at hl 2 rfl) ?_
        refine lv_aload_n hx hb dX11_hangs_20 rfl (lv_at hl 0 rfl) ?_
        refine getF (v := .ref (q 31)) hx hb ht hown hK hP iTX11 0 31 rfl rfl (by decide) fl_RX11_61 rfl dX11_hangs_21 ?_
        refine lv_iload_n hx hb dX11_hangs_24 rfl (lv_at hl 1 rfl) ?_
        refine va_iald hx hb hK.1 hP 16 0 rfl rfl (inK rfl (by omega) (by decide)) dX11_hangs_25 ?_
        refine lv_topi (fun v14001 ev14001 => ?_)
        have zf14002 : (-1 : Int) ≤ v14001.toInt ∧ v14001.toInt ≤ 60 := by rw [ev14001]; exact (hI.2 31 _)
        have nv14001 : v14001.toInt = (A 31 a1.toNatClampNeg).toInt := congrArg Int32.toInt ev14001
        refine lv_icmp_ge (tgt := 66) hx hb dX11_hangs_26 (by decide) (fun c14003 => ?_) (fun c14003 => ?_)
        · have zc14003 := leK rfl rfl c14003
          refine lv_iconst (v := (-1)) hx hb dX11_hangs_66 (by decide) ?_
          exact retDi (x4, f18_19, a15_19, a16_19) hx hb hr hlk hP hD hS dX11_hangs_67 (trivial) (Nat.le_of_ble_eq_true rfl) (Nat.le_of_ble_eq_true rfl)
        · have zc14003 := nleK rfl rfl c14003
          refine lv_aload_n hx hb dX11_hangs_29 rfl (lv_at hl 0 rfl) ?_
          refine lv_aload_n hx hb dX11_hangs_30 rfl (lv_at hl 0 rfl) ?_
          refine lv_aload_n hx hb dX11_hangs_31 rfl (lv_at hl 0 rfl) ?_
          refine lv_iload_n hx hb dX11_hangs_32 rfl (lv_at hl 1 rfl) ?_
          refine lv_iload_n hx hb dX11_hangs_33 rfl (lv_at hl 2 rfl) ?_
          refine behR (runVP (As := [.int a1, .int x19_3]) (rest := [.ref h, .ref h]) ⟨hx, hb, hml, hown, ht⟩ (sX11_roomAt l G cs h q (upd (upd F 17 x4) 18 f18_19) (vA (vA A 15 a15_19) 16 a16_19) D B (IM_arr (k := 16) (IM_arr (k := 15) (IM_put (k := 18) (IM_put (k := 17) hI (i32b _)) (i32b _)) (fun _ => i32b _)) (fun _ => i32b _)) a1 x19_3 (by omega) (by omega)) okV_RX11_293 ⟨by decide, by decide⟩ hK hP [0, 1, 2, 3, 4, 5, 6, 7, 8, 9, 10, 11, 12, 13, 14, 15, 16, 17, 18, 19] rfl 0 rfl rfl hl.1 rfl (Nat.le_of_ble_eq_true rfl) dX11_hangs_34 ⟨by decide, by decide⟩) hP hS hA (fun r14004 H locs hr14004 hP hS => ?_)
          have hr14004 : r14004 = (B 33 (60 * a1.toNatClampNeg + x19_3.toNatClampNeg)).toInt32 := hr14004
          have zbr14004 : -1 ≤ r14004.toInt ∧ r14004.toInt ≤ 6 := by rw [hr14004]; exact RVroom (gr1 (by omega)) (by have q1 := clK (i := x19_3) rfl (by omega); omega)
          refine lv_iconst (v := 0) hx hb dX11_hangs_37 (by decide) ?_
          refine behDi (wr := []) (runVD (As := [.int r14004, .int 0]) (rest := [.ref h]) ⟨hx, hb, hml, hown, ht⟩ (sX11_callIn l G cs h q (upd (upd F 17 x4) 18 f18_19) (vA (vA A 15 a15_19) 16 a16_19) D B (IM_arr (k := 16) (IM_arr (k := 15) (IM_put (k := 18) (IM_put (k := 17) hI (i32b _)) (i32b _)) (fun _ => i32b _)) (fun _ => i32b _)) r14004 0 (by omega) (by decide)) okV_RX11_264 ⟨by decide, by decide⟩ hK hP hD [0, 1, 2, 3, 4, 5, 6, 7, 8, 9, 10, 11, 12, 13, 14, 15, 16, 17, 18, 19] rfl (by decide) rfl 0 rfl rfl hl.1 rfl (Nat.le_of_ble_eq_true rfl) dX11_hangs_38 ⟨(Nat.le_of_ble_eq_true rfl), (Nat.le_of_ble_eq_true rfl)⟩) hP hD hS hA [0, 1, 2, 3, 4, 5, 6, 7, 8, 9, 10, 11, 12, 13, 14, 15, 16, 17, 18, 19] [] rfl rfl (by decide) (by decide) (fun r9 u H locs hu hP hD hS => ?_)
          obtain ⟨x14005, g14006⟩ := u
          obtain ⟨r14007, rfl⟩ : ∃ z, z = r9 := ⟨_, rfl⟩
          have hr14007 := hu
          have hP : va_P G vwCl (mS cs h q (upd (upd F 17 x4) 18 x14005) (vA (vA A 15 g14006) 16 a16_19) D B) H := hP
          have hD : va_D A0 (mS cs h q (upd (upd F 17 x4) 18 x14005) (vA (vA A 15 g14006) 16 a16_19) D B) := hD
          refine behR (runVP (As := [.int r14007]) (rest := []) ⟨hx, hb, hml, hown, ht⟩ (sX11_worthOf l G cs h q (upd (upd F 17 x4) 18 x14005) (vA (vA A 15 g14006) 16 a16_19) D B (IM_arr (k := 16) (IM_arr (k := 15) (IM_put (k := 18) (IM_put (k := 17) hI (i32b _)) (i32b _)) (fun _ => i32b _)) (fun _ => i32b _)) r14007 ) okV_RX11_300 ⟨by decide, by decide⟩ hK hP [0, 1, 2, 3, 4, 5, 6, 7, 8, 9, 10, 11, 12, 13, 14, 15, 16, 17, 18, 19] rfl 0 rfl rfl hl.1 rfl (Nat.le_of_ble_eq_true rfl) dX11_hangs_41 ⟨by decide, by decide⟩) hP hS hA (fun r14008 H locs hr14008 hP hS => ?_)
          refine lv_aload_n hx hb dX11_hangs_44 rfl (lv_at hl 0 rfl) ?_
          refine getF (v := .ref (q 1)) hx hb ht hown hK hP iTX11 0 1 rfl rfl (by decide) fl_RX11_9 rfl dX11_hangs_45 ?_
          refine lv_iconst (v := 3) hx hb dX11_hangs_48 (by decide) ?_
          refine va_iald hx hb hK.1 hP 1 0 rfl rfl (show ¬ (_ ∨ _) by decide) dX11_hangs_49 ?_
          refine W.eq (g2 := F0 m 50 ls [.int (A 1 3), .int r14008]) rfl ?_
          refine lv_icmp_ge (tgt := 55) hx hb dX11_hangs_50 (by decide) (fun c14009 => ?_) (fun c14009 => ?_)
          · have zc14009 := leK rfl rfl c14009
            refine lv_aload_n hx hb dX11_hangs_55 rfl (lv_at hl 0 rfl) ?_
            refine lv_iconst (v := (-1)) hx hb dX11_hangs_56 (by decide) ?_
            refine behDw (wr := []) (runVD (As := [.int (-1)]) (rest := []) ⟨hx, hb, hml, hown, ht⟩ (sX11_goMinute l G cs h q (upd (upd F 17 x4) 18 x14005) (vA (vA A 15 g14006) 16 a16_19) D B (IM_arr (k := 16) (IM_arr (k := 15) (IM_put (k := 18) (IM_put (k := 17) hI (i32b _)) (i32b _)) (fun _ => i32b _)) (fun _ => i32b _)) (-1) ) okV_RX11_267 ⟨by decide, by decide⟩ hK hP hD [0, 1, 2, 3, 4, 5, 6, 7, 8, 9, 10, 11, 12, 13, 14, 15, 16, 17, 18, 19] rfl (by decide) rfl 0 rfl rfl hl.1 rfl (Nat.le_of_ble_eq_true rfl) dX11_hangs_57 ⟨(Nat.le_of_ble_eq_true rfl), (Nat.le_of_ble_eq_true rfl)⟩) hP hD hS hA [0, 1, 2, 3, 4, 5, 6, 7, 8, 9, 10, 11, 12, 13, 14, 15, 16, 17, 18, 19] [] rfl rfl (by decide) (by decide) (fun u H locs hu hP hD hS => ?_)
            obtain ⟨g14010, g14011⟩ := u
            have hr14012 := hu
            have hP : va_P G vwCl (mS cs h q (upd (upd F 17 x4) 18 x14005) (vA (vA A 15 g14010) 16 g14011) D B) H := hP
            have hD : va_D A0 (mS cs h q (upd (upd F 17 x4) 18 x14005) (vA (vA A 15 g14010) 16 g14011) D B) := hD
            obtain ⟨v14013, ev14013⟩ : ∃ z : Int32, z = x19_3 + 1 := ⟨_, rfl⟩
            have tv14013 : v14013.toInt = x19_3.toInt + 1 := by rw [ev14013]; exact addT rfl (by decide) (by omega)
            refine lv_iinc (v := v14013) (lv' := [(3, .int v14013), (0, .ref h), (1, .int a1)]) hx hb dX11_hangs_60 hl (k := 2) rfl (by rw [ev14013]; rfl) (by decide) rfl (fun ls hl => ?_)
            refine lv_goto (tgt := 19) hx hb dX11_hangs_63 (by decide) ?_
            exact ih19 v14013 x14005 g14010 g14011 H locs ls (by omega) (by omega) hP hD hS (lv_sub hl [1, 2, 0] rfl)
          · have zc14009 := nleK rfl rfl c14009
            refine lv_iload_n hx hb dX11_hangs_53 rfl (lv_at hl 2 rfl) ?_
            exact retDi (x4, x14005, g14006, a16_19) hx hb hr hlk hP hD hS dX11_hangs_54 (trivial) (Nat.le_of_ble_eq_true rfl) (Nat.le_of_ble_eq_true rfl)
    exact B19 _ 0 x5 g6 g7 H locs ls (Nat.lt_succ_self _) (by decide) hP hD hS (lv_sub hl [2, 3, 0] rfl)
  · have zc3 := nleK (show (0 : Int32).toInt = 0 by decide) rfl c3
    refine lv_iload_n hx hb dX11_hangs_11 rfl (lv_at hl 0 rfl) ?_
    exact retDi ((F 17), (F 18), (A 15), (A 16)) hx hb hr hlk hP hD hS dX11_hangs_12 (trivial) (Nat.le_of_ble_eq_true rfl) (Nat.le_of_ble_eq_true rfl)

set_option maxRecDepth 100000 in
set_option maxHeartbeats 8000000 in
theorem sX11_slips (l : Launch) (G : va_G) (cs : Nat → ClassId) (h : Nat) (q : Nat → Nat) (F : Nat → Int32) (A : Nat → Nat → Int32) (D : Int64) (B : Nat → Nat → Int64) (hI : IM F A) (a1 : Int32) (a2 : Int32) : SafeR l yX11_slips cX11_slips 7 (some .int) 4 G (TY cs) [.ref h, .int a1, .int a2] (mS cs h q F A D B) (fun r : Int32 => True) := by
  refine mkP (Qc := QRi (fun r : Int32 => True)) (by decide) (by simp [lg_sl, Value.category]) ?_
  intro p e s m args below meth c ls hx hb hml hr hlk hown ht hK hP hS hl
  have hl : lv_has ls 7 [(0, .ref h), (1, .int a1), (2, .int a2)] := hl
  refine lv_aload_n hx hb dX11_slips_0 rfl (lv_at hl 0 rfl) ?_
  refine lv_iload_n hx hb dX11_slips_1 rfl (lv_at hl 1 rfl) ?_
  refine lv_aload_n hx hb dX11_slips_2 rfl (lv_at hl 0 rfl) ?_
  refine lv_iload_n hx hb dX11_slips_3 rfl (lv_at hl 2 rfl) ?_
  refine lv_i2l hx hb dX11_slips_4 rfl ?_
  have bb1 := i32b a2
  refine lv_topl (fun v2 ev2 => ?_)
  have tv2 : v2.toInt = a2.toInt := by rw [ev2]; exact Int32.toInt_toInt64 _
  refine behR (runVP (As := [.long v2]) (rest := [.int a1, .ref h]) ⟨hx, hb, hml, hown, ht⟩ (sX11_isRoom l G cs h q F A D B hI v2 ) okV_RX11_89 ⟨by decide, by decide⟩ hK hP [0, 1, 2, 3, 4, 5, 6, 7, 8, 9, 10, 11, 12, 13, 14, 15, 16, 17, 18, 19] rfl 0 rfl rfl hl.1 rfl (Nat.le_of_ble_eq_true rfl) dX11_slips_5 ⟨by decide, by decide⟩) hP hS (fun _ h => h) (fun r3 H locs hr3 hP hS => ?_)
  have hr3 : (r3.toInt = 1 ∧ 0 ≤ v2.toInt ∧ v2.toInt < (A 1 4).toInt ∧ v2.toInt ≤ 6 ∧ (A 1 4).toInt ≤ 7) ∨ r3.toInt = 0 := hr3
  refine behR (runVP (As := [.int a1, .int r3]) (rest := []) ⟨hx, hb, hml, hown, ht⟩ (sX11_asksRound l G cs h q F A D B hI a1 r3 (by omega)) okV_RX11_303 ⟨by decide, by decide⟩ hK hP [0, 1, 2, 3, 4, 5, 6, 7, 8, 9, 10, 11, 12, 13, 14, 15, 16, 17, 18, 19] rfl 0 rfl rfl hl.1 rfl (Nat.le_of_ble_eq_true rfl) dX11_slips_8 ⟨by decide, by decide⟩) hP hS (fun _ h => h) (fun r4 H locs hr4 hP hS => ?_)
  have hr4 : (r4.toInt = -2 ∨ r4.toInt = -6 ∨ (r4.toInt = 0 ∧ 0 ≤ a1.toInt ∧ a1.toInt ≤ 3 ∧ 0 ≤ (A 31 a1.toNatClampNeg).toInt ∧ r3.toInt = 1)) ∧ (r4.toInt = 0 → RV B a1 (A 31 a1.toNatClampNeg).toInt) := hr4
  obtain ⟨hr4, gr4⟩ := hr4
  refine lv_istore_n (lv' := [(3, .int r4), (0, .ref h), (1, .int a1), (2, .int a2)]) hx hb dX11_slips_11 rfl hl (by decide) rfl (fun ls hl => ?_)
  refine lv_iload_n hx hb dX11_slips_12 rfl (lv_at hl 0 rfl) ?_
  refine lv_if_ge (tgt := 18) hx hb dX11_slips_13 (by decide) (fun c5 => ?_) (fun c5 => ?_)
  · have zc5 := leK (show (0 : Int32).toInt = 0 by decide) rfl c5
    refine lv_aload_n hx hb dX11_slips_18 rfl (lv_at hl 1 rfl) ?_
    refine lv_iload_n hx hb dX11_slips_19 rfl (lv_at hl 2 rfl) ?_
    refine lv_iload_n hx hb dX11_slips_20 rfl (lv_at hl 3 rfl) ?_
    refine behR (runVP (As := [.int a1, .int a2]) (rest := []) ⟨hx, hb, hml, hown, ht⟩ (sX11_canWalk l G cs h q F A D B hI a1 a2 (by omega) (by omega) (gr4 (by omega))) okV_RX11_316 ⟨by decide, by decide⟩ hK hP [0, 1, 2, 3, 4, 5, 6, 7, 8, 9, 10, 11, 12, 13, 14, 15, 16, 17, 18, 19] rfl 0 rfl rfl hl.1 rfl (Nat.le_of_ble_eq_true rfl) dX11_slips_21 ⟨by decide, by decide⟩) hP hS (fun _ h => h) (fun r6 H locs hr6 hP hS => ?_)
    have hr6 : (0 : Int) ≤ r6.toInt ∧ r6.toInt ≤ 1 := hr6
    refine lv_if_ne (tgt := 30) hx hb dX11_slips_24 (by decide) (fun c7 => ?_) (fun c7 => ?_)
    · have zc7 := neK rfl (show (0 : Int32).toInt = 0 by decide) c7
      refine lv_aload_n hx hb dX11_slips_30 rfl (lv_at hl 1 rfl) ?_
      refine behR (runVP (As := []) (rest := []) ⟨hx, hb, hml, hown, ht⟩ (sX11_allRooms l G cs h q F A D B hI  ) okV_RX11_337 ⟨by decide, by decide⟩ hK hP [0, 1, 2, 3, 4, 5, 6, 7, 8, 9, 10, 11, 12, 13, 14, 15, 16, 17, 18, 19] rfl 0 rfl rfl hl.1 rfl (Nat.le_of_ble_eq_true rfl) dX11_slips_31 ⟨by decide, by decide⟩) hP hS (fun _ h => h) (fun r8 H locs hr8 hP hS => ?_)
      have hr8 : (0 : Int) ≤ r8.toInt ∧ r8.toInt ≤ 127 := hr8
      refine lv_iconst (v := 1) hx hb dX11_slips_34 (by decide) ?_
      refine lv_iload_n hx hb dX11_slips_35 rfl (lv_at hl 3 rfl) ?_
      refine lv_ishl hx hb dX11_slips_36 ?_
      refine lv_topi (fun v9 ev9 => ?_)
      have tv9 : (1 : Int) ≤ v9.toInt ∧ v9.toInt ≤ 64 := by rw [ev9]; exact shlT 6 (by decide) rfl (by omega) (by decide)
      have pv9 : v9.toInt = P2 a2.toInt := by rw [ev9]; exact shlP rfl (by omega)
      refine lv_iconst (v := (-1)) hx hb dX11_slips_37 (by decide) ?_
      refine lv_ixor hx hb dX11_slips_38 ?_
      refine lv_topi (fun v10 ev10 => ?_)
      refine lv_iand hx hb dX11_slips_39 ?_
      refine lv_topi (fun v11 ev11 => ?_)
      have tv11 : 0 ≤ v11.toInt ∧ v11.toInt ≤ 127 := by rw [ev11]; exact andA 7 rfl (by omega) (by decide)
      refine lv_istore (lv' := [(4, .int v11), (3, .int r4), (0, .ref h), (1, .int a1), (2, .int a2)]) hx hb dX11_slips_40 hl (by decide) rfl (fun ls hl => ?_)
      refine lv_iload_n hx hb dX11_slips_42 rfl (lv_at hl 4 rfl) ?_
      refine lv_istore (lv' := [(5, .int a2), (4, .int v11), (3, .int r4), (0, .ref h), (1, .int a1), (2, .int a2)]) hx hb dX11_slips_43 hl (by decide) rfl (fun ls hl => ?_)
      refine lv_iconst (v := 0) hx hb dX11_slips_45 (by decide) ?_
      refine lv_istore (lv' := [(6, .int 0), (5, .int a2), (4, .int v11), (3, .int r4), (0, .ref h), (1, .int a1), (2, .int a2)]) hx hb dX11_slips_46 hl (by decide) rfl (fun ls hl => ?_)
      have B48 : ∀ (n : Nat) (x48_4 : Int32) (x48_5 : Int32) (x48_6 : Int32) (H : Heap) (locs : List Loc) (ls : Array Slot), (60 - x48_6.toInt).toNat < n → (0 : Int) ≤ x48_4.toInt ∧ x48_4.toInt ≤ 127 → (0 : Int) ≤ x48_5.toInt ∧ x48_5.toInt ≤ 6 → (0 : Int) ≤ x48_6.toInt ∧ x48_6.toInt ≤ 60 → va_P G vwCl (mS cs h q F A D B) H → va_S (fun q => s.heap.size ≤ q) s.heap H locs → lv_has ls 7 [(0, .ref h), (1, .int a1), (4, .int x48_4), (5, .int x48_5), (6, .int x48_6)] → W p l e (rmk 4 0 0) s m args below meth c H locs 0 0 (MQ below (QRi (fun r : Int32 => True) s.heap.size) args s 0 0 (fun q => s.heap.size ≤ q)) (F0 m 48 ls []) := by
        intro n
        induction n with
        | zero => intro x48_4 x48_5 x48_6 H locs ls hmeas hx48_4 hx48_5 hx48_6 hP hS hl; exact absurd hmeas (Nat.not_lt_zero _)
        | succ n ih48 =>
          intro x48_4 x48_5 x48_6 H locs ls hmeas hx48_4 hx48_5 hx48_6 hP hS hl
          refine lv_iload hx hb dX11_slips_48 (lv_at hl 4 rfl) ?_
          refine lv_aload_n hx hb dX11_slips_50 rfl (lv_at hl 0 rfl) ?_
          refine getF (v := .ref (q 31)) hx hb ht hown hK hP iTX11 0 31 rfl rfl (by decide) fl_RX11_61 rfl dX11_slips_51 ?_
          refine lv_iload_n hx hb dX11_slips_54 rfl (lv_at hl 1 rfl) ?_
          refine va_iald hx hb hK.1 hP 16 0 rfl rfl (inK rfl (by omega) (by decide)) dX11_slips_55 ?_
          refine lv_topi (fun v33001 ev33001 => ?_)
          have zf33002 : (-1 : Int) ≤ v33001.toInt ∧ v33001.toInt ≤ 60 := by rw [ev33001]; exact (hI.2 31 _)
          have nv33001 : v33001.toInt = (A 31 a1.toNatClampNeg).toInt := congrArg Int32.toInt ev33001
          refine lv_icmp_ge (tgt := 105) hx hb dX11_slips_56 (by decide) (fun c33003 => ?_) (fun c33003 => ?_)
          · have zc33003 := leK rfl rfl c33003
            refine lv_iload hx hb dX11_slips_105 (lv_at hl 2 rfl) ?_
            exact retRi hx hb hr hlk hS dX11_slips_107 (trivial)
          · have zc33003 := nleK rfl rfl c33003
            refine lv_aload_n hx hb dX11_slips_59 rfl (lv_at hl 0 rfl) ?_
            refine lv_iload_n hx hb dX11_slips_60 rfl (lv_at hl 1 rfl) ?_
            refine lv_iload hx hb dX11_slips_61 (lv_at hl 4 rfl) ?_
            refine behR (runVP (As := [.int a1, .int x48_6]) (rest := []) ⟨hx, hb, hml, hown, ht⟩ (sX11_roomAt l G cs h q F A D B hI a1 x48_6 (by omega) (by omega)) okV_RX11_293 ⟨by decide, by decide⟩ hK hP [0, 1, 2, 3, 4, 5, 6, 7, 8, 9, 10, 11, 12, 13, 14, 15, 16, 17, 18, 19] rfl 0 rfl rfl hl.1 rfl (Nat.le_of_ble_eq_true rfl) dX11_slips_63 ⟨by decide, by decide⟩) hP hS (fun _ h => h) (fun r33004 H locs hr33004 hP hS => ?_)
            have hr33004 : r33004 = (B 33 (60 * a1.toNatClampNeg + x48_6.toNatClampNeg)).toInt32 := hr33004
            have zbr33004 : -1 ≤ r33004.toInt ∧ r33004.toInt ≤ 6 := by rw [hr33004]; exact RVroom (gr4 (by omega)) (by have q1 := clK (i := x48_6) rfl (by omega); omega)
            refine lv_iconst (v := (-1)) hx hb dX11_slips_66 (by decide) ?_
            have B82 : ∀ (s82_0 : Int32) (H : Heap) (locs : List Loc) (ls : Array Slot), (0 : Int) ≤ s82_0.toInt ∧ s82_0.toInt ≤ 6 → va_P G vwCl (mS cs h q F A D B) H → va_S (fun q => s.heap.size ≤ q) s.heap H locs → lv_has ls 7 [(0, .ref h), (1, .int a1), (4, .int x48_4), (6, .int x48_6)] → W p l e (rmk 4 0 0) s m args below meth c H locs 0 0 (MQ below (QRi (fun r : Int32 => True) s.heap.size) args s 0 0 (fun q => s.heap.size ≤ q)) (F0 m 82 ls [.int s82_0]) := by
              intro s82_0 H locs ls hs82_0 hP hS hl
              refine lv_istore (lv' := [(5, .int s82_0), (0, .ref h), (1, .int a1), (4, .int x48_4), (6, .int x48_6)]) hx hb dX11_slips_82 hl (by decide) rfl (fun ls hl => ?_)
              refine lv_aload_n hx hb dX11_slips_84 rfl (lv_at hl 1 rfl) ?_
              refine lv_iload hx hb dX11_slips_85 (lv_at hl 3 rfl) ?_
              refine behR (runVP (As := [.int x48_4]) (rest := []) ⟨hx, hb, hml, hown, ht⟩ (sX11_wider l G cs h q F A D B hI x48_4 (by omega)) okV_RX11_330 ⟨by decide, by decide⟩ hK hP [0, 1, 2, 3, 4, 5, 6, 7, 8, 9, 10, 11, 12, 13, 14, 15, 16, 17, 18, 19] rfl 0 rfl rfl hl.1 rfl (Nat.le_of_ble_eq_true rfl) dX11_slips_87 ⟨by decide, by decide⟩) hP hS (fun _ h => h) (fun r51001 H locs hr51001 hP hS => ?_)
              have hr51001 : (0 : Int) ≤ r51001.toInt ∧ r51001.toInt ≤ 127 := hr51001
              refine lv_iconst (v := 1) hx hb dX11_slips_90 (by decide) ?_
              refine lv_iload hx hb dX11_slips_91 (lv_at hl 0 rfl) ?_
              refine lv_ishl hx hb dX11_slips_93 ?_
              refine lv_topi (fun v51002 ev51002 => ?_)
              have tv51002 : (1 : Int) ≤ v51002.toInt ∧ v51002.toInt ≤ 64 := by rw [ev51002]; exact shlT 6 (by decide) rfl (by omega) (by decide)
              have pv51002 : v51002.toInt = P2 s82_0.toInt := by rw [ev51002]; exact shlP rfl (by omega)
              refine lv_iconst (v := (-1)) hx hb dX11_slips_94 (by decide) ?_
              refine lv_ixor hx hb dX11_slips_95 ?_
              refine lv_topi (fun v51003 ev51003 => ?_)
              refine lv_iand hx hb dX11_slips_96 ?_
              refine lv_topi (fun v51004 ev51004 => ?_)
              have tv51004 : 0 ≤ v51004.toInt ∧ v51004.toInt ≤ 127 := by rw [ev51004]; exact andA 7 rfl (by omega) (by decide)
              refine lv_istore (lv' := [(4, .int v51004), (5, .int s82_0), (0, .ref h), (1, .int a1), (6, .int x48_6)]) hx hb dX11_slips_97 hl (by decide) rfl (fun ls hl => ?_)
              obtain ⟨v51005, ev51005⟩ : ∃ z : Int32, z = x48_6 + 1 := ⟨_, rfl⟩
              have tv51005 : v51005.toInt = x48_6.toInt + 1 := by rw [ev51005]; exact addT rfl (by decide) (by omega)
              refine lv_iinc (v := v51005) (lv' := [(6, .int v51005), (4, .int v51004), (5, .int s82_0), (0, .ref h), (1, .int a1)]) hx hb dX11_slips_99 hl (k := 4) rfl (by rw [ev51005]; rfl) (by decide) rfl (fun ls hl => ?_)
              refine lv_goto (tgt := 48) hx hb dX11_slips_102 (by decide) ?_
              exact ih48 v51004 s82_0 v51005 H locs ls (by omega) (by omega) (by omega) (by omega) hP hS (lv_sub hl [3, 4, 1, 2, 0] rfl)
            refine lv_icmp_ne (tgt := 75) hx hb dX11_slips_67 (by decide) (fun c33005 => ?_) (fun c33005 => ?_)
            · have zc33005 := neK rfl (show (-1 : Int32).toInt = (-1) by decide) c33005
              refine lv_aload_n hx hb dX11_slips_75 rfl (lv_at hl 0 rfl) ?_
              refine lv_iload_n hx hb dX11_slips_76 rfl (lv_at hl 1 rfl) ?_
              refine lv_iload hx hb dX11_slips_77 (lv_at hl 4 rfl) ?_
              refine behR (runVP (As := [.int a1, .int x48_6]) (rest := []) ⟨hx, hb, hml, hown, ht⟩ (sX11_roomAt l G cs h q F A D B hI a1 x48_6 (by omega) (by omega)) okV_RX11_293 ⟨by decide, by decide⟩ hK hP [0, 1, 2, 3, 4, 5, 6, 7, 8, 9, 10, 11, 12, 13, 14, 15, 16, 17, 18, 19] rfl 0 rfl rfl hl.1 rfl (Nat.le_of_ble_eq_true rfl) dX11_slips_79 ⟨by decide, by decide⟩) hP hS (fun _ h => h) (fun r33006 H locs hr33006 hP hS => ?_)
              have hr33006 : r33006 = (B 33 (60 * a1.toNatClampNeg + x48_6.toNatClampNeg)).toInt32 := hr33006
              have zbr33006 : -1 ≤ r33006.toInt ∧ r33006.toInt ≤ 6 := by rw [hr33006]; exact RVroom (gr4 (by omega)) (by have q1 := clK (i := x48_6) rfl (by omega); omega)
              have qrr33006 := congrArg Int32.toInt (hr33006.trans hr33004.symm)
              exact B82 r33006 H locs ls (by omega) hP hS (lv_sub hl [0, 1, 2, 4] rfl)
            · have zc33005 := eqK rfl (show (-1 : Int32).toInt = (-1) by decide) c33005
              refine lv_iload hx hb dX11_slips_70 (lv_at hl 3 rfl) ?_
              refine lv_goto (tgt := 82) hx hb dX11_slips_72 (by decide) ?_
              exact B82 x48_5 H locs ls (by omega) hP hS (lv_sub hl [0, 1, 2, 4] rfl)
      exact B48 _ v11 a2 0 H locs ls (Nat.lt_succ_self _) (by omega) (by omega) (by decide) hP hS (lv_sub hl [4, 5, 2, 1, 0] rfl)
    · have zc7 := eqK rfl (show (0 : Int32).toInt = 0 by decide) c7
      refine lv_bipush (v := (-5)) hx hb dX11_slips_27 (by decide) ?_
      exact retRi hx hb hr hlk hS dX11_slips_29 (trivial)
  · have zc5 := nleK (show (0 : Int32).toInt = 0 by decide) rfl c5
    refine lv_iload_n hx hb dX11_slips_16 rfl (lv_at hl 0 rfl) ?_
    exact retRi hx hb hr hlk hS dX11_slips_17 (trivial)

