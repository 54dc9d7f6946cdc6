set_option maxRecDepth 100000 in
set_option maxHeartbeats 8000000 in
theorem sX11_doubt (l : Launch) (G : va_G) (cs : Nat → ClassId) (h : Nat) (q : Nat → Nat) (F : Nat → Int32) (A : Nat → Nat → Int32) (D : Int64) (B : Nat → Nat → Int64) (hI : IM F A) (a1 : Int32) (a2 : Int32) : ImpI l yX11_doubt cX11_doubt 5 (some .int) 5 0 0 G (TY cs) [.ref h, .int a1, .int a2] (mS cs h q F A D B) (fun (r : Int32) (u : Int32 × Int32 × (Nat → Int32) × (Nat → Int32)) => True) (fun u : Int32 × Int32 × (Nat → Int32) × (Nat → Int32) => (mS cs h q (upd (upd F 17 u.1) 18 u.2.1) (vA (vA A 15 u.2.2.1) 16 u.2.2.2) D B)) := by
  refine mkD (Qc := (QDi G (fun (r : Int32) (u : Int32 × Int32 × (Nat → Int32) × (Nat → Int32)) => True) (fun u : Int32 × Int32 × (Nat → Int32) × (Nat → Int32) => (mS cs h q (upd (upd F 17 u.1) 18 u.2.1) (vA (vA A 15 u.2.2.1) 16 u.2.2.2) D B)))) (by decide) (by simp [lg_sl, Value.category]) ?_
  intro p e s m args below meth c ls A0 hx hb hml hr hlk hown hmn ht hK hP hD hS hA hl
  have hl : lv_has ls 5 [(0, .ref h), (1, .int a1), (2, .int a2)] := hl
  refine lv_aload_n hx hb dX11_doubt_0 rfl (lv_at hl 0 rfl) ?_
  refine lv_iload_n hx hb dX11_doubt_1 rfl (lv_at hl 1 rfl) ?_
  refine lv_iload_n hx hb dX11_doubt_2 rfl (lv_at hl 2 rfl) ?_
  refine lv_i2l hx hb dX11_doubt_3 rfl ?_
  have bb1 := i32b a2
  refine lv_topl (fun v2 ev2 => ?_)
  have tv2 : v2.toInt = a2.toInt := by rw [ev2]; exact Int32.toInt_toInt64 _
  refine lv_lconst (v := 0) hx hb dX11_doubt_4 (by decide) ?_
  refine lv_ldc2 hx hb hown (ht _ kl_RX11_273) dX11_doubt_5 ?_
  refine behR (runSP (As := [.long v2, .long 0, .long 1000000]) (rest := [.int a1, .ref h]) ⟨hx, hb, hml, hown, ht⟩ (sX11_in l G cs v2 0 1000000 ) okS_RX11_79 ⟨by decide, by decide⟩ hK hP [] rfl hl.1 rfl (Nat.le_of_ble_eq_true rfl) dX11_doubt_8 ⟨by decide, by decide⟩) hP hS hA (fun r3 H locs hr3 hP hS => ?_)
  have kk4 : (0 : Int64).toInt = 0 := by decide
  have kk5 : (1000000 : Int64).toInt = 1000000 := by decide
  have hr3 : (r3.toInt = 1 ∧ (0 : Int64).toInt ≤ v2.toInt ∧ v2.toInt ≤ (1000000 : Int64).toInt) ∨ (r3.toInt = 0 ∧ (v2.toInt < (0 : Int64).toInt ∨ (1000000 : Int64).toInt < v2.toInt)) := hr3
  refine behR (runVP (As := [.int a1, .int r3]) (rest := []) ⟨hx, hb, hml, hown, ht⟩ (sX11_asksRound l G cs h q F A D B hI a1 r3 (by omega)) okV_RX11_303 ⟨by decide, by decide⟩ hK hP [0, 1, 2, 3, 4, 5, 6, 7, 8, 9, 10, 11, 12, 13, 14, 15, 16, 17, 18, 19] rfl 0 rfl rfl hl.1 rfl (Nat.le_of_ble_eq_true rfl) dX11_doubt_11 ⟨by decide, by decide⟩) hP hS hA (fun r6 H locs hr6 hP hS => ?_)
  have hr6 : (r6.toInt = -2 ∨ r6.toInt = -6 ∨ (r6.toInt = 0 ∧ 0 ≤ a1.toInt ∧ a1.toInt ≤ 3 ∧ 0 ≤ (A 31 a1.toNatClampNeg).toInt ∧ r3.toInt = 1)) ∧ (r6.toInt = 0 → RV B a1 (A 31 a1.toNatClampNeg).toInt) := hr6
  obtain ⟨hr6, gr6⟩ := hr6
  refine lv_istore_n (lv' := [(3, .int r6), (0, .ref h), (1, .int a1), (2, .int a2)]) hx hb dX11_doubt_14 rfl hl (by decide) rfl (fun ls hl => ?_)
  refine lv_iload_n hx hb dX11_doubt_15 rfl (lv_at hl 0 rfl) ?_
  refine lv_if_ge (tgt := 21) hx hb dX11_doubt_16 (by decide) (fun c7 => ?_) (fun c7 => ?_)
  · have zc7 := leK (show (0 : Int32).toInt = 0 by decide) rfl c7
    refine lv_aload_n hx hb dX11_doubt_21 rfl (lv_at hl 1 rfl) ?_
    refine behDw (wr := []) (runVD (As := []) (rest := []) ⟨hx, hb, hml, hown, ht⟩ (sX11_asItIs l G cs h q F A D B hI  ) okV_RX11_278 ⟨by decide, by decide⟩ hK hP hD [0, 1, 2, 3, 4, 5, 6, 7, 8, 9, 10, 11, 12, 13, 14, 15, 16, 17, 18, 19] rfl (by decide) rfl 0 rfl rfl hl.1 rfl (Nat.le_of_ble_eq_true rfl) dX11_doubt_22 ⟨(Nat.le_of_ble_eq_true rfl), (Nat.le_of_ble_eq_true rfl)⟩) hP hD hS hA [0, 1, 2, 3, 4, 5, 6, 7, 8, 9, 10, 11, 12, 13, 14, 15, 16, 17, 18, 19] [] rfl rfl (by decide) (by decide) (fun u H locs hu hP hD hS => ?_)
    obtain ⟨x8, x9, g10, g11⟩ := u
    have hr12 := hu
    have hP : va_P G vwCl (mS cs h q (upd (upd F 17 x8) 18 x9) (vA (vA A 15 g10) 16 g11) D B) H := hP
    have hD : va_D A0 (mS cs h q (upd (upd F 17 x8) 18 x9) (vA (vA A 15 g10) 16 g11) D B) := hD
    refine lv_iconst (v := 0) hx hb dX11_doubt_25 (by decide) ?_
    refine lv_istore (lv' := [(4, .int 0), (3, .int r6), (0, .ref h), (1, .int a1), (2, .int a2)]) hx hb dX11_doubt_26 hl (by decide) rfl (fun ls hl => ?_)
    have B28 : ∀ (n : Nat) (x28_4 : Int32) (f18_28 : Int32) (a15_28 : (Nat → Int32)) (a16_28 : (Nat → Int32)) (H : Heap) (locs : List Loc) (ls : Array Slot), (60 - x28_4.toInt).toNat < n → (0 : Int) ≤ x28_4.toInt ∧ x28_4.toInt ≤ 60 → va_P G vwCl (mS cs h q (upd (upd F 17 x8) 18 f18_28) (vA (vA A 15 a15_28) 16 a16_28) D B) H → va_D A0 (mS cs h q (upd (upd F 17 x8) 18 f18_28) (vA (vA A 15 a15_28) 16 a16_28) D B) → va_S A0 s.heap H locs → lv_has ls 5 [(0, .ref h), (1, .int a1), (2, .int a2), (4, .int x28_4)] → W p l e (rmk 5 0 0) s m args below meth c H locs 0 0 (MQ below ((QDi G (fun (r : Int32) (u : Int32 × Int32 × (Nat → Int32) × (Nat → Int32)) => True) (fun u : Int32 × Int32 × (Nat → Int32) × (Nat → Int32) => (mS cs h q (upd (upd F 17 u.1) 18 u.2.1) (vA (vA A 15 u.2.2.1) 16 u.2.2.2) D B))) A0) args s 0 0 A0) (F0 m 28 ls []) := by
      intro n
      induction n with
      | zero => intro x28_4 f18_28 a15_28 a16_28 H locs ls hmeas hx28_4 hP hD hS hl; exact absurd hmeas (Nat.not_lt_zero _)
      | succ n ih28 =>
        intro x28_4 f18_28 a15_28 a16_28 H locs ls hmeas hx28_4 hP hD hS hl
        refine lv_iload hx hb dX11_doubt_28 (lv_at hl 3 rfl) ?_
        refine lv_aload_n hx hb dX11_doubt_30 rfl (lv_at hl 0 rfl) ?_
        refine getF (v := .ref (q 31)) hx hb ht hown hK hP iTX11 0 31 rfl rfl (by decide) fl_RX11_61 rfl dX11_doubt_31 ?_
        refine lv_iload_n hx hb dX11_doubt_34 rfl (lv_at hl 1 rfl) ?_
        refine va_iald hx hb hK.1 hP 16 0 rfl rfl (inK rfl (by omega) (by decide)) dX11_doubt_35 ?_
        refine lv_topi (fun v18001 ev18001 => ?_)
        have zf18002 : (-1 : Int) ≤ v18001.toInt ∧ v18001.toInt ≤ 60 := by rw [ev18001]; exact (hI.2 31 _)
        have nv18001 : v18001.toInt = (A 31 a1.toNatClampNeg).toInt := congrArg Int32.toInt ev18001
        refine lv_icmp_ge (tgt := 78) hx hb dX11_doubt_36 (by decide) (fun c18003 => ?_) (fun c18003 => ?_)
        · have zc18003 := leK rfl rfl c18003
          refine lv_iconst (v := (-1)) hx hb dX11_doubt_78 (by decide) ?_
          exact retDi (x8, f18_28, a15_28, a16_28) hx hb hr hlk hP hD hS dX11_doubt_79 (trivial) (Nat.le_of_ble_eq_true rfl) (Nat.le_of_ble_eq_true rfl)
        · have zc18003 := nleK rfl rfl c18003
          refine lv_aload_n hx hb dX11_doubt_39 rfl (lv_at hl 0 rfl) ?_
          refine lv_aload_n hx hb dX11_doubt_40 rfl (lv_at hl 0 rfl) ?_
          refine behR (runVP (As := []) (rest := [.ref h]) ⟨hx, hb, hml, hown, ht⟩ (sX11_inHouse l G cs h q (upd (upd F 17 x8) 18 f18_28) (vA (vA A 15 a15_28) 16 a16_28) D B (IM_arr (k := 16) (IM_arr (k := 15) (IM_put (k := 18) (IM_put (k := 17) hI (i32b _)) (i32b _)) (fun _ => i32b _)) (fun _ => i32b _))  ) okV_RX11_270 ⟨by decide, by decide⟩ hK hP [0, 1, 2, 3, 4, 5, 6, 7, 8, 9, 10, 11, 12, 13, 14, 15, 16, 17, 18, 19] rfl 0 rfl rfl hl.1 rfl (Nat.le_of_ble_eq_true rfl) dX11_doubt_41 ⟨by decide, by decide⟩) hP hS hA (fun r18004 H locs hr18004 hP hS => ?_)
          refine behR (runVP (As := [.int r18004]) (rest := []) ⟨hx, hb, hml, hown, ht⟩ (sX11_inMillion l G cs h q (upd (upd F 17 x8) 18 f18_28) (vA (vA A 15 a15_28) 16 a16_28) D B (IM_arr (k := 16) (IM_arr (k := 15) (IM_put (k := 18) (IM_put (k := 17) hI (i32b _)) (i32b _)) (fun _ => i32b _)) (fun _ => i32b _)) r18004 ) okV_RX11_281 ⟨by decide, by decide⟩ hK hP [0, 1, 2, 3, 4, 5, 6, 7, 8, 9, 10, 11, 12, 13, 14, 15, 16, 17, 18, 19] rfl 0 rfl rfl hl.1 rfl (Nat.le_of_ble_eq_true rfl) dX11_doubt_44 ⟨by decide, by decide⟩) hP hS hA (fun r18005 H locs hr18005 hP hS => ?_)
          refine lv_iload_n hx hb dX11_doubt_47 rfl (lv_at hl 2 rfl) ?_
          refine lv_icmp_ge (tgt := 54) hx hb dX11_doubt_48 (by decide) (fun c18006 => ?_) (fun c18006 => ?_)
          · have zc18006 := leK rfl rfl c18006
            refine lv_aload_n hx hb dX11_doubt_54 rfl (lv_at hl 0 rfl) ?_
            refine lv_aload_n hx hb dX11_doubt_55 rfl (lv_at hl 0 rfl) ?_
            refine lv_iload_n hx hb dX11_doubt_56 rfl (lv_at hl 1 rfl) ?_
            refine lv_iload hx hb dX11_doubt_57 (lv_at hl 3 rfl) ?_
            refine behR (runVP (As := [.int a1, .int x28_4]) (rest := [.ref h]) ⟨hx, hb, hml, hown, ht⟩ (sX11_roomAt l G cs h q (upd (upd F 17 x8) 18 f18_28) (vA (vA A 15 a15_28) 16 a16_28) D B (IM_arr (k := 16) (IM_arr (k := 15) (IM_put (k := 18) (IM_put (k := 17) hI (i32b _)) (i32b _)) (fun _ => i32b _)) (fun _ => i32b _)) a1 x28_4 (by omega) (by omega)) okV_RX11_293 ⟨by decide, by decide⟩ hK hP [0, 1, 2, 3, 4, 5, 6, 7, 8, 9, 10, 11, 12, 13, 14, 15, 16, 17, 18, 19] rfl 0 rfl rfl hl.1 rfl (Nat.le_of_ble_eq_true rfl) dX11_doubt_59 ⟨by decide, by decide⟩) hP hS hA (fun r18007 H locs hr18007 hP hS => ?_)
            have hr18007 : r18007 = (B 33 (60 * a1.toNatClampNeg + x28_4.toNatClampNeg)).toInt32 := hr18007
            have zbr18007 : -1 ≤ r18007.toInt ∧ r18007.toInt ≤ 6 := by rw [hr18007]; exact RVroom (gr6 (by omega)) (by have q1 := clK (i := x28_4) rfl (by omega); omega)
            refine lv_iconst (v := 0) hx hb dX11_doubt_62 (by decide) ?_
            refine behDi (wr := []) (runVD (As := [.int r18007, .int 0]) (rest := []) ⟨hx, hb, hml, hown, ht⟩ (sX11_callIn l G cs h q (upd (upd F 17 x8) 18 f18_28) (vA (vA A 15 a15_28) 16 a16_28) D B (IM_arr (k := 16) (IM_arr (k := 15) (IM_put (k := 18) (IM_put (k := 17) hI (i32b _)) (i32b _)) (fun _ => i32b _)) (fun _ => i32b _)) r18007 0 (by omega) (by decide)) okV_RX11_264 ⟨by decide, by decide⟩ hK hP hD [0, 1, 2, 3, 4, 5, 6, 7, 8, 9, 10, 11, 12, 13, 14, 15, 16, 17, 18, 19] rfl (by decide) rfl 0 rfl rfl hl.1 rfl (Nat.le_of_ble_eq_true rfl) dX11_doubt_63 ⟨(Nat.le_of_ble_eq_true rfl), (Nat.le_of_ble_eq_true rfl)⟩) hP hD hS hA [0, 1, 2, 3, 4, 5, 6, 7, 8, 9, 10, 11, 12, 13, 14, 15, 16, 17, 18, 19] [] rfl rfl (by decide) (by decide) (fun r9 u H locs hu hP hD hS => ?_)
            obtain ⟨x18008, g18009⟩ := u
            obtain ⟨r18010, rfl⟩ : ∃ z, z = r9 := ⟨_, rfl⟩
            have hr18010 := hu
            have hP : va_P G vwCl (mS cs h q (upd (upd F 17 x8) 18 x18008) (vA (vA A 15 g18009) 16 a16_28) D B) H := hP
            have hD : va_D A0 (mS cs h q (upd (upd F 17 x8) 18 x18008) (vA (vA A 15 g18009) 16 a16_28) D B) := hD
            refine lv_pop hx hb dX11_doubt_66 rfl ?_
            refine lv_aload_n hx hb dX11_doubt_67 rfl (lv_at hl 0 rfl) ?_
            refine lv_iconst (v := (-1)) hx hb dX11_doubt_68 (by decide) ?_
            refine behDw (wr := []) (runVD (As := [.int (-1)]) (rest := []) ⟨hx, hb, hml, hown, ht⟩ (sX11_goMinute l G cs h q (upd (upd F 17 x8) 18 x18008) (vA (vA A 15 g18009) 16 a16_28) D B (IM_arr (k := 16) (IM_arr (k := 15) (IM_put (k := 18) (IM_put (k := 17) hI (i32b _)) (i32b _)) (fun _ => i32b _)) (fun _ => i32b _)) (-1) ) okV_RX11_267 ⟨by decide, by decide⟩ hK hP hD [0, 1, 2, 3, 4, 5, 6, 7, 8, 9, 10, 11, 12, 13, 14, 15, 16, 17, 18, 19] rfl (by decide) rfl 0 rfl rfl hl.1 rfl (Nat.le_of_ble_eq_true rfl) dX11_doubt_69 ⟨(Nat.le_of_ble_eq_true rfl), (Nat.le_of_ble_eq_true rfl)⟩) hP hD hS hA [0, 1, 2, 3, 4, 5, 6, 7, 8, 9, 10, 11, 12, 13, 14, 15, 16, 17, 18, 19] [] rfl rfl (by decide) (by decide) (fun u H locs hu hP hD hS => ?_)
            obtain ⟨g18011, g18012⟩ := u
            have hr18013 := hu
            have hP : va_P G vwCl (mS cs h q (upd (upd F 17 x8) 18 x18008) (vA (vA A 15 g18011) 16 g18012) D B) H := hP
            have hD : va_D A0 (mS cs h q (upd (upd F 17 x8) 18 x18008) (vA (vA A 15 g18011) 16 g18012) D B) := hD
            obtain ⟨v18014, ev18014⟩ : ∃ z : Int32, z = x28_4 + 1 := ⟨_, rfl⟩
            have tv18014 : v18014.toInt = x28_4.toInt + 1 := by rw [ev18014]; exact addT rfl (by decide) (by omega)
            refine lv_iinc (v := v18014) (lv' := [(4, .int v18014), (0, .ref h), (1, .int a1), (2, .int a2)]) hx hb dX11_doubt_72 hl (k := 3) rfl (by rw [ev18014]; rfl) (by decide) rfl (fun ls hl => ?_)
            refine lv_goto (tgt := 28) hx hb dX11_doubt_75 (by decide) ?_
            exact ih28 v18014 x18008 g18011 g18012 H locs ls (by omega) (by omega) hP hD hS (lv_sub hl [1, 2, 3, 0] rfl)
          · have zc18006 := nleK rfl rfl c18006
            refine lv_iload hx hb dX11_doubt_51 (lv_at hl 3 rfl) ?_
            exact retDi (x8, f18_28, a15_28, a16_28) hx hb hr hlk hP hD hS dX11_doubt_53 (trivial) (Nat.le_of_ble_eq_true rfl) (Nat.le_of_ble_eq_true rfl)
    exact B28 _ 0 x9 g10 g11 H locs ls (Nat.lt_succ_self _) (by decide) hP hD hS (lv_sub hl [2, 3, 4, 0] rfl)
  · have zc7 := nleK (show (0 : Int32).toInt = 0 by decide) rfl c7
    refine lv_iload_n hx hb dX11_doubt_19 rfl (lv_at hl 0 rfl) ?_
    exact retDi ((F 17), (F 18), (A 15), (A 16)) hx hb hr hlk hP hD hS dX11_doubt_20 (trivial) (Nat.le_of_ble_eq_true rfl) (Nat.le_of_ble_eq_true rfl)

set_option maxRecDepth 100000 in
set_option maxHeartbeats 8000000 in
theorem sX11_walks (l : Launch) (G : va_G) (cs : Nat → ClassId) (h : Nat) (q : Nat → Nat) (F : Nat → Int32) (A : Nat → Nat → Int32) (D : Int64) (B : Nat → Nat → Int64) (hI : IM F A) (a1 : Int32) (a2 : Int32) : SafeR l yX11_walks cX11_walks 4 (some .int) 4 G (TY cs) [.ref h, .int a1, .int a2] (mS cs h q F A D B) (fun r : Int32 => True) := by
  refine mkP (Qc := QRi (fun r : Int32 => True)) (by decide) (by simp [lg_sl, Value.category]) ?_
  intro p e s m args below meth c ls hx hb hml hr hlk hown ht hK hP hS hl
  have hl : lv_has ls 4 [(0, .ref h), (1, .int a1), (2, .int a2)] := hl
  refine lv_aload_n hx hb dX11_walks_0 rfl (lv_at hl 0 rfl) ?_
  refine lv_iload_n hx hb dX11_walks_1 rfl (lv_at hl 1 rfl) ?_
  refine lv_aload_n hx hb dX11_walks_2 rfl (lv_at hl 0 rfl) ?_
  refine lv_iload_n hx hb dX11_walks_3 rfl (lv_at hl 2 rfl) ?_
  refine lv_i2l hx hb dX11_walks_4 rfl ?_
  have bb1 := i32b a2
  refine lv_topl (fun v2 ev2 => ?_)
  have tv2 : v2.toInt = a2.toInt := by rw [ev2]; exact Int32.toInt_toInt64 _
  refine behR (runVP (As := [.long v2]) (rest := [.int a1, .ref h]) ⟨hx, hb, hml, hown, ht⟩ (sX11_isRoom l G cs h q F A D B hI v2 ) okV_RX11_89 ⟨by decide, by decide⟩ hK hP [0, 1, 2, 3, 4, 5, 6, 7, 8, 9, 10, 11, 12, 13, 14, 15, 16, 17, 18, 19] rfl 0 rfl rfl hl.1 rfl (Nat.le_of_ble_eq_true rfl) dX11_walks_5 ⟨by decide, by decide⟩) hP hS (fun _ h => h) (fun r3 H locs hr3 hP hS => ?_)
  have hr3 : (r3.toInt = 1 ∧ 0 ≤ v2.toInt ∧ v2.toInt < (A 1 4).toInt ∧ v2.toInt ≤ 6 ∧ (A 1 4).toInt ≤ 7) ∨ r3.toInt = 0 := hr3
  refine behR (runVP (As := [.int a1, .int r3]) (rest := []) ⟨hx, hb, hml, hown, ht⟩ (sX11_asksRound l G cs h q F A D B hI a1 r3 (by omega)) okV_RX11_303 ⟨by decide, by decide⟩ hK hP [0, 1, 2, 3, 4, 5, 6, 7, 8, 9, 10, 11, 12, 13, 14, 15, 16, 17, 18, 19] rfl 0 rfl rfl hl.1 rfl (Nat.le_of_ble_eq_true rfl) dX11_walks_8 ⟨by decide, by decide⟩) hP hS (fun _ h => h) (fun r4 H locs hr4 hP hS => ?_)
  have hr4 : (r4.toInt = -2 ∨ r4.toInt = -6 ∨ (r4.toInt = 0 ∧ 0 ≤ a1.toInt ∧ a1.toInt ≤ 3 ∧ 0 ≤ (A 31 a1.toNatClampNeg).toInt ∧ r3.toInt = 1)) ∧ (r4.toInt = 0 → RV B a1 (A 31 a1.toNatClampNeg).toInt) := hr4
  obtain ⟨hr4, gr4⟩ := hr4
  refine lv_istore_n (lv' := [(3, .int r4), (0, .ref h), (1, .int a1), (2, .int a2)]) hx hb dX11_walks_11 rfl hl (by decide) rfl (fun ls hl => ?_)
  refine lv_iload_n hx hb dX11_walks_12 rfl (lv_at hl 0 rfl) ?_
  refine lv_if_ge (tgt := 20) hx hb dX11_walks_13 (by decide) (fun c5 => ?_) (fun c5 => ?_)
  · have zc5 := leK (show (0 : Int32).toInt = 0 by decide) rfl c5
    refine lv_aload_n hx hb dX11_walks_20 rfl (lv_at hl 1 rfl) ?_
    refine lv_iload_n hx hb dX11_walks_21 rfl (lv_at hl 2 rfl) ?_
    refine lv_iload_n hx hb dX11_walks_22 rfl (lv_at hl 3 rfl) ?_
    refine behR (runVP (As := [.int a1, .int a2]) (rest := []) ⟨hx, hb, hml, hown, ht⟩ (sX11_canWalk l G cs h q F A D B hI a1 a2 (by omega) (by omega) (show RV B a1 (A 31 a1.toNatClampNeg).toInt from (gr4 (by omega)))) okV_RX11_316 ⟨by decide, by decide⟩ hK hP [0, 1, 2, 3, 4, 5, 6, 7, 8, 9, 10, 11, 12, 13, 14, 15, 16, 17, 18, 19] rfl 0 rfl rfl hl.1 rfl (Nat.le_of_ble_eq_true rfl) dX11_walks_23 ⟨by decide, by decide⟩) hP hS (fun _ h => h) (fun r6 H locs hr6 hP hS => ?_)
    have hr6 : (0 : Int) ≤ r6.toInt ∧ r6.toInt ≤ 1 := hr6
    refine lv_if_eq (tgt := 33) hx hb dX11_walks_26 (by decide) (fun c7 => ?_) (fun c7 => ?_)
    · have zc7 := eqK rfl (show (0 : Int32).toInt = 0 by decide) c7
      refine lv_iconst (v := 0) hx hb dX11_walks_33 (by decide) ?_
      exact retRi hx hb hr hlk hS dX11_walks_34 (trivial)
    · have zc7 := neK rfl (show (0 : Int32).toInt = 0 by decide) c7
      refine lv_iconst (v := 1) hx hb dX11_walks_29 (by decide) ?_
      refine lv_goto (tgt := 34) hx hb dX11_walks_30 (by decide) ?_
      exact retRi hx hb hr hlk hS dX11_walks_34 (trivial)
  · have zc5 := nleK (show (0 : Int32).toInt = 0 by decide) rfl c5
    refine lv_iload_n hx hb dX11_walks_16 rfl (lv_at hl 0 rfl) ?_
    refine lv_goto (tgt := 34) hx hb dX11_walks_17 (by decide) ?_
    exact retRi hx hb hr hlk hS dX11_walks_34 (trivial)

set_option maxRecDepth 100000 in
set_option maxHeartbeats 8000000 in
theorem sX11_penny (l : Launch) (G : va_G) (cs : Nat → ClassId) (h : Nat) (q : Nat → Nat) (F : Nat → Int32) (A : Nat → Nat → Int32) (D : Int64) (B : Nat → Nat → Int64) (hI : IM F A) (a1 : Int32) : ImpI l yX11_penny cX11_penny 8 (some .int) 7 0 0 G (TY cs) [.ref h, .int a1] (mS cs h q F A D B) (fun (r : Int32) (u : Int32 × Int32 × (Nat → Int32) × (Nat → Int32)) => True) (fun u : Int32 × Int32 × (Nat → Int32) × (Nat → Int32) => (mS cs h q (upd (upd F 17 u.1) 18 u.2.1) (vA (vA A 15 u.2.2.1) 16 u.2.2.2) D B)) := by
  refine mkD (Qc := (QDi G (fun (r : Int32) (u : Int32 × Int32 × (Nat → Int32) × (Nat → Int32)) => True) (fun u : Int32 × Int32 × (Nat → Int32) × (Nat → Int32) => (mS cs h q (upd (upd F 17 u.1) 18 u.2.1) (vA (vA A 15 u.2.2.1) 16 u.2.2.2) D B)))) (by decide) (by simp [lg_sl, Value.category]) ?_
  intro p e s m args below meth c ls A0 hx hb hml hr hlk hown hmn ht hK hP hD hS hA hl
  have hl : lv_has ls 8 [(0, .ref h), (1, .int a1)] := hl
  refine lv_aload_n hx hb dX11_penny_0 rfl (lv_at hl 0 rfl) ?_
  refine lv_iload_n hx hb dX11_penny_1 rfl (lv_at hl 1 rfl) ?_
  refine lv_iconst (v := 1) hx hb dX11_penny_2 (by decide) ?_
  refine behR (runVP (As := [.int a1, .int 1]) (rest := []) ⟨hx, hb, hml, hown, ht⟩ (sX11_asksRound l G cs h q F A D B hI a1 1 (by decide)) okV_RX11_303 ⟨by decide, by decide⟩ hK hP [0, 1, 2, 3, 4, 5, 6, 7, 8, 9, 10, 11, 12, 13, 14, 15, 16, 17, 18, 19] rfl 0 rfl rfl hl.1 rfl (Nat.le_of_ble_eq_true rfl) dX11_penny_3 ⟨by decide, by decide⟩) hP hS hA (fun r1 H locs hr1 hP hS => ?_)
  have kk2 : (1 : Int32).toInt = 1 := by decide
  have hr1 : (r1.toInt = -2 ∨ r1.toInt = -6 ∨ (r1.toInt = 0 ∧ 0 ≤ a1.toInt ∧ a1.toInt ≤ 3 ∧ 0 ≤ (A 31 a1.toNatClampNeg).toInt ∧ (1 : Int32).toInt = 1)) ∧ (r1.toInt = 0 → RV B a1 (A 31 a1.toNatClampNeg).toInt) := hr1
  obtain ⟨hr1, gr1⟩ := hr1
  refine lv_istore_n (lv' := [(2, .int r1), (0, .ref h), (1, .int a1)]) hx hb dX11_penny_6 rfl hl (by decide) rfl (fun ls hl => ?_)
  refine lv_iload_n hx hb dX11_penny_7 rfl (lv_at hl 0 rfl) ?_
  refine lv_if_ge (tgt := 13) hx hb dX11_penny_8 (by decide) (fun c3 => ?_) (fun c3 => ?_)
  · have zc3 := leK (show (0 : Int32).toInt = 0 by decide) rfl c3
    refine lv_iconst (v := 0) hx hb dX11_penny_13 (by decide) ?_
    refine lv_istore_n (lv' := [(3, .int 0), (2, .int r1), (0, .ref h), (1, .int a1)]) hx hb dX11_penny_14 rfl hl (by decide) rfl (fun ls hl => ?_)
    refine lv_iconst (v := 0) hx hb dX11_penny_15 (by decide) ?_
    refine lv_istore (lv' := [(4, .int 0), (3, .int 0), (2, .int r1), (0, .ref h), (1, .int a1)]) hx hb dX11_penny_16 hl (by decide) rfl (fun ls hl => ?_)
    have B18 : ∀ (n : Nat) (x18_3 : Int32) (x18_4 : Int32) (H : Heap) (locs : List Loc) (ls : Array Slot), (60 - x18_4.toInt).toNat < n → (0 : Int) ≤ x18_4.toInt ∧ x18_4.toInt ≤ 60 → va_P G vwCl (mS cs h q F A D B) H → va_D A0 (mS cs h q F A D B) → va_S A0 s.heap H locs → lv_has ls 8 [(0, .ref h), (1, .int a1), (3, .int x18_3), (4, .int x18_4)] → W p l e (rmk 7 0 0) s m args below meth c H locs 0 0 (MQ below ((QDi G (fun (r : Int32) (u : Int32 × Int32 × (Nat → Int32) × (Nat → Int32)) => True) (fun u : Int32 × Int32 × (Nat → Int32) × (Nat → Int32) => (mS cs h q (upd (upd F 17 u.1) 18 u.2.1) (vA (vA A 15 u.2.2.1) 16 u.2.2.2) D B))) A0) args s 0 0 A0) (F0 m 18 ls []) := by
      intro n
      induction n with
      | zero => intro x18_3 x18_4 H locs ls hmeas hx18_4 hP hD hS hl; exact absurd hmeas (Nat.not_lt_zero _)
      | succ n ih18 =>
        intro x18_3 x18_4 H locs ls hmeas hx18_4 hP hD hS hl
        refine lv_iload hx hb dX11_penny_18 (lv_at hl 3 rfl) ?_
        refine lv_aload_n hx hb dX11_penny_20 rfl (lv_at hl 0 rfl) ?_
        refine getF (v := .ref (q 31)) hx hb ht hown hK hP iTX11 0 31 rfl rfl (by decide) fl_RX11_61 rfl dX11_penny_21 ?_
        refine lv_iload_n hx hb dX11_penny_24 rfl (lv_at hl 1 rfl) ?_
        refine va_iald hx hb hK.1 hP 16 0 rfl rfl (inK rfl (by omega) (by decide)) dX11_penny_25 ?_
        refine lv_topi (fun v14001 ev14001 => ?_)
        have zf14002 : (-1 : Int) ≤ v14001.toInt ∧ v14001.toInt ≤ 60 := by rw [ev14001]; exact (hI.2 31 _)
        have nv14001 : v14001.toInt = (A 31 a1.toNatClampNeg).toInt := congrArg Int32.toInt ev14001
        refine lv_icmp_ge (tgt := 54) hx hb dX11_penny_26 (by decide) (fun c14003 => ?_) (fun c14003 => ?_)
        · have zc14003 := leK rfl rfl c14003
          refine lv_iconst (v := 0) hx hb dX11_penny_54 (by decide) ?_
          refine lv_istore (lv' := [(4, .int 0), (0, .ref h), (1, .int a1), (3, .int x18_3)]) hx hb dX11_penny_55 hl (by decide) rfl (fun ls hl => ?_)
          refine lv_aload_n hx hb dX11_penny_57 rfl (lv_at hl 1 rfl) ?_
          refine lv_iload_n hx hb dX11_penny_58 rfl (lv_at hl 2 rfl) ?_
          refine lv_aload_n hx hb dX11_penny_59 rfl (lv_at hl 1 rfl) ?_
          refine getF (v := .ref (q 31)) hx hb ht hown hK hP iTX11 0 31 rfl rfl (by decide) fl_RX11_61 rfl dX11_penny_60 ?_
          refine lv_iload_n hx hb dX11_penny_63 rfl (lv_at hl 2 rfl) ?_
          refine va_iald hx hb hK.1 hP 16 0 rfl rfl (inK rfl (by omega) (by decide)) dX11_penny_64 ?_
          refine lv_topi (fun v14004 ev14004 => ?_)
          have zf14005 : (-1 : Int) ≤ v14004.toInt ∧ v14004.toInt ≤ 60 := by rw [ev14004]; exact (hI.2 31 _)
          have nv14004 : v14004.toInt = (A 31 a1.toNatClampNeg).toInt := congrArg Int32.toInt ev14004
          refine lv_iconst (v := 0) hx hb dX11_penny_65 (by decide) ?_
          refine behDi (wr := []) (runVD (As := [.int a1, .int v14004, .int 0]) (rest := []) ⟨hx, hb, hml, hown, ht⟩ (sX11_gainOf l G cs h q F A D B hI a1 v14004 0 (by omega) (by omega) (by decide) (show RV B a1 v14004.toInt from (RVle (gr1 (by omega)) (by first | omega | (rw [ev14004]; exact Int.le_refl _))))) okV_RX11_309 ⟨by decide, by decide⟩ hK hP hD [0, 1, 2, 3, 4, 5, 6, 7, 8, 9, 10, 11, 12, 13, 14, 15, 16, 17, 18, 19] rfl (by decide) rfl 0 rfl rfl hl.1 rfl (Nat.le_of_ble_eq_true rfl) dX11_penny_66 ⟨(Nat.le_of_ble_eq_true rfl), (Nat.le_of_ble_eq_true rfl)⟩) hP hD hS hA [0, 1, 2, 3, 4, 5, 6, 7, 8, 9, 10, 11, 12, 13, 14, 15, 16, 17, 18, 19] [] rfl rfl (by decide) (by decide) (fun r9 u H locs hu hP hD hS => ?_)
          obtain ⟨x14006, x14007, g14008, g14009⟩ := u
          obtain ⟨r14010, rfl⟩ : ∃ z, z = r9 := ⟨_, rfl⟩
          have hr14010 := hu
          have hP : va_P G vwCl (mS cs h q (upd (upd F 17 x14006) 18 x14007) (vA (vA A 15 g14008) 16 g14009) D B) H := hP
          have hD : va_D A0 (mS cs h q (upd (upd F 17 x14006) 18 x14007) (vA (vA A 15 g14008) 16 g14009) D B) := hD
          refine lv_istore (lv' := [(5, .int r14010), (4, .int 0), (0, .ref h), (1, .int a1), (3, .int x18_3)]) hx hb dX11_penny_69 hl (by decide) rfl (fun ls hl => ?_)
          refine lv_iconst (v := 1) hx hb dX11_penny_71 (by decide) ?_
          refine lv_istore (lv' := [(6, .int 1), (5, .int r14010), (4, .int 0), (0, .ref h), (1, .int a1), (3, .int x18_3)]) hx hb dX11_penny_72 hl (by decide) rfl (fun ls hl => ?_)
          have B74 : ∀ (n : Nat) (x74_4 : Int32) (x74_5 : Int32) (x74_6 : Int32) (f17_74 : Int32) (f18_74 : Int32) (a15_74 : (Nat → Int32)) (a16_74 : (Nat → Int32)) (H : Heap) (locs : List Loc) (ls : Array Slot), (10 - x74_6.toInt).toNat < n → (0 : Int) ≤ x74_4.toInt ∧ x74_4.toInt ≤ 9 → (1 : Int) ≤ x74_6.toInt ∧ x74_6.toInt ≤ 10 → va_P G vwCl (mS cs h q (upd (upd F 17 f17_74) 18 f18_74) (vA (vA A 15 a15_74) 16 a16_74) D B) H → va_D A0 (mS cs h q (upd (upd F 17 f17_74) 18 f18_74) (vA (vA A 15 a15_74) 16 a16_74) D B) → va_S A0 s.heap H locs → lv_has ls 8 [(0, .ref h), (1, .int a1), (3, .int x18_3), (4, .int x74_4), (5, .int x74_5), (6, .int x74_6)] → W p l e (rmk 7 0 0) s m args below meth c H locs 0 0 (MQ below ((QDi G (fun (r : Int32) (u : Int32 × Int32 × (Nat → Int32) × (Nat → Int32)) => True) (fun u : Int32 × Int32 × (Nat → Int32) × (Nat → Int32) => (mS cs h q (upd (upd F 17 u.1) 18 u.2.1) (vA (vA A 15 u.2.2.1) 16 u.2.2.2) D B))) A0) args s 0 0 A0) (F0 m 74 ls []) := by
            intro n
            induction n with
            | zero => intro x74_4 x74_5 x74_6 f17_74 f18_74 a15_74 a16_74 H locs ls hmeas hx74_4 hx74_6 hP hD hS hl; exact absurd hmeas (Nat.not_lt_zero _)
            | succ n ih74 =>
              intro x74_4 x74_5 x74_6 f17_74 f18_74 a15_74 a16_74 H locs ls hmeas hx74_4 hx74_6 hP hD hS hl
              refine lv_iload hx hb dX11_penny_74 (lv_at hl 5 rfl) ?_
              refine lv_bipush (v := 9) hx hb dX11_penny_76 (by decide) ?_
              refine lv_icmp_gt (tgt := 125) hx hb dX11_penny_78 (by decide) (fun c47001 => ?_) (fun c47001 => ?_)
              · have zc47001 := ltK (show (9 : Int32).toInt = 9 by decide) rfl c47001
                refine lv_iload hx hb dX11_penny_125 (lv_at hl 3 rfl) ?_
                exact retDi (f17_74, f18_74, a15_74, a16_74) hx hb hr hlk hP hD hS dX11_penny_127 (trivial) (Nat.le_of_ble_eq_true rfl) (Nat.le_of_ble_eq_true rfl)
              · have zc47001 := nltK (show (9 : Int32).toInt = 9 by decide) rfl c47001
                refine lv_aload_n hx hb dX11_penny_81 rfl (lv_at hl 0 rfl) ?_
                refine lv_iload_n hx hb dX11_penny_82 rfl (lv_at hl 1 rfl) ?_
                refine lv_aload_n hx hb dX11_penny_83 rfl (lv_at hl 0 rfl) ?_
                refine getF (v := .ref (q 31)) hx hb ht hown hK hP iTX11 0 31 rfl rfl (by decide) fl_RX11_61 rfl dX11_penny_84 ?_
                refine lv_iload_n hx hb dX11_penny_87 rfl (lv_at hl 1 rfl) ?_
                refine va_iald hx hb hK.1 hP 16 0 rfl rfl (inK rfl (by omega) (by decide)) dX11_penny_88 ?_
                refine lv_topi (fun v47002 ev47002 => ?_)
                have zf47003 : (-1 : Int) ≤ v47002.toInt ∧ v47002.toInt ≤ 60 := by rw [ev47002]; exact (hI.2 31 _)
                have nv47002 : v47002.toInt = (A 31 a1.toNatClampNeg).toInt := congrArg Int32.toInt ev47002
                refine lv_iload hx hb dX11_penny_89 (lv_at hl 5 rfl) ?_
                refine behDi (wr := []) (runVD (As := [.int a1, .int v47002, .int x74_6]) (rest := []) ⟨hx, hb, hml, hown, ht⟩ (sX11_gainOf l G cs h q (upd (upd F 17 f17_74) 18 f18_74) (vA (vA A 15 a15_74) 16 a16_74) D B (IM_arr (k := 16) (IM_arr (k := 15) (IM_put (k := 18) (IM_put (k := 17) hI (i32b _)) (i32b _)) (fun _ => i32b _)) (fun _ => i32b _)) a1 v47002 x74_6 (by omega) (by omega) (by omega) (show RV B a1 v47002.toInt from (RVle (gr1 (by omega)) (by first | omega | (rw [ev47002]; exact Int.le_refl _))))) okV_RX11_309 ⟨by decide, by decide⟩ hK hP hD [0, 1, 2, 3, 4, 5, 6, 7, 8, 9, 10, 11, 12, 13, 14, 15, 16, 17, 18, 19] rfl (by decide) rfl 0 rfl rfl hl.1 rfl (Nat.le_of_ble_eq_true rfl) dX11_penny_91 ⟨(Nat.le_of_ble_eq_true rfl), (Nat.le_of_ble_eq_true rfl)⟩) hP hD hS hA [0, 1, 2, 3, 4, 5, 6, 7, 8, 9, 10, 11, 12, 13, 14, 15, 16, 17, 18, 19] [] rfl rfl (by decide) (by decide) (fun r9 u H locs hu hP hD hS => ?_)
                obtain ⟨x47004, x47005, g47006, g47007⟩ := u
                obtain ⟨r47008, rfl⟩ : ∃ z, z = r9 := ⟨_, rfl⟩
                have hr47008 := hu
                have hP : va_P G vwCl (mS cs h q (upd (upd F 17 x47004) 18 x47005) (vA (vA A 15 g47006) 16 g47007) D B) H := hP
                have hD : va_D A0 (mS cs h q (upd (upd F 17 x47004) 18 x47005) (vA (vA A 15 g47006) 16 g47007) D B) := hD
                refine lv_iload hx hb dX11_penny_94 (lv_at hl 5 rfl) ?_
                refine lv_iload_n hx hb dX11_penny_96 rfl (lv_at hl 2 rfl) ?_
                refine lv_imul hx hb dX11_penny_97 ?_
                refine lv_topi (fun v47009 ev47009 => ?_)
                refine lv_isub hx hb dX11_penny_98 ?_
                refine lv_topi (fun v47010 ev47010 => ?_)
                refine lv_istore (lv' := [(7, .int v47010), (0, .ref h), (1, .int a1), (3, .int x18_3), (4, .int x74_4), (5, .int x74_5), (6, .int x74_6)]) hx hb dX11_penny_99 hl (by decide) rfl (fun ls hl => ?_)
                refine lv_iload hx hb dX11_penny_101 (lv_at hl 0 rfl) ?_
                refine lv_iload hx hb dX11_penny_103 (lv_at hl 5 rfl) ?_
                have B119 : ∀ (x119_4 : Int32) (x119_5 : Int32) (H : Heap) (locs : List Loc) (ls : Array Slot), (0 : Int) ≤ x119_4.toInt ∧ x119_4.toInt ≤ 9 → va_P G vwCl (mS cs h q (upd (upd F 17 x47004) 18 x47005) (vA (vA A 15 g47006) 16 g47007) D B) H → va_D A0 (mS cs h q (upd (upd F 17 x47004) 18 x47005) (vA (vA A 15 g47006) 16 g47007) D B) → va_S A0 s.heap H locs → lv_has ls 8 [(0, .ref h), (1, .int a1), (3, .int x18_3), (4, .int x119_4), (5, .int x119_5), (6, .int x74_6)] → W p l e (rmk 7 0 0) s m args below meth c H locs 0 0 (MQ below ((QDi G (fun (r : Int32) (u : Int32 × Int32 × (Nat → Int32) × (Nat → Int32)) => True) (fun u : Int32 × Int32 × (Nat → Int32) × (Nat → Int32) => (mS cs h q (upd (upd F 17 u.1) 18 u.2.1) (vA (vA A 15 u.2.2.1) 16 u.2.2.2) D B))) A0) args s 0 0 A0) (F0 m 119 ls []) := by
                  intro x119_4 x119_5 H locs ls hx119_4 hP hD hS hl
                  obtain ⟨v71001, ev71001⟩ : ∃ z : Int32, z = x74_6 + 1 := ⟨_, rfl⟩
                  have tv71001 : v71001.toInt = x74_6.toInt + 1 := by rw [ev71001]; exact addT rfl (by decide) (by omega)
                  refine lv_iinc (v := v71001) (lv' := [(6, .int v71001), (0, .ref h), (1, .int a1), (3, .int x18_3), (4, .int x119_4), (5, .int x119_5)]) hx hb dX11_penny_119 hl (k := 5) rfl (by rw [ev71001]; rfl) (by decide) rfl (fun ls hl => ?_)
                  refine lv_goto (tgt := 74) hx hb dX11_penny_122 (by decide) ?_
                  exact ih74 x119_4 x119_5 v71001 x47004 x47005 g47006 g47007 H locs ls (by omega) (by omega) (by omega) hP hD hS (lv_sub hl [1, 2, 3, 4, 5, 0] rfl)
                refine lv_icmp_gt (tgt := 111) hx hb dX11_penny_105 (by decide) (fun c47011 => ?_) (fun c47011 => ?_)
                · have zc47011 := ltK rfl rfl c47011
                  refine lv_iload hx hb dX11_penny_111 (lv_at hl 0 rfl) ?_
                  refine lv_istore (lv' := [(5, .int v47010), (7, .int v47010), (0, .ref h), (1, .int a1), (3, .int x18_3), (4, .int x74_4), (6, .int x74_6)]) hx hb dX11_penny_113 hl (by decide) rfl (fun ls hl => ?_)
                  refine lv_iload hx hb dX11_penny_115 (lv_at hl 6 rfl) ?_
                  refine lv_istore (lv' := [(4, .int x74_6), (5, .int v47010), (7, .int v47010), (0, .ref h), (1, .int a1), (3, .int x18_3), (6, .int x74_6)]) hx hb dX11_penny_117 hl (by decide) rfl (fun ls hl => ?_)
                  exact B119 x74_6 v47010 H locs ls (by omega) hP hD hS (lv_sub hl [3, 4, 5, 0, 1, 6] rfl)
                · have zc47011 := nltK rfl rfl c47011
                  refine lv_goto (tgt := 119) hx hb dX11_penny_108 (by decide) ?_
                  exact B119 x74_4 x74_5 H locs ls (by omega) hP hD hS (lv_sub hl [1, 2, 3, 4, 5, 6] rfl)
          exact B74 _ 0 r14010 1 x14006 x14007 g14008 g14009 H locs ls (Nat.lt_succ_self _) (by decide) (by decide) hP hD hS (lv_sub hl [3, 4, 5, 2, 1, 0] rfl)
        · have zc14003 := nleK rfl rfl c14003
          refine lv_iload_n hx hb dX11_penny_29 rfl (lv_at hl 2 rfl) ?_
          refine lv_aload_n hx hb dX11_penny_30 rfl (lv_at hl 0 rfl) ?_
          refine lv_iload_n hx hb dX11_penny_31 rfl (lv_at hl 1 rfl) ?_
          refine lv_iload hx hb dX11_penny_32 (lv_at hl 3 rfl) ?_
          refine behR (runVP (As := [.int a1, .int x18_4]) (rest := [.int x18_3]) ⟨hx, hb, hml, hown, ht⟩ (sX11_roomAt l G cs h q F A D B hI a1 x18_4 (by omega) (by omega)) okV_RX11_293 ⟨by decide, by decide⟩ hK hP [0, 1, 2, 3, 4, 5, 6, 7, 8, 9, 10, 11, 12, 13, 14, 15, 16, 17, 18, 19] rfl 0 rfl rfl hl.1 rfl (Nat.le_of_ble_eq_true rfl) dX11_penny_34 ⟨by decide, by decide⟩) hP hS hA (fun r14011 H locs hr14011 hP hS => ?_)
          have hr14011 : r14011 = (B 33 (60 * a1.toNatClampNeg + x18_4.toNatClampNeg)).toInt32 := hr14011
          have zbr14011 : -1 ≤ r14011.toInt ∧ r14011.toInt ≤ 6 := by rw [hr14011]; exact RVroom (gr1 (by omega)) (by have q1 := clK (i := x18_4) rfl (by omega); omega)
          refine lv_iconst (v := (-1)) hx hb dX11_penny_37 (by decide) ?_
          have B46 : ∀ (s46_0 : Int32) (s46_1 : Int32) (H : Heap) (locs : List Loc) (ls : Array Slot), (0 : Int) ≤ s46_0.toInt ∧ s46_0.toInt ≤ 1 → va_P G vwCl (mS cs h q F A D B) H → va_D A0 (mS cs h q F A D B) → va_S A0 s.heap H locs → lv_has ls 8 [(0, .ref h), (1, .int a1), (4, .int x18_4)] → W p l e (rmk 7 0 0) s m args below meth c H locs 0 0 (MQ below ((QDi G (fun (r : Int32) (u : Int32 × Int32 × (Nat → Int32) × (Nat → Int32)) => True) (fun u : Int32 × Int32 × (Nat → Int32) × (Nat → Int32) => (mS cs h q (upd (upd F 17 u.1) 18 u.2.1) (vA (vA A 15 u.2.2.1) 16 u.2.2.2) D B))) A0) args s 0 0 A0) (F0 m 46 ls [.int s46_0, .int s46_1]) := by
            intro s46_0 s46_1 H locs ls hs46_0 hP hD hS hl
            refine lv_iadd hx hb dX11_penny_46 ?_
            refine lv_topi (fun v30001 ev30001 => ?_)
            refine lv_istore_n (lv' := [(3, .int v30001), (0, .ref h), (1, .int a1), (4, .int x18_4)]) hx hb dX11_penny_47 rfl hl (by decide) rfl (fun ls hl => ?_)
            obtain ⟨v30002, ev30002⟩ : ∃ z : Int32, z = x18_4 + 1 := ⟨_, rfl⟩
            have tv30002 : v30002.toInt = x18_4.toInt + 1 := by rw [ev30002]; exact addT rfl (by decide) (by omega)
            refine lv_iinc (v := v30002) (lv' := [(4, .int v30002), (3, .int v30001), (0, .ref h), (1, .int a1)]) hx hb dX11_penny_48 hl (k := 3) rfl (by rw [ev30002]; rfl) (by decide) rfl (fun ls hl => ?_)
            refine lv_goto (tgt := 18) hx hb dX11_penny_51 (by decide) ?_
            exact ih18 v30001 v30002 H locs ls (by omega) (by omega) hP hD hS (lv_sub hl [2, 3, 1, 0] rfl)
          refine lv_icmp_ne (tgt := 45) hx hb dX11_penny_38 (by decide) (fun c14012 => ?_) (fun c14012 => ?_)
          · have zc14012 := neK rfl (show (-1 : Int32).toInt = (-1) by decide) c14012
            refine lv_iconst (v := 1) hx hb dX11_penny_45 (by decide) ?_
            exact B46 1 x18_3 H locs ls (by decide) hP hD hS (lv_sub hl [0, 1, 3] rfl)
          · have zc14012 := eqK rfl (show (-1 : Int32).toInt = (-1) by decide) c14012
            refine lv_iconst (v := 0) hx hb dX11_penny_41 (by decide) ?_
            refine lv_goto (tgt := 46) hx hb dX11_penny_42 (by decide) ?_
            exact B46 0 x18_3 H locs ls (by decide) hP hD hS (lv_sub hl [0, 1, 3] rfl)
    exact B18 _ 0 0 H locs ls (Nat.lt_succ_self _) (by decide) hP hD hS (lv_sub hl [3, 4, 1, 0] rfl)
  · have zc3 := nleK (show (0 : Int32).toInt = 0 by decide) rfl c3
    refine lv_iload_n hx hb dX11_penny_11 rfl (lv_at hl 0 rfl) ?_
    exact retDi ((F 17), (F 18), (A 15), (A 16)) hx hb hr hlk hP hD hS dX11_penny_12 (trivial) (Nat.le_of_ble_eq_true rfl) (Nat.le_of_ble_eq_true rfl)

set_option maxRecDepth 100000 in
set_option maxHeartbeats 8000000 in
theorem sX11_hangs (l : Launch) (G : va_G) (cs : Nat → ClassId) (h : Nat) (q : Nat → Nat) (F : Nat → Int32) (A : Nat → Nat → Int32) (D : Int64) (B : Nat → Nat → Int64) (hI : IM F A) (a1 : Int32) : ImpI l yX11_hangs cX11_hangs 4 (some .int) 5 0 0 G (TY cs) [.ref h, .int a1] (mS cs h q F A D B) (fun (r : Int32) (u : Int32 × Int32 × (Nat → Int32) × (Nat → Int32)) => True) (fun u : Int32 × Int32 × (Nat → Int32) × (Nat → Int32) => (mS cs h q (upd (upd F 17 u.1) 18 u.2.1) (vA (vA A 15 u.2.2.1) 16 u.2.2.2) D B)) := by
  refine mkD (Qc := (QDi G (fun (r : Int32) (u : Int32 × Int32 × (Nat → Int32) × (Nat → Int32)) => True) (fun u : Int32 × Int32 × (Nat → Int32) × (Nat → Int32) => (mS cs h q (upd (upd F 17 u.1) 18 u.2.1) (vA (vA A 15 u.2.2.1) 16 u.2.2.2) D B)))) (by decide) (by simp [lg_sl, Value.category]) ?_
  intro p e s m args below meth c ls A0 hx hb hml hr hlk hown hmn ht hK hP hD hS hA hl
  have hl : lv_has ls 4 [(0, .ref h), (1, .int a1)] := hl
  refine lv_aload_n hx hb dX11_hangs_0 rfl (lv_at hl 0 rfl) ?_
  refine lv_iload_n hx hb dX11_hangs_1 rfl (lv_at hl 1 rfl) ?_
  refine lv_iconst (v := 1) hx hb dX11_hangs_2 (by decide) ?_
  refine behR (runVP (As := [.int a1, .int 1]) (rest := []) ⟨hx, hb, hml, hown, ht⟩ (sX11_asksRound l G cs h q F A D B hI a1 1 (by decide)) okV_RX11_303 ⟨by decide, by decide⟩ hK hP [0, 1, 2, 3, 4, 5, 6, 7, 8, 9, 10, 11, 12, 13, 14, 15, 16, 17, 18, 19] rfl 0 rfl rfl hl.1 rfl (Nat.le_of_ble_eq_true rfl) dX11_hangs_3 ⟨by decide, by decide⟩) hP hS hA (fun r1 H locs hr1 hP hS => ?_)
  have kk2 : (1 : Int32).toInt = 1 := by decide
  have hr1 : (r1.toInt = -2 ∨ r1.toInt = -6 ∨ (r1.toInt = 0 ∧ 0 ≤ a1.toInt ∧ a1.toInt ≤ 3 ∧ 0 ≤ (A 31 a1.toNatClampNeg).toInt ∧ (1 : Int32).toInt = 1)) ∧ (r1.toInt = 0 → RV B a1 (A 31 a1.toNatClampNeg).toInt) := hr1
  obtain ⟨hr1, gr1⟩ := hr1
  refine lv_istore_n (lv' := [(2, .int r1), (0, .ref h), (1, .int a1)]) hx hb dX11_hangs_6 rfl hl (by decide) rfl (fun ls hl => ?_)
  refine lv_iload_n hx hb dX11_hangs_7 rfl (lv_at hl 0 rfl) ?_
  refine lv_if_ge (tgt := 13) hx hb dX11_hangs_8 (by decide) (fun c3 => ?_) (fun c3 => ?_)
  · have zc3 := leK (show (0 : Int32).toInt = 0 by decide) rfl c3
    refine lv_aload_n hx hb dX11_hangs_13 rfl (lv_at hl 1 rfl) ?_
    refine behDw (wr := []) (runVD (As := []) (rest := []) ⟨hx, hb, hml, hown, ht⟩ (sX11_asItIs l G cs h q F A D B hI  ) okV_RX11_278 ⟨by decide, by decide⟩ hK hP hD [0, 1, 2, 3, 4, 5, 6, 7, 8, 9, 10, 11, 12, 13, 14, 15, 16, 17, 18, 19] rfl (by decide) rfl 0 rfl rfl hl.1 rfl (Nat.le_of_ble_eq_true rfl) dX11_hangs_14 ⟨(Nat.le_of_ble_eq_true rfl), (Nat.le_of_ble_eq_true rfl)⟩) hP hD hS hA [0, 1, 2, 3, 4, 5, 6, 7, 8, 9, 10, 11, 12, 13, 14, 15, 16, 17, 18, 19] [] rfl rfl (by decide) (by decide) (fun u H locs hu hP hD hS => ?_)
    obtain ⟨x4, x5, g6, g7⟩ := u
    have hr8 := hu
    have hP : va_P G vwCl (mS cs h q (upd (upd F 17 x4) 18 x5) (vA (vA A 15 g6) 16 g7) D B) H := hP
    have hD : va_D A0 (mS cs h q (upd (upd F 17 x4) 18 x5) (vA (vA A 15 g6) 16 g7) D B) := hD
    refine lv_iconst (v := 0) hx hb dX11_hangs_17 (by decide) ?_
    refine lv_istore_n (lv' := [(3, .int 0), (2, .int r1), (0, .ref h), (1, .int a1)]) hx hb dX11_hangs_18 rfl hl (by decide) rfl (fun ls hl => ?_)
    have B19 : ∀ (n : Nat) (x19_3 : Int32) (f18_19 : Int32) (a15_19 : (Nat → Int32)) (a16_19 : (Nat → Int32)) (H : Heap) (locs : List Loc) (ls : Array Slot), (60 - x19_3.toInt).toNat < n → (0 : Int) ≤ x19_3.toInt ∧ x19_3.toInt ≤ 60 → va_P G vwCl (mS cs h q (upd (upd F 17 x4) 18 f18_19) (vA (vA A 15 a15_19) 16 a16_19) D B) H → va_D A0 (mS cs h q (upd (upd F 17 x4) 18 f18_19) (vA (vA A 15 a15_19) 16 a16_19) D B) → va_S A0 s.heap H locs → lv_has ls 4 [(0, .ref h), (1, .int a1), (3, .int x19_3)] → W p l e (rmk 5 0 0) s m args below meth c H locs 0 0 (MQ below ((QDi G (fun (r : Int32) (u : Int32 × Int32 × (Nat → Int32) × (Nat → Int32)) => True) (fun u : Int32 × Int32 × (Nat → Int32) × (Nat → Int32) => (mS cs h q (upd (upd F 17 u.1) 18 u.2.1) (vA (vA A 15 u.2.2.1) 16 u.2.2.2) D B))) A0) args s 0 0 A0) (F0 m 19 ls []) := by
      intro n
      induction n with
      | zero => intro x19_3 f18_19 a15_19 a16_19 H locs ls hmeas hx19_3 hP hD hS hl; exact absurd hmeas (Nat.not_lt_zero _)
      | succ n ih19 =>
        intro x19_3 f18_19 a15_19 a16_19 H locs ls hmeas hx19_3 hP hD hS hl
        refine lv_iload_n hx hb dX11_hangs_19 rfl (lv_at hl 2 rfl) ?_
        refine lv_aload_n hx hb dX11_hangs_20 rfl (lv_at hl 0 rfl) ?_
        refine getF (v := .ref (q 31)) hx hb ht hown hK hP iTX11 0 31 rfl rfl (by decide) fl_RX11_61 rfl dX11_hangs_21 ?_
        refine lv_iload_n hx hb dX11_hangs_24 rfl (lv_at hl 1 rfl) ?_
        refine va_iald hx hb hK.1 hP 16 0 rfl rfl (inK rfl (by omega) (by decide)) dX11_hangs_25 ?_
        refine lv_topi (fun v14001 ev14001 => ?_)
        have zf14002 : (-1 : Int) ≤ v14001.toInt ∧ v14001.toInt ≤ 60 := by rw [ev14001]; exact (hI.2 31 _)
        have nv14001 : v14001.toInt = (A 31 a1.toNatClampNeg).toInt := congrArg Int32.toInt ev14001
        refine lv_icmp_ge (tgt := 66) hx hb dX11_hangs_26 (by decide) (fun c14003 => ?_) (fun c14003 => ?_)
        · have zc14003 := leK rfl rfl c14003
          refine lv_iconst (v := (-1)) hx hb dX11_hangs_66 (by decide) ?_
          exact retDi (x4, f18_19, a15_19, a16_19) hx hb hr hlk hP hD hS dX11_hangs_67 (trivial) (Nat.le_of_ble_eq_true rfl) (Nat.le_of_ble_eq_true rfl)
        · have zc14003 := nleK rfl rfl c14003
          refine lv_aload_n hx hb dX11_hangs_29 rfl (lv_at hl 0 rfl) ?_
          refine lv_aload_n hx hb dX11_hangs_30 rfl (lv_at hl 0 rfl) ?_
          refine lv_aload_n hx hb dX11_hangs_31 rfl (lv_at hl 0 rfl) ?_
          refine lv_iload_n hx hb dX11_hangs_32 rfl (lv_at hl 1 rfl) ?_
          refine lv_iload_n hx hb dX11_hangs_33 rfl (lv_at hl 2 rfl) ?_
          refine behR (runVP (As := [.int a1, .int x19_3]) (rest := [.ref h, .ref h]) ⟨hx, hb, hml, hown, ht⟩ (sX11_roomAt l G cs h q (upd (upd F 17 x4) 18 f18_19) (vA (vA A 15 a15_19) 16 a16_19) D B (IM_arr (k := 16) (IM_arr (k := 15) (IM_put (k := 18) (IM_put (k := 17) hI (i32b _)) (i32b _)) (fun _ => i32b _)) (fun _ => i32b _)) a1 x19_3 (by omega) (by omega)) okV_RX11_293 ⟨by decide, by decide⟩ hK hP [0, 1, 2, 3, 4, 5, 6, 7, 8, 9, 10, 11, 12, 13, 14, 15, 16, 17, 18, 19] rfl 0 rfl rfl hl.1 rfl (Nat.le_of_ble_eq_true rfl) dX11_hangs_34 ⟨by decide, by decide⟩) hP hS hA (fun r14004 H locs hr14004 hP hS => ?_)
          have hr14004 : r14004 = (B 33 (60 * a1.toNatClampNeg + x19_3.toNatClampNeg)).toInt32 := hr14004
          have zbr14004 : -1 ≤ r14004.toInt ∧ r14004.toInt ≤ 6 := by rw [hr14004]; exact RVroom (gr1 (by omega)) (by have q1 := clK (i := x19_3) rfl (by omega); omega)
          refine lv_iconst (v := 0) hx hb dX11_hangs_37 (by decide) ?_
          refine behDi (wr := []) (runVD (As := [.int r14004, .int 0]) (rest := [.ref h]) ⟨hx, hb, hml, hown, ht⟩ (sX11_callIn l G cs h q (upd (upd F 17 x4) 18 f18_19) (vA (vA A 15 a15_19) 16 a16_19) D B (IM_arr (k := 16) (IM_arr (k := 15) (IM_put (k := 18) (IM_put (k := 17) hI (i32b _)) (i32b _)) (fun _ => i32b _)) (fun _ => i32b _)) r14004 0 (by omega) (by decide)) okV_RX11_264 ⟨by decide, by decide⟩ hK hP hD [0, 1, 2, 3, 4, 5, 6, 7, 8, 9, 10, 11, 12, 13, 14, 15, 16, 17, 18, 19] rfl (by decide) rfl 0 rfl rfl hl.1 rfl (Nat.le_of_ble_eq_true rfl) dX11_hangs_38 ⟨(Nat.le_of_ble_eq_true rfl), (Nat.le_of_ble_eq_true rfl)⟩) hP hD hS hA [0, 1, 2, 3, 4, 5, 6, 7, 8, 9, 10, 11, 12, 13, 14, 15, 16, 17, 18, 19] [] rfl rfl (by decide) (by decide) (fun r9 u H locs hu hP hD hS => ?_)
          obtain ⟨x14005, g14006⟩ := u
          obtain ⟨r14007, rfl⟩ : ∃ z, z = r9 := ⟨_, rfl⟩
          have hr14007 := hu
          have hP : va_P G vwCl (mS cs h q (upd (upd F 17 x4) 18 x14005) (vA (vA A 15 g14006) 16 a16_19) D B) H := hP
          have hD : va_D A0 (mS cs h q (upd (upd F 17 x4) 18 x14005) (vA (vA A 15 g14006) 16 a16_19) D B) := hD
          refine behR (runVP (As := [.int r14007]) (rest := []) ⟨hx, hb, hml, hown, ht⟩ (sX11_worthOf l G cs h q (upd (upd F 17 x4) 18 x14005) (vA (vA A 15 g14006) 16 a16_19) D B (IM_arr (k := 16) (IM_arr (k := 15) (IM_put (k := 18) (IM_put (k := 17) hI (i32b _)) (i32b _)) (fun _ => i32b _)) (fun _ => i32b _)) r14007 ) okV_RX11_300 ⟨by decide, by decide⟩ hK hP [0, 1, 2, 3, 4, 5, 6, 7, 8, 9, 10, 11, 12, 13, 14, 15, 16, 17, 18, 19] rfl 0 rfl rfl hl.1 rfl (Nat.le_of_ble_eq_true rfl) dX11_hangs_41 ⟨by decide, by decide⟩) hP hS hA (fun r14008 H locs hr14008 hP hS => ?_)
          refine lv_aload_n hx hb dX11_hangs_44 rfl (lv_at hl 0 rfl) ?_
          refine getF (v := .ref (q 1)) hx hb ht hown hK hP iTX11 0 1 rfl rfl (by decide) fl_RX11_9 rfl dX11_hangs_45 ?_
          refine lv_iconst (v := 3) hx hb dX11_hangs_48 (by decide) ?_
          refine va_iald hx hb hK.1 hP 1 0 rfl rfl (show ¬ (_ ∨ _) by decide) dX11_hangs_49 ?_
          refine W.eq (g2 := F0 m 50 ls [.int (A 1 3), .int r14008]) rfl ?_
          refine lv_icmp_ge (tgt := 55) hx hb dX11_hangs_50 (by decide) (fun c14009 => ?_) (fun c14009 => ?_)
          · have zc14009 := leK rfl rfl c14009
            refine lv_aload_n hx hb dX11_hangs_55 rfl (lv_at hl 0 rfl) ?_
            refine lv_iconst (v := (-1)) hx hb dX11_hangs_56 (by decide) ?_
            refine behDw (wr := []) (runVD (As := [.int (-1)]) (rest := []) ⟨hx, hb, hml, hown, ht⟩ (sX11_goMinute l G cs h q (upd (upd F 17 x4) 18 x14005) (vA (vA A 15 g14006) 16 a16_19) D B (IM_arr (k := 16) (IM_arr (k := 15) (IM_put (k := 18) (IM_put (k := 17) hI (i32b _)) (i32b _)) (fun _ => i32b _)) (fun _ => i32b _)) (-1) ) okV_RX11_267 ⟨by decide, by decide⟩ hK hP hD [0, 1, 2, 3, 4, 5, 6, 7, 8, 9, 10, 11, 12, 13, 14, 15, 16, 17, 18, 19] rfl (by decide) rfl 0 rfl rfl hl.1 rfl (Nat.le_of_ble_eq_true rfl) dX11_hangs_57 ⟨(Nat.le_of_ble_eq_true rfl), (Nat.le_of_ble_eq_true rfl)⟩) hP hD hS hA [0, 1, 2, 3, 4, 5, 6, 7, 8, 9, 10, 11, 12, 13, 14, 15, 16, 17, 18, 19] [] rfl rfl (by decide) (by decide) (fun u H locs hu hP hD hS => ?_)
            obtain ⟨g14010, g14011⟩ := u
            have hr14012 := hu
            have hP : va_P G vwCl (mS cs h q (upd (upd F 17 x4) 18 x14005) (vA (vA A 15 g14010) 16 g14011) D B) H := hP
            have hD : va_D A0 (mS cs h q (upd (upd F 17 x4) 18 x14005) (vA (vA A 15 g14010) 16 g14011) D B) := hD
            obtain ⟨v14013, ev14013⟩ : ∃ z : Int32, z = x19_3 + 1 := ⟨_, rfl⟩
            have tv14013 : v14013.toInt = x19_3.toInt + 1 := by rw [ev14013]; exact addT rfl (by decide) (by omega)
            refine lv_iinc (v := v14013) (lv' := [(3, .int v14013), (0, .ref h), (1, .int a1)]) hx hb dX11_hangs_60 hl (k := 2) rfl (by rw [ev14013]; rfl) (by decide) rfl (fun ls hl => ?_)
            refine lv_goto (tgt := 19) hx hb dX11_hangs_63 (by decide) ?_
            exact ih19 v14013 x14005 g14010 g14011 H locs ls (by omega) (by omega) hP hD hS (lv_sub hl [1, 2, 0] rfl)
          · have zc14009 := nleK rfl rfl c14009
            refine lv_iload_n hx hb dX11_hangs_53 rfl (lv_at hl 2 rfl) ?_
            exact retDi (x4, x14005, g14006, a16_19) hx hb hr hlk hP hD hS dX11_hangs_54 (trivial) (Nat.le_of_ble_eq_true rfl) (Nat.le_of_ble_eq_true rfl)
    exact B19 _ 0 x5 g6 g7 H locs ls (Nat.lt_succ_self _) (by decide) hP hD hS (lv_sub hl [2, 3, 0] rfl)
  · have zc3 := nleK (show (0 : Int32).toInt = 0 by decide) rfl c3
    refine lv_iload_n hx hb dX11_hangs_11 rfl (lv_at hl 0 rfl) ?_
    exact retDi ((F 17), (F 18), (A 15), (A 16)) hx hb hr hlk hP hD hS dX11_hangs_12 (trivial) (Nat.le_of_ble_eq_true rfl) (Nat.le_of_ble_eq_true rfl)

set_option maxRecDepth 100000 in
set_option maxHeartbeats 8000000 in
theorem sX11_slips (l : Launch) (G : va_G) (cs : Nat → ClassId) (h : Nat) (q : Nat → Nat) (F : Nat → Int32) (A : Nat → Nat → Int32) (D : Int64) (B : Nat → Nat → Int64) (hI : IM F A) (a1 : Int32) (a2 : Int32) : SafeR l yX11_slips cX11_slips 7 (some .int) 4 G (TY cs) [.ref h, .int a1, .int a2] (mS cs h q F A D B) (fun r : Int32 => True) := by
  refine mkP (Qc := QRi (fun r : Int32 => True)) (by decide) (by simp [lg_sl, Value.category]) ?_
  intro p e s m args below meth c ls hx hb hml hr hlk hown ht hK hP hS hl
  have hl : lv_has ls 7 [(0, .ref h), (1, .int a1), (2, .int a2)] := hl
  refine lv_aload_n hx hb dX11_slips_0 rfl (lv_at hl 0 rfl) ?_
  refine lv_iload_n hx hb dX11_slips_1 rfl (lv_at hl 1 rfl) ?_
  refine lv_aload_n hx hb dX11_slips_2 rfl (lv_at hl 0 rfl) ?_
  refine lv_iload_n hx hb dX11_slips_3 rfl (lv_at hl 2 rfl) ?_
  refine lv_i2l hx hb dX11_slips_4 rfl ?_
  have bb1 := i32b a2
  refine lv_topl (fun v2 ev2 => ?_)
  have tv2 : v2.toInt = a2.toInt := by rw [ev2]; exact Int32.toInt_toInt64 _
  refine behR (runVP (As := [.long v2]) (rest := [.int a1, .ref h]) ⟨hx, hb, hml, hown, ht⟩ (sX11_isRoom l G cs h q F A D B hI v2 ) okV_RX11_89 ⟨by decide, by decide⟩ hK hP [0, 1, 2, 3, 4, 5, 6, 7, 8, 9, 10, 11, 12, 13, 14, 15, 16, 17, 18, 19] rfl 0 rfl rfl hl.1 rfl (Nat.le_of_ble_eq_true rfl) dX11_slips_5 ⟨by decide, by decide⟩) hP hS (fun _ h => h) (fun r3 H locs hr3 hP hS => ?_)
  have hr3 : (r3.toInt = 1 ∧ 0 ≤ v2.toInt ∧ v2.toInt < (A 1 4).toInt ∧ v2.toInt ≤ 6 ∧ (A 1 4).toInt ≤ 7) ∨ r3.toInt = 0 := hr3
  refine behR (runVP (As := [.int a1, .int r3]) (rest := []) ⟨hx, hb, hml, hown, ht⟩ (sX11_asksRound l G cs h q F A D B hI a1 r3 (by omega)) okV_RX11_303 ⟨by decide, by decide⟩ hK hP [0, 1, 2, 3, 4, 5, 6, 7, 8, 9, 10, 11, 12, 13, 14, 15, 16, 17, 18, 19] rfl 0 rfl rfl hl.1 rfl (Nat.le_of_ble_eq_true rfl) dX11_slips_8 ⟨by decide, by decide⟩) hP hS (fun _ h => h) (fun r4 H locs hr4 hP hS => ?_)
  have hr4 : (r4.toInt = -2 ∨ r4.toInt = -6 ∨ (r4.toInt = 0 ∧ 0 ≤ a1.toInt ∧ a1.toInt ≤ 3 ∧ 0 ≤ (A 31 a1.toNatClampNeg).toInt ∧ r3.toInt = 1)) ∧ (r4.toInt = 0 → RV B a1 (A 31 a1.toNatClampNeg).toInt) := hr4
  obtain ⟨hr4, gr4⟩ := hr4
  refine lv_istore_n (lv' := [(3, .int r4), (0, .ref h), (1, .int a1), (2, .int a2)]) hx hb dX11_slips_11 rfl hl (by decide) rfl (fun ls hl => ?_)
  refine lv_iload_n hx hb dX11_slips_12 rfl (lv_at hl 0 rfl) ?_
  refine lv_if_ge (tgt := 18) hx hb dX11_slips_13 (by decide) (fun c5 => ?_) (fun c5 => ?_)
  · have zc5 := leK (show (0 : Int32).toInt = 0 by decide) rfl c5
    refine lv_aload_n hx hb dX11_slips_18 rfl (lv_at hl 1 rfl) ?_
    refine lv_iload_n hx hb dX11_slips_19 rfl (lv_at hl 2 rfl) ?_
    refine lv_iload_n hx hb dX11_slips_20 rfl (lv_at hl 3 rfl) ?_
    refine behR (runVP (As := [.int a1, .int a2]) (rest := []) ⟨hx, hb, hml, hown, ht⟩ (sX11_canWalk l G cs h q F A D B hI a1 a2 (by omega) (by omega) (show RV B a1 (A 31 a1.toNatClampNeg).toInt from (gr4 (by omega)))) okV_RX11_316 ⟨by decide, by decide⟩ hK hP [0, 1, 2, 3, 4, 5, 6, 7, 8, 9, 10, 11, 12, 13, 14, 15, 16, 17, 18, 19] rfl 0 rfl rfl hl.1 rfl (Nat.le_of_ble_eq_true rfl) dX11_slips_21 ⟨by decide, by decide⟩) hP hS (fun _ h => h) (fun r6 H locs hr6 hP hS => ?_)
    have hr6 : (0 : Int) ≤ r6.toInt ∧ r6.toInt ≤ 1 := hr6
    refine lv_if_ne (tgt := 30) hx hb dX11_slips_24 (by decide) (fun c7 => ?_) (fun c7 => ?_)
    · have zc7 := neK rfl (show (0 : Int32).toInt = 0 by decide) c7
      refine lv_aload_n hx hb dX11_slips_30 rfl (lv_at hl 1 rfl) ?_
      refine behR (runVP (As := []) (rest := []) ⟨hx, hb, hml, hown, ht⟩ (sX11_allRooms l G cs h q F A D B hI  ) okV_RX11_337 ⟨by decide, by decide⟩ hK hP [0, 1, 2, 3, 4, 5, 6, 7, 8, 9, 10, 11, 12, 13, 14, 15, 16, 17, 18, 19] rfl 0 rfl rfl hl.1 rfl (Nat.le_of_ble_eq_true rfl) dX11_slips_31 ⟨by decide, by decide⟩) hP hS (fun _ h => h) (fun r8 H locs hr8 hP hS => ?_)
      have hr8 : (0 : Int) ≤ r8.toInt ∧ r8.toInt ≤ 127 := hr8
      refine lv_iconst (v := 1) hx hb dX11_slips_34 (by decide) ?_
      refine lv_iload_n hx hb dX11_slips_35 rfl (lv_at hl 3 rfl) ?_
      refine lv_ishl hx hb dX11_slips_36 ?_
      refine lv_topi (fun v9 ev9 => ?_)
      have tv9 : (1 : Int) ≤ v9.toInt ∧ v9.toInt ≤ 64 := by rw [ev9]; exact shlT 6 (by decide) rfl (by omega) (by decide)
      have pv9 : v9.toInt = P2 a2.toInt := by rw [ev9]; exact shlP rfl (by omega)
      refine lv_iconst (v := (-1)) hx hb dX11_slips_37 (by decide) ?_
      refine lv_ixor hx hb dX11_slips_38 ?_
      refine lv_topi (fun v10 ev10 => ?_)
      refine lv_iand hx hb dX11_slips_39 ?_
      refine lv_topi (fun v11 ev11 => ?_)
      have tv11 : 0 ≤ v11.toInt ∧ v11.toInt ≤ 127 := by rw [ev11]; exact andA 7 rfl (by omega) (by decide)
      refine lv_istore (lv' := [(4, .int v11), (3, .int r4), (0, .ref h), (1, .int a1), (2, .int a2)]) hx hb dX11_slips_40 hl (by decide) rfl (fun ls hl => ?_)
      refine lv_iload_n hx hb dX11_slips_42 rfl (lv_at hl 4 rfl) ?_
      refine lv_istore (lv' := [(5, .int a2), (4, .int v11), (3, .int r4), (0, .ref h), (1, .int a1), (2, .int a2)]) hx hb dX11_slips_43 hl (by decide) rfl (fun ls hl => ?_)
      refine lv_iconst (v := 0) hx hb dX11_slips_45 (by decide) ?_
      refine lv_istore (lv' := [(6, .int 0), (5, .int a2), (4, .int v11), (3, .int r4), (0, .ref h), (1, .int a1), (2, .int a2)]) hx hb dX11_slips_46 hl (by decide) rfl (fun ls hl => ?_)
      have B48 : ∀ (n : Nat) (x48_4 : Int32) (x48_5 : Int32) (x48_6 : Int32) (H : Heap) (locs : List Loc) (ls : Array Slot), (60 - x48_6.toInt).toNat < n → (0 : Int) ≤ x48_4.toInt ∧ x48_4.toInt ≤ 127 → (0 : Int) ≤ x48_5.toInt ∧ x48_5.toInt ≤ 6 → (0 : Int) ≤ x48_6.toInt ∧ x48_6.toInt ≤ 60 → va_P G vwCl (mS cs h q F A D B) H → va_S (fun q => s.heap.size ≤ q) s.heap H locs → lv_has ls 7 [(0, .ref h), (1, .int a1), (4, .int x48_4), (5, .int x48_5), (6, .int x48_6)] → W p l e (rmk 4 0 0) s m args below meth c H locs 0 0 (MQ below (QRi (fun r : Int32 => True) s.heap.size) args s 0 0 (fun q => s.heap.size ≤ q)) (F0 m 48 ls []) := by
        intro n
        induction n with
        | zero => intro x48_4 x48_5 x48_6 H locs ls hmeas hx48_4 hx48_5 hx48_6 hP hS hl; exact absurd hmeas (Nat.not_lt_zero _)
        | succ n ih48 =>
          intro x48_4 x48_5 x48_6 H locs ls hmeas hx48_4 hx48_5 hx48_6 hP hS hl
          refine lv_iload hx hb dX11_slips_48 (lv_at hl 4 rfl) ?_
          refine lv_aload_n hx hb dX11_slips_50 rfl (lv_at hl 0 rfl) ?_
          refine getF (v := .ref (q 31)) hx hb ht hown hK hP iTX11 0 31 rfl rfl (by decide) fl_RX11_61 rfl dX11_slips_51 ?_
          refine lv_iload_n hx hb dX11_slips_54 rfl (lv_at hl 1 rfl) ?_
          refine va_iald hx hb hK.1 hP 16 0 rfl rfl (inK rfl (by omega) (by decide)) dX11_slips_55 ?_
          refine lv_topi (fun v33001 ev33001 => ?_)
          have zf33002 : (-1 : Int) ≤ v33001.toInt ∧ v33001.toInt ≤ 60 := by rw [ev33001]; exact (hI.2 31 _)
          have nv33001 : v33001.toInt = (A 31 a1.toNatClampNeg).toInt := congrArg Int32.toInt ev33001
          refine lv_icmp_ge (tgt := 105) hx hb dX11_slips_56 (by decide) (fun c33003 => ?_) (fun c33003 => ?_)
          · have zc33003 := leK rfl rfl c33003
            refine lv_iload hx hb dX11_slips_105 (lv_at hl 2 rfl) ?_
            exact retRi hx hb hr hlk hS dX11_slips_107 (trivial)
          · have zc33003 := nleK rfl rfl c33003
            refine lv_aload_n hx hb dX11_slips_59 rfl (lv_at hl 0 rfl) ?_
            refine lv_iload_n hx hb dX11_slips_60 rfl (lv_at hl 1 rfl) ?_
            refine lv_iload hx hb dX11_slips_61 (lv_at hl 4 rfl) ?_
            refine behR (runVP (As := [.int a1, .int x48_6]) (rest := []) ⟨hx, hb, hml, hown, ht⟩ (sX11_roomAt l G cs h q F A D B hI a1 x48_6 (by omega) (by omega)) okV_RX11_293 ⟨by decide, by decide⟩ hK hP [0, 1, 2, 3, 4, 5, 6, 7, 8, 9, 10, 11, 12, 13, 14, 15, 16, 17, 18, 19] rfl 0 rfl rfl hl.1 rfl (Nat.le_of_ble_eq_true rfl) dX11_slips_63 ⟨by decide, by decide⟩) hP hS (fun _ h => h) (fun r33004 H locs hr33004 hP hS => ?_)
            have hr33004 : r33004 = (B 33 (60 * a1.toNatClampNeg + x48_6.toNatClampNeg)).toInt32 := hr33004
            have zbr33004 : -1 ≤ r33004.toInt ∧ r33004.toInt ≤ 6 := by rw [hr33004]; exact RVroom (gr4 (by omega)) (by have q1 := clK (i := x48_6) rfl (by omega); omega)
            refine lv_iconst (v := (-1)) hx hb dX11_slips_66 (by decide) ?_
            have B82 : ∀ (s82_0 : Int32) (H : Heap) (locs : List Loc) (ls : Array Slot), (0 : Int) ≤ s82_0.toInt ∧ s82_0.toInt ≤ 6 → va_P G vwCl (mS cs h q F A D B) H → va_S (fun q => s.heap.size ≤ q) s.heap H locs → lv_has ls 7 [(0, .ref h), (1, .int a1), (4, .int x48_4), (6, .int x48_6)] → W p l e (rmk 4 0 0) s m args below meth c H locs 0 0 (MQ below (QRi (fun r : Int32 => True) s.heap.size) args s 0 0 (fun q => s.heap.size ≤ q)) (F0 m 82 ls [.int s82_0]) := by
              intro s82_0 H locs ls hs82_0 hP hS hl
              refine lv_istore (lv' := [(5, .int s82_0), (0, .ref h), (1, .int a1), (4, .int x48_4), (6, .int x48_6)]) hx hb dX11_slips_82 hl (by decide) rfl (fun ls hl => ?_)
              refine lv_aload_n hx hb dX11_slips_84 rfl (lv_at hl 1 rfl) ?_
              refine lv_iload hx hb dX11_slips_85 (lv_at hl 3 rfl) ?_
              refine behR (runVP (As := [.int x48_4]) (rest := []) ⟨hx, hb, hml, hown, ht⟩ (sX11_wider l G cs h q F A D B hI x48_4 (by omega)) okV_RX11_330 ⟨by decide, by decide⟩ hK hP [0, 1, 2, 3, 4, 5, 6, 7, 8, 9, 10, 11, 12, 13, 14, 15, 16, 17, 18, 19] rfl 0 rfl rfl hl.1 rfl (Nat.le_of_ble_eq_true rfl) dX11_slips_87 ⟨by decide, by decide⟩) hP hS (fun _ h => h) (fun r51001 H locs hr51001 hP hS => ?_)
              have hr51001 : (0 : Int) ≤ r51001.toInt ∧ r51001.toInt ≤ 127 := hr51001
              refine lv_iconst (v := 1) hx hb dX11_slips_90 (by decide) ?_
              refine lv_iload hx hb dX11_slips_91 (lv_at hl 0 rfl) ?_
              refine lv_ishl hx hb dX11_slips_93 ?_
              refine lv_topi (fun v51002 ev51002 => ?_)
              have tv51002 : (1 : Int) ≤ v51002.toInt ∧ v51002.toInt ≤ 64 := by rw [ev51002]; exact shlT 6 (by decide) rfl (by omega) (by decide)
              have pv51002 : v51002.toInt = P2 s82_0.toInt := by rw [ev51002]; exact shlP rfl (by omega)
              refine lv_iconst (v := (-1)) hx hb dX11_slips_94 (by decide) ?_
              refine lv_ixor hx hb dX11_slips_95 ?_
              refine lv_topi (fun v51003 ev51003 => ?_)
              refine lv_iand hx hb dX11_slips_96 ?_
              refine lv_topi (fun v51004 ev51004 => ?_)
              have tv51004 : 0 ≤ v51004.toInt ∧ v51004.toInt ≤ 127 := by rw [ev51004]; exact andA 7 rfl (by omega) (by decide)
              refine lv_istore (lv' := [(4, .int v51004), (5, .int s82_0), (0, .ref h), (1, .int a1), (6, .int x48_6)]) hx hb dX11_slips_97 hl (by decide) rfl (fun ls hl => ?_)
              obtain ⟨v51005, ev51005⟩ : ∃ z : Int32, z = x48_6 + 1 := ⟨_, rfl⟩
              have tv51005 : v51005.toInt = x48_6.toInt + 1 := by rw [ev51005]; exact addT rfl (by decide) (by omega)
              refine lv_iinc (v := v51005) (lv' := [(6, .int v51005), (4, .int v51004), (5, .int s82_0), (0, .ref h), (1, .int a1)]) hx hb dX11_slips_99 hl (k := 4) rfl (by rw [ev51005]; rfl) (by decide) rfl (fun ls hl => ?_)
              refine lv_goto (tgt := 48) hx hb dX11_slips_102 (by decide) ?_
              exact ih48 v51004 s82_0 v51005 H locs ls (by omega) (by omega) (by omega) (by omega) hP hS (lv_sub hl [3, 4, 1, 2, 0] rfl)
            refine lv_icmp_ne (tgt := 75) hx hb dX11_slips_67 (by decide) (fun c33005 => ?_) (fun c33005 => ?_)
            · have zc33005 := neK rfl (show (-1 : Int32).toInt = (-1) by decide) c33005
              refine lv_aload_n hx hb dX11_slips_75 rfl (lv_at hl 0 rfl) ?_
              refine lv_iload_n hx hb dX11_slips_76 rfl (lv_at hl 1 rfl) ?_
              refine lv_iload hx hb dX11_slips_77 (lv_at hl 4 rfl) ?_
              refine behR (runVP (As := [.int a1, .int x48_6]) (rest := []) ⟨hx, hb, hml, hown, ht⟩ (sX11_roomAt l G cs h q F A D B hI a1 x48_6 (by omega) (by omega)) okV_RX11_293 ⟨by decide, by decide⟩ hK hP [0, 1, 2, 3, 4, 5, 6, 7, 8, 9, 10, 11, 12, 13, 14, 15, 16, 17, 18, 19] rfl 0 rfl rfl hl.1 rfl (Nat.le_of_ble_eq_true rfl) dX11_slips_79 ⟨by decide, by decide⟩) hP hS (fun _ h => h) (fun r33006 H locs hr33006 hP hS => ?_)
              have hr33006 : r33006 = (B 33 (60 * a1.toNatClampNeg + x48_6.toNatClampNeg)).toInt32 := hr33006
              have zbr33006 : -1 ≤ r33006.toInt ∧ r33006.toInt ≤ 6 := by rw [hr33006]; exact RVroom (gr4 (by omega)) (by have q1 := clK (i := x48_6) rfl (by omega); omega)
              have qrr33006 := congrArg Int32.toInt (hr33006.trans hr33004.symm)
              exact B82 r33006 H locs ls (by omega) hP hS (lv_sub hl [0, 1, 2, 4] rfl)
            · have zc33005 := eqK rfl (show (-1 : Int32).toInt = (-1) by decide) c33005
              refine lv_iload hx hb dX11_slips_70 (lv_at hl 3 rfl) ?_
              refine lv_goto (tgt := 82) hx hb dX11_slips_72 (by decide) ?_
              exact B82 x48_5 H locs ls (by omega) hP hS (lv_sub hl [0, 1, 2, 4] rfl)
      exact B48 _ v11 a2 0 H locs ls (Nat.lt_succ_self _) (by omega) (by omega) (by decide) hP hS (lv_sub hl [4, 5, 2, 1, 0] rfl)
    · have zc7 := eqK rfl (show (0 : Int32).toInt = 0 by decide) c7
      refine lv_bipush (v := (-5)) hx hb dX11_slips_27 (by decide) ?_
      exact retRi hx hb hr hlk hS dX11_slips_29 (trivial)
  · have zc5 := nleK (show (0 : Int32).toInt = 0 by decide) rfl c5
    refine lv_iload_n hx hb dX11_slips_16 rfl (lv_at hl 0 rfl) ?_
    exact retRi hx hb hr hlk hS dX11_slips_17 (trivial)

set_option maxRecDepth 100000 in
set_option maxHeartbeats 8000000 in
theorem sX11_boys (l : Launch) (G : va_G) (cs : Nat → ClassId) (h : Nat) (q : Nat → Nat) (F : Nat → Int32) (A : Nat → Nat → Int32) (D : Int64) (B : Nat → Nat → Int64) (hI : IM F A) : ImpI l yX11_boys cX11_boys 2 (some .int) 4 0 0 G (TY cs) [.ref h] (mS cs h q F A D B) (fun (r : Int32) (u : Int32 × (Nat → Int32) × (Nat → Int32) × (Nat → Int32)) => ((0 : Int) ≤ u.1.toInt ∧ u.1.toInt ≤ 6272) ∧ (True)) (fun u : Int32 × (Nat → Int32) × (Nat → Int32) × (Nat → Int32) => (mS cs h q (upd F 26 u.1) (vA (vA (vA A 23 u.2.1) 24 u.2.2.1) 25 u.2.2.2) D B)) := by
  refine mkD (Qc := (QDi G (fun (r : Int32) (u : Int32 × (Nat → Int32) × (Nat → Int32) × (Nat → Int32)) => ((0 : Int) ≤ u.1.toInt ∧ u.1.toInt ≤ 6272) ∧ (True)) (fun u : Int32 × (Nat → Int32) × (Nat → Int32) × (Nat → Int32) => (mS cs h q (upd F 26 u.1) (vA (vA (vA A 23 u.2.1) 24 u.2.2.1) 25 u.2.2.2) D B)))) (by decide) (by simp [lg_sl, Value.category]) ?_
  intro p e s m args below meth c ls A0 hx hb hml hr hlk hown hmn ht hK hP hD hS hA hl
  have hl : lv_has ls 2 [(0, .ref h)] := hl
  refine lv_aload_n hx hb dX11_boys_0 rfl (lv_at hl 0 rfl) ?_
  refine getF (v := .ref (q 1)) hx hb ht hown hK hP iTX11 0 1 rfl rfl (by decide) fl_RX11_9 rfl dX11_boys_1 ?_
  refine lv_iconst (v := 4) hx hb dX11_boys_4 (by decide) ?_
  refine va_iald hx hb hK.1 hP 1 0 rfl rfl (show ¬ (_ ∨ _) by decide) dX11_boys_5 ?_
  refine W.eq (g2 := F0 m 6 ls [.int (A 1 4)]) rfl ?_
  have zf1 : (0 : Int) ≤ (A 1 4).toInt ∧ (A 1 4).toInt ≤ 7 := (hI.2 1 4)
  refine lv_if_ne (tgt := 12) hx hb dX11_boys_6 (by decide) (fun c2 => ?_) (fun c2 => ?_)
  · have zc2 := neK rfl (show (0 : Int32).toInt = 0 by decide) c2
    refine lv_iconst (v := 0) hx hb dX11_boys_12 (by decide) ?_
    refine lv_istore_n (lv' := [(1, .int 0), (0, .ref h)]) hx hb dX11_boys_13 rfl hl (by decide) rfl (fun ls hl => ?_)
    have B14 : ∀ (n : Nat) (x14_1 : Int32) (f26_14 : Int32) (a23_14 : (Nat → Int32)) (a24_14 : (Nat → Int32)) (a25_14 : (Nat → Int32)) (H : Heap) (locs : List Loc) (ls : Array Slot), (7 - x14_1.toInt).toNat < n → (0 : Int) ≤ x14_1.toInt ∧ x14_1.toInt ≤ 7 → (0 : Int) ≤ f26_14.toInt ∧ f26_14.toInt ≤ 6272 → va_P G vwCl (mS cs h q (upd F 26 f26_14) (vA (vA (vA A 23 a23_14) 24 a24_14) 25 a25_14) D B) H → va_D A0 (mS cs h q (upd F 26 f26_14) (vA (vA (vA A 23 a23_14) 24 a24_14) 25 a25_14) D B) → va_S A0 s.heap H locs → lv_has ls 2 [(0, .ref h), (1, .int x14_1)] → W p l e (rmk 4 0 0) s m args below meth c H locs 0 0 (MQ below ((QDi G (fun (r : Int32) (u : Int32 × (Nat → Int32) × (Nat → Int32) × (Nat → Int32)) => ((0 : Int) ≤ u.1.toInt ∧ u.1.toInt ≤ 6272) ∧ (True)) (fun u : Int32 × (Nat → Int32) × (Nat → Int32) × (Nat → Int32) => (mS cs h q (upd F 26 u.1) (vA (vA (vA A 23 u.2.1) 24 u.2.2.1) 25 u.2.2.2) D B))) A0) args s 0 0 A0) (F0 m 14 ls []) := by
      intro n
      induction n with
      | zero => intro x14_1 f26_14 a23_14 a24_14 a25_14 H locs ls hmeas hx14_1 hf26_14 hP hD hS hl; exact absurd hmeas (Nat.not_lt_zero _)
      | succ n ih14 =>
        intro x14_1 f26_14 a23_14 a24_14 a25_14 H locs ls hmeas hx14_1 hf26_14 hP hD hS hl
        refine lv_iload_n hx hb dX11_boys_14 rfl (lv_at hl 1 rfl) ?_
        refine lv_aload_n hx hb dX11_boys_15 rfl (lv_at hl 0 rfl) ?_
        refine getF (v := .ref (q 1)) hx hb ht hown hK hP iTX11 0 1 rfl rfl (by decide) fl_RX11_9 rfl dX11_boys_16 ?_
        refine lv_iconst (v := 4) hx hb dX11_boys_19 (by decide) ?_
        refine va_iald hx hb hK.1 hP 1 0 rfl rfl (show ¬ (_ ∨ _) by decide) dX11_boys_20 ?_
        refine W.eq (g2 := F0 m 21 ls [.int (A 1 4), .int x14_1]) rfl ?_
        have zf10001 : (0 : Int) ≤ (A 1 4).toInt ∧ (A 1 4).toInt ≤ 7 := (hI.2 1 4)
        refine lv_icmp_ge (tgt := 43) hx hb dX11_boys_21 (by decide) (fun c10002 => ?_) (fun c10002 => ?_)
        · have zc10002 := leK rfl rfl c10002
          refine lv_aload_n hx hb dX11_boys_43 rfl (lv_at hl 0 rfl) ?_
          refine behDi (wr := []) (runVD (As := []) (rest := []) ⟨hx, hb, hml, hown, ht⟩ (sX11_pairs l G cs h q (upd F 26 f26_14) (vA (vA (vA A 23 a23_14) 24 a24_14) 25 a25_14) D B (IM_arr (k := 25) (IM_arr (k := 24) (IM_arr (k := 23) (IM_put (k := 26) hI (show (0 : Int) ≤ f26_14.toInt ∧ f26_14.toInt ≤ 6272 by omega)) (fun _ => i32b _)) (fun _ => i32b _)) (fun _ => i32b _))  ) okV_RX11_363 ⟨by decide, by decide⟩ hK hP hD [0, 1, 2, 3, 4, 5, 6, 7, 8, 9, 10, 11, 12, 13, 14, 15, 16, 17, 18, 19] rfl (by decide) rfl 0 rfl rfl hl.1 rfl (Nat.le_of_ble_eq_true rfl) dX11_boys_44 ⟨(Nat.le_of_ble_eq_true rfl), (Nat.le_of_ble_eq_true rfl)⟩) hP hD hS hA [0, 1, 2, 3, 4, 5, 6, 7, 8, 9, 10, 11, 12, 13, 14, 15, 16, 17, 18, 19] [] rfl rfl (by decide) (by decide) (fun r9 u H locs hu hP hD hS => ?_)
          obtain ⟨x10003, g10004, g10005, g10006⟩ := u
          obtain ⟨r10007, rfl⟩ : ∃ z, z = r9 := ⟨_, rfl⟩
          obtain ⟨hbx10003, hr10007⟩ := hu
          have hbx10003 : (0 : Int) ≤ x10003.toInt ∧ x10003.toInt ≤ 6272 := hbx10003
          have hP : va_P G vwCl (mS cs h q (upd F 26 x10003) (vA (vA (vA A 23 g10004) 24 g10005) 25 g10006) D B) H := hP
          have hD : va_D A0 (mS cs h q (upd F 26 x10003) (vA (vA (vA A 23 g10004) 24 g10005) 25 g10006) D B) := hD
          refine lv_if_le (tgt := 54) hx hb dX11_boys_47 (by decide) (fun c10008 => ?_) (fun c10008 => ?_)
          · have zc10008 := leK rfl (show (0 : Int32).toInt = 0 by decide) c10008
            refine lv_iconst (v := 3) hx hb dX11_boys_54 (by decide) ?_
            exact retDi (x10003, g10004, g10005, g10006) hx hb hr hlk hP hD hS dX11_boys_55 (⟨show (0 : Int) ≤ x10003.toInt ∧ x10003.toInt ≤ 6272 by omega, trivial⟩) (Nat.le_of_ble_eq_true rfl) (Nat.le_of_ble_eq_true rfl)
          · have zc10008 := nleK rfl (show (0 : Int32).toInt = 0 by decide) c10008
            refine lv_iconst (v := 2) hx hb dX11_boys_50 (by decide) ?_
            refine lv_goto (tgt := 55) hx hb dX11_boys_51 (by decide) ?_
            exact retDi (x10003, g10004, g10005, g10006) hx hb hr hlk hP hD hS dX11_boys_55 (⟨show (0 : Int) ≤ x10003.toInt ∧ x10003.toInt ≤ 6272 by omega, trivial⟩) (Nat.le_of_ble_eq_true rfl) (Nat.le_of_ble_eq_true rfl)
        · have zc10002 := nleK rfl rfl c10002
          refine lv_aload_n hx hb dX11_boys_24 rfl (lv_at hl 0 rfl) ?_
          refine lv_iload_n hx hb dX11_boys_25 rfl (lv_at hl 1 rfl) ?_
          refine lv_iload_n hx hb dX11_boys_26 rfl (lv_at hl 1 rfl) ?_
          refine lv_iconst (v := 1) hx hb dX11_boys_27 (by decide) ?_
          refine behDi (wr := []) (runVD (As := [.int x14_1, .int x14_1, .int 1]) (rest := []) ⟨hx, hb, hml, hown, ht⟩ (sX11_chase l G cs h q (upd F 26 f26_14) (vA (vA (vA A 23 a23_14) 24 a24_14) 25 a25_14) D B (IM_arr (k := 25) (IM_arr (k := 24) (IM_arr (k := 23) (IM_put (k := 26) hI (show (0 : Int) ≤ f26_14.toInt ∧ f26_14.toInt ≤ 6272 by omega)) (fun _ => i32b _)) (fun _ => i32b _)) (fun _ => i32b _)) x14_1 x14_1 1 (by omega) (by omega) (by decide)) okV_RX11_356 ⟨by decide, by decide⟩ hK hP hD [0, 1, 2, 3, 4, 5, 6, 7, 8, 9, 10, 11, 12, 13, 14, 15, 16, 17, 18, 19] rfl (by decide) rfl 0 rfl rfl hl.1 rfl (Nat.le_of_ble_eq_true rfl) dX11_boys_28 ⟨(Nat.le_of_ble_eq_true rfl), (Nat.le_of_ble_eq_true rfl)⟩) hP hD hS hA [0, 1, 2, 3, 4, 5, 6, 7, 8, 9, 10, 11, 12, 13, 14, 15, 16, 17, 18, 19] [] rfl rfl (by decide) (by decide) (fun r9 u H locs hu hP hD hS => ?_)
          obtain ⟨x10009, g10010, g10011, g10012⟩ := u
          have kk10014 : (1 : Int32).toInt = 1 := by decide
          obtain ⟨r10013, rfl⟩ : ∃ z, z = r9 := ⟨_, rfl⟩
          obtain ⟨hbx10009, hr10013⟩ := hu
          have hbx10009 : (0 : Int) ≤ x10009.toInt ∧ x10009.toInt ≤ 6272 := hbx10009
          have hr10013 : CI g10010 g10011 g10012 x10009 ∧ (r10013.toInt = -1 ∨ (0 ≤ r10013.toInt ∧ r10013.toInt ≤ 6271 ∧ 0 ≤ (g10011 r10013.toNatClampNeg).toInt)) := hr10013
          have hP : va_P G vwCl (mS cs h q (upd F 26 x10009) (vA (vA (vA A 23 g10010) 24 g10011) 25 g10012) D B) H := hP
          have hD : va_D A0 (mS cs h q (upd F 26 x10009) (vA (vA (vA A 23 g10010) 24 g10011) 25 g10012) D B) := hD
          refine lv_iconst (v := (-1)) hx hb dX11_boys_31 (by decide) ?_
          refine lv_icmp_eq (tgt := 37) hx hb dX11_boys_32 (by decide) (fun c10015 => ?_) (fun c10015 => ?_)
          · have zc10015 := eqK rfl (show (-1 : Int32).toInt = (-1) by decide) c10015
            obtain ⟨v10016, ev10016⟩ : ∃ z : Int32, z = x14_1 + 1 := ⟨_, rfl⟩
            have tv10016 : v10016.toInt = x14_1.toInt + 1 := by rw [ev10016]; exact addT rfl (by decide) (by omega)
            refine lv_iinc (v := v10016) (lv' := [(1, .int v10016), (0, .ref h)]) hx hb dX11_boys_37 hl (k := 1) rfl (by rw [ev10016]; rfl) (by decide) rfl (fun ls hl => ?_)
            refine lv_goto (tgt := 14) hx hb dX11_boys_40 (by decide) ?_
            exact ih14 v10016 x10009 g10010 g10011 g10012 H locs ls (by omega) (by omega) (by omega) hP hD hS (lv_sub hl [1, 0] rfl)
          · have zc10015 := neK rfl (show (-1 : Int32).toInt = (-1) by decide) c10015
            refine lv_iconst (v := 1) hx hb dX11_boys_35 (by decide) ?_
            exact retDi (x10009, g10010, g10011, g10012) hx hb hr hlk hP hD hS dX11_boys_36 (⟨show (0 : Int) ≤ x10009.toInt ∧ x10009.toInt ≤ 6272 by omega, trivial⟩) (Nat.le_of_ble_eq_true rfl) (Nat.le_of_ble_eq_true rfl)
    exact B14 _ 0 (F 26) (A 23) (A 24) (A 25) s.heap [] ls (Nat.lt_succ_self _) (by decide) (hI.1 26) hP hD hS (lv_sub hl [1, 0] rfl)
  · have zc2 := eqK rfl (show (0 : Int32).toInt = 0 by decide) c2
    refine lv_bipush (v := (-2)) hx hb dX11_boys_9 (by decide) ?_
    exact retDi ((F 26), (A 23), (A 24), (A 25)) hx hb hr hlk hP hD hS dX11_boys_11 (⟨hI.1 26, trivial⟩) (Nat.le_of_ble_eq_true rfl) (Nat.le_of_ble_eq_true rfl)

set_option maxRecDepth 100000 in
set_option maxHeartbeats 8000000 in
theorem sX11_asksHabit (l : Launch) (G : va_G) (cs : Nat → ClassId) (h : Nat) (q : Nat → Nat) (F : Nat → Int32) (A : Nat → Nat → Int32) (D : Int64) (B : Nat → Nat → Int64) (hI : IM F A) (a1 : Int32) (a2 : Int32) (ha2 : (0 : Int) ≤ a2.toInt ∧ a2.toInt ≤ 1) : SafeR l yX11_asksHabit cX11_asksHabit 4 (some .int) 2 G (TY cs) [.ref h, .int a1, .int a2] (mS cs h q F A D B) (fun r : Int32 => (r.toInt = -2 ∨ r.toInt = -6 ∨ (r.toInt = 0 ∧ 0 ≤ a1.toInt ∧ a1.toInt ≤ 3 ∧ 0 ≤ (A 31 a1.toNatClampNeg).toInt ∧ a2.toInt = 1)) ∧ (r.toInt = 0 → RV B a1 (A 31 a1.toNatClampNeg).toInt)) := by
  refine mkP (Qc := QRi (fun r : Int32 => (r.toInt = -2 ∨ r.toInt = -6 ∨ (r.toInt = 0 ∧ 0 ≤ a1.toInt ∧ a1.toInt ≤ 3 ∧ 0 ≤ (A 31 a1.toNatClampNeg).toInt ∧ a2.toInt = 1)) ∧ (r.toInt = 0 → RV B a1 (A 31 a1.toNatClampNeg).toInt))) (by decide) (by simp [lg_sl, Value.category]) ?_
  intro p e s m args below meth c ls hx hb hml hr hlk hown ht hK hP hS hl
  have hl : lv_has ls 4 [(0, .ref h), (1, .int a1), (2, .int a2)] := hl
  refine lv_iload_n hx hb dX11_asksHabit_0 rfl (lv_at hl 1 rfl) ?_
  refine behR (runSP (As := [.int a1]) (rest := []) ⟨hx, hb, hml, hown, ht⟩ (sX11_isSlot l G cs a1 ) okS_RX11_290 ⟨by decide, by decide⟩ hK hP [] rfl hl.1 rfl (Nat.le_of_ble_eq_true rfl) dX11_asksHabit_1 ⟨by decide, by decide⟩) hP hS (fun _ h => h) (fun r1 H locs hr1 hP hS => ?_)
  have hr1 : (r1.toInt = 1 ∧ 0 ≤ a1.toInt ∧ a1.toInt ≤ 3) ∨ (r1.toInt = 0 ∧ (a1.toInt < 0 ∨ 3 < a1.toInt)) := hr1
  refine lv_if_eq (tgt := 18) hx hb dX11_asksHabit_4 (by decide) (fun c2 => ?_) (fun c2 => ?_)
  · have zc2 := eqK rfl (show (0 : Int32).toInt = 0 by decide) c2
    refine lv_bipush (v := (-2)) hx hb dX11_asksHabit_18 (by decide) ?_
    exact retRi hx hb hr hlk hS dX11_asksHabit_20 (⟨by have kk : (-2 : Int32).toInt = -2 := (by decide); omega, fun q9 => absurd q9 (by have kk : (-2 : Int32).toInt = -2 := (by decide); omega)⟩)
  · have zc2 := neK rfl (show (0 : Int32).toInt = 0 by decide) c2
    refine lv_aload_n hx hb dX11_asksHabit_7 rfl (lv_at hl 0 rfl) ?_
    refine behR (runVP (As := []) (rest := []) ⟨hx, hb, hml, hown, ht⟩ (sX11_isHouse l G cs h q F A D B hI  ) okV_RX11_83 ⟨by decide, by decide⟩ hK hP [0, 1, 2, 3, 4, 5, 6, 7, 8, 9, 10, 11, 12, 13, 14, 15, 16, 17, 18, 19] rfl 0 rfl rfl hl.1 rfl (Nat.le_of_ble_eq_true rfl) dX11_asksHabit_8 ⟨by decide, by decide⟩) hP hS (fun _ h => h) (fun r3 H locs hr3 hP hS => ?_)
    have hr3 : (0 : Int) ≤ r3.toInt ∧ r3.toInt ≤ 1 := hr3
    refine lv_if_eq (tgt := 18) hx hb dX11_asksHabit_11 (by decide) (fun c4 => ?_) (fun c4 => ?_)
    · have zc4 := eqK rfl (show (0 : Int32).toInt = 0 by decide) c4
      refine lv_bipush (v := (-2)) hx hb dX11_asksHabit_18 (by decide) ?_
      exact retRi hx hb hr hlk hS dX11_asksHabit_20 (⟨by have kk : (-2 : Int32).toInt = -2 := (by decide); omega, fun q9 => absurd q9 (by have kk : (-2 : Int32).toInt = -2 := (by decide); omega)⟩)
    · have zc4 := neK rfl (show (0 : Int32).toInt = 0 by decide) c4
      refine lv_iload_n hx hb dX11_asksHabit_14 rfl (lv_at hl 2 rfl) ?_
      refine lv_if_ne (tgt := 21) hx hb dX11_asksHabit_15 (by decide) (fun c5 => ?_) (fun c5 => ?_)
      · have zc5 := neK rfl (show (0 : Int32).toInt = 0 by decide) c5
        refine lv_aload_n hx hb dX11_asksHabit_21 rfl (lv_at hl 0 rfl) ?_
        refine getF (v := .ref (q 31)) hx hb ht hown hK hP iTX11 0 31 rfl rfl (by decide) fl_RX11_61 rfl dX11_asksHabit_22 ?_
        refine lv_iload_n hx hb dX11_asksHabit_25 rfl (lv_at hl 1 rfl) ?_
        refine va_iald hx hb hK.1 hP 16 0 rfl rfl (inK rfl (by omega) (by decide)) dX11_asksHabit_26 ?_
        refine lv_topi (fun v6 ev6 => ?_)
        have zf7 : (-1 : Int) ≤ v6.toInt ∧ v6.toInt ≤ 60 := by rw [ev6]; exact (hI.2 31 _)
        have nv6 : v6.toInt = (A 31 a1.toNatClampNeg).toInt := congrArg Int32.toInt ev6
        refine lv_iconst (v := (-1)) hx hb dX11_asksHabit_27 (by decide) ?_
        refine lv_icmp_ne (tgt := 34) hx hb dX11_asksHabit_28 (by decide) (fun c8 => ?_) (fun c8 => ?_)
        · have zc8 := neK rfl (show (-1 : Int32).toInt = (-1) by decide) c8
          refine lv_iconst (v := 0) hx hb dX11_asksHabit_34 (by decide) ?_
          refine lv_istore_n (lv' := [(3, .int 0), (0, .ref h), (1, .int a1), (2, .int a2)]) hx hb dX11_asksHabit_35 rfl hl (by decide) rfl (fun ls hl => ?_)
          have B36 : ∀ (n : Nat) (x36_3 : Int32) (H : Heap) (locs : List Loc) (ls : Array Slot), (60 - x36_3.toInt).toNat < n → (0 : Int) ≤ x36_3.toInt ∧ x36_3.toInt ≤ 60 → (RV B a1 x36_3.toInt) → va_P G vwCl (mS cs h q F A D B) H → va_S (fun q => s.heap.size ≤ q) s.heap H locs → lv_has ls 4 [(0, .ref h), (1, .int a1), (3, .int x36_3)] → W p l e (rmk 2 0 0) s m args below meth c H locs 0 0 (MQ below (QRi (fun r : Int32 => (r.toInt = -2 ∨ r.toInt = -6 ∨ (r.toInt = 0 ∧ 0 ≤ a1.toInt ∧ a1.toInt ≤ 3 ∧ 0 ≤ (A 31 a1.toNatClampNeg).toInt ∧ a2.toInt = 1)) ∧ (r.toInt = 0 → RV B a1 (A 31 a1.toNatClampNeg).toInt)) s.heap.size) args s 0 0 (fun q => s.heap.size ≤ q)) (F0 m 36 ls []) := by
            intro n
            induction n with
            | zero => intro x36_3 H locs ls hmeas hx36_3 hinv hP hS hl; exact absurd hmeas (Nat.not_lt_zero _)
            | succ n ih36 =>
              intro x36_3 H locs ls hmeas hx36_3 hinv hP hS hl
              refine lv_iload_n hx hb dX11_asksHabit_36 rfl (lv_at hl 2 rfl) ?_
              refine lv_aload_n hx hb dX11_asksHabit_37 rfl (lv_at hl 0 rfl) ?_
              refine getF (v := .ref (q 31)) hx hb ht hown hK hP iTX11 0 31 rfl rfl (by decide) fl_RX11_61 rfl dX11_asksHabit_38 ?_
              refine lv_iload_n hx hb dX11_asksHabit_41 rfl (lv_at hl 1 rfl) ?_
              refine va_iald hx hb hK.1 hP 16 0 rfl rfl (inK rfl (by omega) (by decide)) dX11_asksHabit_42 ?_
              refine lv_topi (fun v19001 ev19001 => ?_)
              have zf19002 : (-1 : Int) ≤ v19001.toInt ∧ v19001.toInt ≤ 60 := by rw [ev19001]; exact (hI.2 31 _)
              have nv19001 : v19001.toInt = (A 31 a1.toNatClampNeg).toInt := congrArg Int32.toInt ev19001
              refine lv_icmp_ge (tgt := 68) hx hb dX11_asksHabit_43 (by decide) (fun c19003 => ?_) (fun c19003 => ?_)
              · have zc19003 := leK rfl rfl c19003
                refine lv_iconst (v := 0) hx hb dX11_asksHabit_68 (by decide) ?_
                exact retRi hx hb hr hlk hS dX11_asksHabit_69 (⟨by have kk : (0 : Int32).toInt = 0 := (by decide); rw [← ev19001]; omega, fun _ => RVle hinv (by rw [← ev19001]; omega)⟩)
              · have zc19003 := nleK rfl rfl c19003
                refine lv_aload_n hx hb dX11_asksHabit_46 rfl (lv_at hl 0 rfl) ?_
                refine lv_aload_n hx hb dX11_asksHabit_47 rfl (lv_at hl 0 rfl) ?_
                refine lv_iload_n hx hb dX11_asksHabit_48 rfl (lv_at hl 1 rfl) ?_
                refine lv_iload_n hx hb dX11_asksHabit_49 rfl (lv_at hl 2 rfl) ?_
                refine behRL (runVP (As := [.int a1, .int x36_3]) (rest := [.ref h]) ⟨hx, hb, hml, hown, ht⟩ (sX11_numberAt l G cs h q F A D B hI a1 x36_3 (by omega) (by omega)) okV_RX11_286 ⟨by decide, by decide⟩ hK hP [0, 1, 2, 3, 4, 5, 6, 7, 8, 9, 10, 11, 12, 13, 14, 15, 16, 17, 18, 19] rfl 0 rfl rfl hl.1 rfl (Nat.le_of_ble_eq_true rfl) dX11_asksHabit_50 ⟨by decide, by decide⟩) hP hS (fun _ h => h) (fun r19004 H locs hr19004 hP hS => ?_)
                have hr19004 : r19004 = B 33 (60 * a1.toNatClampNeg + x36_3.toNatClampNeg) := hr19004
                refine behR (runVP (As := [.long r19004]) (rest := []) ⟨hx, hb, hml, hown, ht⟩ (sX11_isRoom l G cs h q F A D B hI r19004 ) okV_RX11_89 ⟨by decide, by decide⟩ hK hP [0, 1, 2, 3, 4, 5, 6, 7, 8, 9, 10, 11, 12, 13, 14, 15, 16, 17, 18, 19] rfl 0 rfl rfl hl.1 rfl (Nat.le_of_ble_eq_true rfl) dX11_asksHabit_53 ⟨by decide, by decide⟩) hP hS (fun _ h => h) (fun r19005 H locs hr19005 hP hS => ?_)
                have hr19005 : (r19005.toInt = 1 ∧ 0 ≤ r19004.toInt ∧ r19004.toInt < (A 1 4).toInt ∧ r19004.toInt ≤ 6 ∧ (A 1 4).toInt ≤ 7) ∨ r19005.toInt = 0 := hr19005
                refine lv_if_ne (tgt := 62) hx hb dX11_asksHabit_56 (by decide) (fun c19006 => ?_) (fun c19006 => ?_)
                · have zc19006 := neK rfl (show (0 : Int32).toInt = 0 by decide) c19006
                  obtain ⟨v19007, ev19007⟩ : ∃ z : Int32, z = x36_3 + 1 := ⟨_, rfl⟩
                  have tv19007 : v19007.toInt = x36_3.toInt + 1 := by rw [ev19007]; exact addT rfl (by decide) (by omega)
                  refine lv_iinc (v := v19007) (lv' := [(3, .int v19007), (0, .ref h), (1, .int a1)]) hx hb dX11_asksHabit_62 hl (k := 2) rfl (by rw [ev19007]; rfl) (by decide) rfl (fun ls hl => ?_)
                  refine lv_goto (tgt := 36) hx hb dX11_asksHabit_65 (by decide) ?_
                  exact ih36 v19007 H locs ls (by omega) (by omega) (RVs hinv tv19007 (clK rfl (by omega)) (by rw [← hr19004]; omega)) hP hS (lv_sub hl [1, 2, 0] rfl)
                · have zc19006 := eqK rfl (show (0 : Int32).toInt = 0 by decide) c19006
                  refine lv_bipush (v := (-2)) hx hb dX11_asksHabit_59 (by decide) ?_
                  exact retRi hx hb hr hlk hS dX11_asksHabit_61 (⟨by have kk : (-2 : Int32).toInt = -2 := (by decide); omega, fun q9 => absurd q9 (by have kk : (-2 : Int32).toInt = -2 := (by decide); omega)⟩)
          exact B36 _ 0 H locs ls (Nat.lt_succ_self _) (by decide) (RV0 (by decide)) hP hS (lv_sub hl [1, 2, 0] rfl)
        · have zc8 := eqK rfl (show (-1 : Int32).toInt = (-1) by decide) c8
          refine lv_bipush (v := (-6)) hx hb dX11_asksHabit_31 (by decide) ?_
          exact retRi hx hb hr hlk hS dX11_asksHabit_33 (⟨by have kk : (-6 : Int32).toInt = -6 := (by decide); omega, fun q9 => absurd q9 (by have kk : (-6 : Int32).toInt = -6 := (by decide); omega)⟩)
      · have zc5 := eqK rfl (show (0 : Int32).toInt = 0 by decide) c5
        refine lv_bipush (v := (-2)) hx hb dX11_asksHabit_18 (by decide) ?_
        exact retRi hx hb hr hlk hS dX11_asksHabit_20 (⟨by have kk : (-2 : Int32).toInt = -2 := (by decide); omega, fun q9 => absurd q9 (by have kk : (-2 : Int32).toInt = -2 := (by decide); omega)⟩)

set_option maxRecDepth 100000 in
set_option maxHeartbeats 8000000 in
theorem sX11_habit (l : Launch) (G : va_G) (cs : Nat → ClassId) (h : Nat) (q : Nat → Nat) (F : Nat → Int32) (A : Nat → Nat → Int32) (D : Int64) (B : Nat → Nat → Int64) (hI : IM F A) (a1 : Int32) : SafeR l yX11_habit cX11_habit 3 (some .int) 3 G (TY cs) [.ref h, .int a1] (mS cs h q F A D B) (fun r : Int32 => True) := by
  refine mkP (Qc := QRi (fun r : Int32 => True)) (by decide) (by simp [lg_sl, Value.category]) ?_
  intro p e s m args below meth c ls hx hb hml hr hlk hown ht hK hP hS hl
  have hl : lv_has ls 3 [(0, .ref h), (1, .int a1)] := hl
  refine lv_aload_n hx hb dX11_habit_0 rfl (lv_at hl 0 rfl) ?_
  refine lv_iload_n hx hb dX11_habit_1 rfl (lv_at hl 1 rfl) ?_
  refine lv_iconst (v := 1) hx hb dX11_habit_2 (by decide) ?_
  refine behR (runVP (As := [.int a1, .int 1]) (rest := []) ⟨hx, hb, hml, hown, ht⟩ (sX11_asksHabit l G cs h q F A D B hI a1 1 (by decide)) okV_RX11_406 ⟨by decide, by decide⟩ hK hP [0, 1, 2, 3, 4, 5, 6, 7, 8, 9, 10, 11, 12, 13, 14, 15, 16, 17, 18, 19] rfl 0 rfl rfl hl.1 rfl (Nat.le_of_ble_eq_true rfl) dX11_habit_3 ⟨by decide, by decide⟩) hP hS (fun _ h => h) (fun r1 H locs hr1 hP hS => ?_)
  have kk2 : (1 : Int32).toInt = 1 := by decide
  have hr1 : (r1.toInt = -2 ∨ r1.toInt = -6 ∨ (r1.toInt = 0 ∧ 0 ≤ a1.toInt ∧ a1.toInt ≤ 3 ∧ 0 ≤ (A 31 a1.toNatClampNeg).toInt ∧ (1 : Int32).toInt = 1)) ∧ (r1.toInt = 0 → RV B a1 (A 31 a1.toNatClampNeg).toInt) := hr1
  obtain ⟨hr1, gr1⟩ := hr1
  refine lv_istore_n (lv' := [(2, .int r1), (0, .ref h), (1, .int a1)]) hx hb dX11_habit_6 rfl hl (by decide) rfl (fun ls hl => ?_)
  refine lv_iload_n hx hb dX11_habit_7 rfl (lv_at hl 0 rfl) ?_
  refine lv_if_ge (tgt := 15) hx hb dX11_habit_8 (by decide) (fun c3 => ?_) (fun c3 => ?_)
  · have zc3 := leK (show (0 : Int32).toInt = 0 by decide) rfl c3
    refine lv_aload_n hx hb dX11_habit_15 rfl (lv_at hl 1 rfl) ?_
    refine lv_iload_n hx hb dX11_habit_16 rfl (lv_at hl 2 rfl) ?_
    refine lv_iconst (v := (-1)) hx hb dX11_habit_17 (by decide) ?_
    refine behR (runVP (As := [.int a1, .int (-1)]) (rest := []) ⟨hx, hb, hml, hown, ht⟩ (sX11_oftenest l G cs h q F A D B hI a1 (-1) (by omega)) okV_RX11_409 ⟨by decide, by decide⟩ hK hP [0, 1, 2, 3, 4, 5, 6, 7, 8, 9, 10, 11, 12, 13, 14, 15, 16, 17, 18, 19] rfl 0 rfl rfl hl.1 rfl (Nat.le_of_ble_eq_true rfl) dX11_habit_18 ⟨by decide, by decide⟩) hP hS (fun _ h => h) (fun r4 H locs hr4 hP hS => ?_)
    exact retRi hx hb hr hlk hS dX11_habit_21 (trivial)
  · have zc3 := nleK (show (0 : Int32).toInt = 0 by decide) rfl c3
    refine lv_iload_n hx hb dX11_habit_11 rfl (lv_at hl 0 rfl) ?_
    refine lv_goto (tgt := 21) hx hb dX11_habit_12 (by decide) ?_
    exact retRi hx hb hr hlk hS dX11_habit_21 (trivial)

