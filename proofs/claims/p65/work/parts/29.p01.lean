set_option maxRecDepth 100000 in
set_option maxHeartbeats 8000000 in
theorem sX11_number (l : Launch) (G : va_G) (cs : Nat → ClassId) (h : Nat) (q : Nat → Nat) (F : Nat → Int32) (A : Nat → Nat → Int32) (D : Int64) (B : Nat → Nat → Int64) (hI : IM F A) (a1 : Int32) (a2 : Int32) (hPI : PIk (F 8) (F 9) (F 10)) : ImpI l yX11_number cX11_number 4 (some .int) 2 0 0 G (TY cs) [.ref h, .int a1, .int a2] (mS cs h q F A D B) (fun (r : Int32) (u : Int32 × Int32 × Int32 × Int32 × Int32 × Int32) => ((0 : Int) ≤ u.1.toInt ∧ u.1.toInt ≤ 900) ∧ ((0 : Int) ≤ u.2.1.toInt ∧ u.2.1.toInt ≤ 900) ∧ ((0 : Int) ≤ u.2.2.1.toInt ∧ u.2.2.1.toInt ≤ 4) ∧ ((0 : Int) ≤ u.2.2.2.1.toInt ∧ u.2.2.2.1.toInt ≤ 99999) ∧ ((0 : Int) ≤ u.2.2.2.2.1.toInt ∧ u.2.2.2.2.1.toInt ≤ 3) ∧ ((-1 : Int) ≤ u.2.2.2.2.2.toInt ∧ u.2.2.2.2.2.toInt ≤ 900) ∧ (PIk u.1 u.2.1 u.2.2.1 ∧ ((F 9).toInt ≤ u.2.1.toInt) ∧ NMk u.2.2.2.2.1 (F 12) (F 9) u.2.1 r a1.toInt a2.toInt ∧ RBk r a1.toInt a2.toInt)) (fun u : Int32 × Int32 × Int32 × Int32 × Int32 × Int32 => (mS cs h q (upd (upd (upd (upd (upd (upd F 8 u.1) 9 u.2.1) 10 u.2.2.1) 11 u.2.2.2.1) 12 u.2.2.2.2.1) 13 u.2.2.2.2.2) A D B)) := by
  refine mkD (Qc := (QDi G (fun (r : Int32) (u : Int32 × Int32 × Int32 × Int32 × Int32 × Int32) => ((0 : Int) ≤ u.1.toInt ∧ u.1.toInt ≤ 900) ∧ ((0 : Int) ≤ u.2.1.toInt ∧ u.2.1.toInt ≤ 900) ∧ ((0 : Int) ≤ u.2.2.1.toInt ∧ u.2.2.1.toInt ≤ 4) ∧ ((0 : Int) ≤ u.2.2.2.1.toInt ∧ u.2.2.2.1.toInt ≤ 99999) ∧ ((0 : Int) ≤ u.2.2.2.2.1.toInt ∧ u.2.2.2.2.1.toInt ≤ 3) ∧ ((-1 : Int) ≤ u.2.2.2.2.2.toInt ∧ u.2.2.2.2.2.toInt ≤ 900) ∧ (PIk u.1 u.2.1 u.2.2.1 ∧ ((F 9).toInt ≤ u.2.1.toInt) ∧ NMk u.2.2.2.2.1 (F 12) (F 9) u.2.1 r a1.toInt a2.toInt ∧ RBk r a1.toInt a2.toInt)) (fun u : Int32 × Int32 × Int32 × Int32 × Int32 × Int32 => (mS cs h q (upd (upd (upd (upd (upd (upd F 8 u.1) 9 u.2.1) 10 u.2.2.1) 11 u.2.2.2.1) 12 u.2.2.2.2.1) 13 u.2.2.2.2.2) A D B)))) (by decide) (by simp [lg_sl, Value.category]) ?_
  intro p e s m args below meth c ls A0 hx hb hml hr hlk hown hmn ht hK hP hD hS hA hl
  have hl : lv_has ls 4 [(0, .ref h), (1, .int a1), (2, .int a2)] := hl
  have hpi : ((F 10).toInt = 0 ∨ (F 9).toInt < (F 8).toInt) ∧ (F 9).toInt ≤ (F 8).toInt := hPI
  refine lv_aload_n hx hb dX11_number_0 rfl (lv_at hl 0 rfl) ?_
  refine behR (runVP (As := []) (rest := []) ⟨hx, hb, hml, hown, ht⟩ (sX11_good l G cs h q F A D B hI  ) okV_RX11_133 ⟨by decide, by decide⟩ hK hP [0, 1, 2, 3, 4, 5, 6, 7, 8, 9, 10, 11, 12, 13, 14, 15, 16, 17, 18, 19] rfl 0 rfl rfl hl.1 rfl (Nat.le_of_ble_eq_true rfl) dX11_number_1 ⟨by decide, by decide⟩) hP hS hA (fun r1 H locs hr1 hP hS => ?_)
  have hr1 : (r1.toInt = 1 ∧ (F 12).toInt = 0) ∨ (r1.toInt = 0 ∧ ¬ (F 12).toInt = 0) := hr1
  have B20 : ∀ (f12_20 : Int32) (f13_20 : Int32) (H : Heap) (locs : List Loc) (ls : Array Slot), (0 : Int) ≤ f12_20.toInt ∧ f12_20.toInt ≤ 3 → (-1 : Int) ≤ f13_20.toInt ∧ f13_20.toInt ≤ 900 → (f12_20.toInt = 0 → ((F 12).toInt = 0 ∧ (F 10).toInt = 2)) → va_P G vwCl (mS cs h q (upd (upd F 12 f12_20) 13 f13_20) A D B) H → va_D A0 (mS cs h q (upd (upd F 12 f12_20) 13 f13_20) A D B) → va_S A0 s.heap H locs → lv_has ls 4 [(0, .ref h), (1, .int a1), (2, .int a2)] → W p l e (rmk 2 0 0) s m args below meth c H locs 0 0 (MQ below ((QDi G (fun (r : Int32) (u : Int32 × Int32 × Int32 × Int32 × Int32 × Int32) => ((0 : Int) ≤ u.1.toInt ∧ u.1.toInt ≤ 900) ∧ ((0 : Int) ≤ u.2.1.toInt ∧ u.2.1.toInt ≤ 900) ∧ ((0 : Int) ≤ u.2.2.1.toInt ∧ u.2.2.1.toInt ≤ 4) ∧ ((0 : Int) ≤ u.2.2.2.1.toInt ∧ u.2.2.2.1.toInt ≤ 99999) ∧ ((0 : Int) ≤ u.2.2.2.2.1.toInt ∧ u.2.2.2.2.1.toInt ≤ 3) ∧ ((-1 : Int) ≤ u.2.2.2.2.2.toInt ∧ u.2.2.2.2.2.toInt ≤ 900) ∧ (PIk u.1 u.2.1 u.2.2.1 ∧ ((F 9).toInt ≤ u.2.1.toInt) ∧ NMk u.2.2.2.2.1 (F 12) (F 9) u.2.1 r a1.toInt a2.toInt ∧ RBk r a1.toInt a2.toInt)) (fun u : Int32 × Int32 × Int32 × Int32 × Int32 × Int32 => (mS cs h q (upd (upd (upd (upd (upd (upd F 8 u.1) 9 u.2.1) 10 u.2.2.1) 11 u.2.2.2.1) 12 u.2.2.2.2.1) 13 u.2.2.2.2.2) A D B))) A0) args s 0 0 A0) (F0 m 20 ls []) := by
    intro f12_20 f13_20 H locs ls hf12_20 hf13_20 h20 hP hD hS hl
    refine lv_aload_n hx hb dX11_number_20 rfl (lv_at hl 0 rfl) ?_
    refine behR (runVP (As := []) (rest := []) ⟨hx, hb, hml, hown, ht⟩ (sX11_good l G cs h q (upd (upd F 12 f12_20) 13 f13_20) A D B (IM_put (k := 13) (IM_put (k := 12) hI (show (0 : Int) ≤ f12_20.toInt ∧ f12_20.toInt ≤ 3 by omega)) (show (-1 : Int) ≤ f13_20.toInt ∧ f13_20.toInt ≤ 900 by omega))  ) okV_RX11_133 ⟨by decide, by decide⟩ hK hP [0, 1, 2, 3, 4, 5, 6, 7, 8, 9, 10, 11, 12, 13, 14, 15, 16, 17, 18, 19] rfl 0 rfl rfl hl.1 rfl (Nat.le_of_ble_eq_true rfl) dX11_number_21 ⟨by decide, by decide⟩) hP hS hA (fun r11001 H locs hr11001 hP hS => ?_)
    have hr11001 : (r11001.toInt = 1 ∧ f12_20.toInt = 0) ∨ (r11001.toInt = 0 ∧ ¬ f12_20.toInt = 0) := hr11001
    have B47 : ∀ (f12_47 : Int32) (f13_47 : Int32) (H : Heap) (locs : List Loc) (ls : Array Slot), (0 : Int) ≤ f12_47.toInt ∧ f12_47.toInt ≤ 3 → (-1 : Int) ≤ f13_47.toInt ∧ f13_47.toInt ≤ 900 → (f12_47.toInt = 0 → ((F 12).toInt = 0 ∧ (F 10).toInt = 2 ∧ a1.toInt ≤ (F 11).toInt ∧ (F 11).toInt ≤ a2.toInt)) → va_P G vwCl (mS cs h q (upd (upd F 12 f12_47) 13 f13_47) A D B) H → va_D A0 (mS cs h q (upd (upd F 12 f12_47) 13 f13_47) A D B) → va_S A0 s.heap H locs → lv_has ls 4 [(0, .ref h)] → W p l e (rmk 2 0 0) s m args below meth c H locs 0 0 (MQ below ((QDi G (fun (r : Int32) (u : Int32 × Int32 × Int32 × Int32 × Int32 × Int32) => ((0 : Int) ≤ u.1.toInt ∧ u.1.toInt ≤ 900) ∧ ((0 : Int) ≤ u.2.1.toInt ∧ u.2.1.toInt ≤ 900) ∧ ((0 : Int) ≤ u.2.2.1.toInt ∧ u.2.2.1.toInt ≤ 4) ∧ ((0 : Int) ≤ u.2.2.2.1.toInt ∧ u.2.2.2.1.toInt ≤ 99999) ∧ ((0 : Int) ≤ u.2.2.2.2.1.toInt ∧ u.2.2.2.2.1.toInt ≤ 3) ∧ ((-1 : Int) ≤ u.2.2.2.2.2.toInt ∧ u.2.2.2.2.2.toInt ≤ 900) ∧ (PIk u.1 u.2.1 u.2.2.1 ∧ ((F 9).toInt ≤ u.2.1.toInt) ∧ NMk u.2.2.2.2.1 (F 12) (F 9) u.2.1 r a1.toInt a2.toInt ∧ RBk r a1.toInt a2.toInt)) (fun u : Int32 × Int32 × Int32 × Int32 × Int32 × Int32 => (mS cs h q (upd (upd (upd (upd (upd (upd F 8 u.1) 9 u.2.1) 10 u.2.2.1) 11 u.2.2.2.1) 12 u.2.2.2.2.1) 13 u.2.2.2.2.2) A D B))) A0) args s 0 0 A0) (F0 m 47 ls []) := by
      intro f12_47 f13_47 H locs ls hf12_47 hf13_47 h47 hP hD hS hl
      refine lv_aload_n hx hb dX11_number_47 rfl (lv_at hl 0 rfl) ?_
      refine behR (runVP (As := []) (rest := []) ⟨hx, hb, hml, hown, ht⟩ (sX11_good l G cs h q (upd (upd F 12 f12_47) 13 f13_47) A D B (IM_put (k := 13) (IM_put (k := 12) hI (show (0 : Int) ≤ f12_47.toInt ∧ f12_47.toInt ≤ 3 by omega)) (show (-1 : Int) ≤ f13_47.toInt ∧ f13_47.toInt ≤ 900 by omega))  ) okV_RX11_133 ⟨by decide, by decide⟩ hK hP [0, 1, 2, 3, 4, 5, 6, 7, 8, 9, 10, 11, 12, 13, 14, 15, 16, 17, 18, 19] rfl 0 rfl rfl hl.1 rfl (Nat.le_of_ble_eq_true rfl) dX11_number_48 ⟨by decide, by decide⟩) hP hS hA (fun r26001 H locs hr26001 hP hS => ?_)
      have hr26001 : (r26001.toInt = 1 ∧ f12_47.toInt = 0) ∨ (r26001.toInt = 0 ∧ ¬ f12_47.toInt = 0) := hr26001
      refine lv_if_ne (tgt := 56) hx hb dX11_number_51 (by decide) (fun c26002 => ?_) (fun c26002 => ?_)
      · have zc26002 := neK rfl (show (0 : Int32).toInt = 0 by decide) c26002
        refine lv_aload_n hx hb dX11_number_56 rfl (lv_at hl 0 rfl) ?_
        refine getF (v := .int (F 11)) hx hb ht hown hK hP iTX11 0 11 rfl rfl (by decide) fl_RX11_120 rfl dX11_number_57 ?_
        have zf26003 : (0 : Int) ≤ (F 11).toInt ∧ (F 11).toInt ≤ 99999 := hI.1 11
        refine lv_istore_n (lv' := [(3, .int (F 11)), (0, .ref h)]) hx hb dX11_number_60 rfl hl (by decide) rfl (fun ls hl => ?_)
        refine lv_aload_n hx hb dX11_number_61 rfl (lv_at hl 1 rfl) ?_
        refine behDw (wr := []) (runVD (As := []) (rest := []) ⟨hx, hb, hml, hown, ht⟩ (sX11_advance l G cs h q (upd (upd F 12 f12_47) 13 f13_47) A D B (IM_put (k := 13) (IM_put (k := 12) hI (show (0 : Int) ≤ f12_47.toInt ∧ f12_47.toInt ≤ 3 by omega)) (show (-1 : Int) ≤ f13_47.toInt ∧ f13_47.toInt ≤ 900 by omega))  ) okV_RX11_150 ⟨by decide, by decide⟩ hK hP hD [0, 1, 2, 3, 4, 5, 6, 7, 8, 9, 10, 11, 12, 13, 14, 15, 16, 17, 18, 19] rfl (by decide) rfl 0 rfl rfl hl.1 rfl (Nat.le_of_ble_eq_true rfl) dX11_number_62 ⟨(Nat.le_of_ble_eq_true rfl), (Nat.le_of_ble_eq_true rfl)⟩) hP hD hS hA [0, 1, 2, 3, 4, 5, 6, 7, 8, 9, 10, 11, 12, 13, 14, 15, 16, 17, 18, 19] [] rfl rfl (by decide) (by decide) (fun u H locs hu hP hD hS => ?_)
        obtain ⟨x26004, x26005, x26006, x26007⟩ := u
        obtain ⟨hbx26004, hbx26005, hbx26006, hbx26007, hr26008⟩ := hu
        have hbx26004 : (0 : Int) ≤ x26004.toInt ∧ x26004.toInt ≤ 900 := hbx26004
        have hbx26005 : (0 : Int) ≤ x26005.toInt ∧ x26005.toInt ≤ 900 := hbx26005
        have hbx26006 : (0 : Int) ≤ x26006.toInt ∧ x26006.toInt ≤ 4 := hbx26006
        have hbx26007 : (0 : Int) ≤ x26007.toInt ∧ x26007.toInt ≤ 99999 := hbx26007
        have hr26008 : (F 8).toInt ≤ x26005.toInt ∧ PIk x26004 x26005 x26006 := hr26008
        have hP : va_P G vwCl (mS cs h q (upd (upd (upd (upd (upd (upd F 8 x26004) 9 x26005) 10 x26006) 11 x26007) 12 f12_47) 13 f13_47) A D B) H := hP
        have hD : va_D A0 (mS cs h q (upd (upd (upd (upd (upd (upd F 8 x26004) 9 x26005) 10 x26006) 11 x26007) 12 f12_47) 13 f13_47) A D B) := hD
        refine lv_iload_n hx hb dX11_number_65 rfl (lv_at hl 0 rfl) ?_
        exact retDi (x26004, x26005, x26006, x26007, f12_47, f13_47) hx hb hr hlk hP hD hS dX11_number_66 (⟨show (0 : Int) ≤ x26004.toInt ∧ x26004.toInt ≤ 900 by omega, show (0 : Int) ≤ x26005.toInt ∧ x26005.toInt ≤ 900 by omega, show (0 : Int) ≤ x26006.toInt ∧ x26006.toInt ≤ 4 by omega, show (0 : Int) ≤ x26007.toInt ∧ x26007.toInt ≤ 99999 by omega, show (0 : Int) ≤ f12_47.toInt ∧ f12_47.toInt ≤ 3 by omega, show (-1 : Int) ≤ f13_47.toInt ∧ f13_47.toInt ≤ 900 by omega, ⟨hr26008.2, (show (F 9).toInt ≤ x26005.toInt by omega), fun q9 => ⟨(show (F 12).toInt = 0 by omega), (show (F 9).toInt < x26005.toInt by omega), (show a1.toInt ≤ (F 11).toInt by omega), (show (F 11).toInt ≤ a2.toInt by omega)⟩, Or.inr ⟨(show a1.toInt ≤ (F 11).toInt by omega), (show (F 11).toInt ≤ a2.toInt by omega)⟩⟩⟩) (Nat.le_of_ble_eq_true rfl) (Nat.le_of_ble_eq_true rfl)
      · have zc26002 := eqK rfl (show (0 : Int32).toInt = 0 by decide) c26002
        refine lv_iconst (v := 0) hx hb dX11_number_54 (by decide) ?_
        exact retDi ((F 8), (F 9), (F 10), (F 11), f12_47, f13_47) hx hb hr hlk hP hD hS dX11_number_55 (⟨hI.1 8, hI.1 9, hI.1 10, hI.1 11, show (0 : Int) ≤ f12_47.toInt ∧ f12_47.toInt ≤ 3 by omega, show (-1 : Int) ≤ f13_47.toInt ∧ f13_47.toInt ≤ 900 by omega, ⟨hPI, (show (F 9).toInt ≤ (F 9).toInt by omega), fun q9 => absurd (show f12_47.toInt = 0 from q9) (by omega), Or.inl (show (0 : Int32).toInt = 0 by decide)⟩⟩) (Nat.le_of_ble_eq_true rfl) (Nat.le_of_ble_eq_true rfl)
    refine lv_if_eq (tgt := 47) hx hb dX11_number_24 (by decide) (fun c11002 => ?_) (fun c11002 => ?_)
    · have zc11002 := eqK rfl (show (0 : Int32).toInt = 0 by decide) c11002
      exact B47 f12_20 f13_20 H locs ls (by omega) (by omega) (by have k0 : (0 : Int32).toInt = 0 := (by decide); have k1 : (1 : Int32).toInt = 1 := (by decide); omega) hP hD hS (lv_sub hl [0] rfl)
    · have zc11002 := neK rfl (show (0 : Int32).toInt = 0 by decide) c11002
      refine lv_aload_n hx hb dX11_number_27 rfl (lv_at hl 0 rfl) ?_
      refine getF (v := .int (F 11)) hx hb ht hown hK hP iTX11 0 11 rfl rfl (by decide) fl_RX11_120 rfl dX11_number_28 ?_
      have zf11003 : (0 : Int) ≤ (F 11).toInt ∧ (F 11).toInt ≤ 99999 := hI.1 11
      refine lv_i2l hx hb dX11_number_31 rfl ?_
      refine lv_topl (fun v11004 ev11004 => ?_)
      have tv11004 : v11004.toInt = (F 11).toInt := by rw [ev11004]; exact Int32.toInt_toInt64 _
      refine lv_iload_n hx hb dX11_number_32 rfl (lv_at hl 1 rfl) ?_
      refine lv_i2l hx hb dX11_number_33 rfl ?_
      have bb11005 := i32b a1
      refine lv_topl (fun v11006 ev11006 => ?_)
      have tv11006 : v11006.toInt = a1.toInt := by rw [ev11006]; exact Int32.toInt_toInt64 _
      refine lv_iload_n hx hb dX11_number_34 rfl (lv_at hl 2 rfl) ?_
      refine lv_i2l hx hb dX11_number_35 rfl ?_
      have bb11007 := i32b a2
      refine lv_topl (fun v11008 ev11008 => ?_)
      have tv11008 : v11008.toInt = a2.toInt := by rw [ev11008]; exact Int32.toInt_toInt64 _
      refine behR (runSP (As := [.long v11004, .long v11006, .long v11008]) (rest := []) ⟨hx, hb, hml, hown, ht⟩ (sX11_in l G cs v11004 v11006 v11008 ) okS_RX11_79 ⟨by decide, by decide⟩ hK hP [] rfl hl.1 rfl (Nat.le_of_ble_eq_true rfl) dX11_number_36 ⟨by decide, by decide⟩) hP hS hA (fun r11009 H locs hr11009 hP hS => ?_)
      have hr11009 : (r11009.toInt = 1 ∧ v11006.toInt ≤ v11004.toInt ∧ v11004.toInt ≤ v11008.toInt) ∨ (r11009.toInt = 0 ∧ (v11004.toInt < v11006.toInt ∨ v11008.toInt < v11004.toInt)) := hr11009
      refine lv_if_ne (tgt := 47) hx hb dX11_number_39 (by decide) (fun c11010 => ?_) (fun c11010 => ?_)
      · have zc11010 := neK rfl (show (0 : Int32).toInt = 0 by decide) c11010
        exact B47 f12_20 f13_20 H locs ls (by omega) (by omega) (by have k0 : (0 : Int32).toInt = 0 := (by decide); have k1 : (1 : Int32).toInt = 1 := (by decide); omega) hP hD hS (lv_sub hl [0] rfl)
      · have zc11010 := eqK rfl (show (0 : Int32).toInt = 0 by decide) c11010
        refine lv_aload_n hx hb dX11_number_42 rfl (lv_at hl 0 rfl) ?_
        refine lv_iconst (v := 2) hx hb dX11_number_43 (by decide) ?_
        refine behDw (wr := []) (runVD (As := [.int 2]) (rest := []) ⟨hx, hb, hml, hown, ht⟩ (sX11_errs l G cs h q (upd (upd F 12 f12_20) 13 f13_20) A D B (IM_put (k := 13) (IM_put (k := 12) hI (show (0 : Int) ≤ f12_20.toInt ∧ f12_20.toInt ≤ 3 by omega)) (show (-1 : Int) ≤ f13_20.toInt ∧ f13_20.toInt ≤ 900 by omega)) 2 (by decide)) okV_RX11_156 ⟨by decide, by decide⟩ hK hP hD [0, 1, 2, 3, 4, 5, 6, 7, 8, 9, 10, 11, 12, 13, 14, 15, 16, 17, 18, 19] rfl (by decide) rfl 0 rfl rfl hl.1 rfl (Nat.le_of_ble_eq_true rfl) dX11_number_44 ⟨(Nat.le_of_ble_eq_true rfl), (Nat.le_of_ble_eq_true rfl)⟩) hP hD hS hA [0, 1, 2, 3, 4, 5, 6, 7, 8, 9, 10, 11, 12, 13, 14, 15, 16, 17, 18, 19] [] rfl rfl (by decide) (by decide) (fun u H locs hu hP hD hS => ?_)
        obtain ⟨x11011, x11012⟩ := u
        have kk11014 : (2 : Int32).toInt = 2 := by decide
        obtain ⟨hbx11011, hbx11012, hr11013⟩ := hu
        have hbx11011 : (0 : Int) ≤ x11011.toInt ∧ x11011.toInt ≤ 3 := hbx11011
        have hbx11012 : (-1 : Int) ≤ x11012.toInt ∧ x11012.toInt ≤ 900 := hbx11012
        have hr11013 : ¬ x11011.toInt = 0 := hr11013
        have hP : va_P G vwCl (mS cs h q (upd (upd F 12 x11011) 13 x11012) A D B) H := hP
        have hD : va_D A0 (mS cs h q (upd (upd F 12 x11011) 13 x11012) A D B) := hD
        exact B47 x11011 x11012 H locs ls (by omega) (by omega) (by have k0 : (0 : Int32).toInt = 0 := (by decide); have k1 : (1 : Int32).toInt = 1 := (by decide); omega) hP hD hS (lv_sub hl [0] rfl)
  refine lv_if_eq (tgt := 20) hx hb dX11_number_4 (by decide) (fun c2 => ?_) (fun c2 => ?_)
  · have zc2 := eqK rfl (show (0 : Int32).toInt = 0 by decide) c2
    exact B20 (F 12) (F 13) H locs ls (hI.1 12) (hI.1 13) (by have k0 : (0 : Int32).toInt = 0 := (by decide); have k1 : (1 : Int32).toInt = 1 := (by decide); omega) hP hD hS (lv_sub hl [0, 1, 2] rfl)
  · have zc2 := neK rfl (show (0 : Int32).toInt = 0 by decide) c2
    refine lv_aload_n hx hb dX11_number_7 rfl (lv_at hl 0 rfl) ?_
    refine getF (v := .int (F 10)) hx hb ht hown hK hP iTX11 0 10 rfl rfl (by decide) fl_RX11_109 rfl dX11_number_8 ?_
    have zf3 : (0 : Int) ≤ (F 10).toInt ∧ (F 10).toInt ≤ 4 := hI.1 10
    refine lv_iconst (v := 2) hx hb dX11_number_11 (by decide) ?_
    refine lv_icmp_eq (tgt := 20) hx hb dX11_number_12 (by decide) (fun c4 => ?_) (fun c4 => ?_)
    · have zc4 := eqK rfl (show (2 : Int32).toInt = 2 by decide) c4
      exact B20 (F 12) (F 13) H locs ls (hI.1 12) (hI.1 13) (by have k0 : (0 : Int32).toInt = 0 := (by decide); have k1 : (1 : Int32).toInt = 1 := (by decide); omega) hP hD hS (lv_sub hl [0, 1, 2] rfl)
    · have zc4 := neK rfl (show (2 : Int32).toInt = 2 by decide) c4
      refine lv_aload_n hx hb dX11_number_15 rfl (lv_at hl 0 rfl) ?_
      refine lv_iconst (v := 1) hx hb dX11_number_16 (by decide) ?_
      refine behDw (wr := []) (runVD (As := [.int 1]) (rest := []) ⟨hx, hb, hml, hown, ht⟩ (sX11_errs l G cs h q F A D B hI 1 (by decide)) okV_RX11_156 ⟨by decide, by decide⟩ hK hP hD [0, 1, 2, 3, 4, 5, 6, 7, 8, 9, 10, 11, 12, 13, 14, 15, 16, 17, 18, 19] rfl (by decide) rfl 0 rfl rfl hl.1 rfl (Nat.le_of_ble_eq_true rfl) dX11_number_17 ⟨(Nat.le_of_ble_eq_true rfl), (Nat.le_of_ble_eq_true rfl)⟩) hP hD hS hA [0, 1, 2, 3, 4, 5, 6, 7, 8, 9, 10, 11, 12, 13, 14, 15, 16, 17, 18, 19] [] rfl rfl (by decide) (by decide) (fun u H locs hu hP hD hS => ?_)
      obtain ⟨x5, x6⟩ := u
      have kk8 : (1 : Int32).toInt = 1 := by decide
      obtain ⟨hbx5, hbx6, hr7⟩ := hu
      have hbx5 : (0 : Int) ≤ x5.toInt ∧ x5.toInt ≤ 3 := hbx5
      have hbx6 : (-1 : Int) ≤ x6.toInt ∧ x6.toInt ≤ 900 := hbx6
      have hr7 : ¬ x5.toInt = 0 := hr7
      have hP : va_P G vwCl (mS cs h q (upd (upd F 12 x5) 13 x6) A D B) H := hP
      have hD : va_D A0 (mS cs h q (upd (upd F 12 x5) 13 x6) A D B) := hD
      exact B20 x5 x6 H locs ls (by omega) (by omega) (by have k0 : (0 : Int32).toInt = 0 := (by decide); have k1 : (1 : Int32).toInt = 1 := (by decide); omega) hP hD hS (lv_sub hl [0, 1, 2] rfl)

set_option maxRecDepth 100000 in
set_option maxHeartbeats 8000000 in
theorem sX11_told (l : Launch) (G : va_G) (cs : Nat → ClassId) (sd : Nat → Nat × Nat) (h : Nat) (q : Nat → Nat) (F : Nat → Int32) (A : Nat → Nat → Int32) (D : Int64) (B : Nat → Nat → Int64) (hI : IM F A) (i : Nat) (hi : i < 15) (a2 : Int32) (a3 : Int32) (hPI : PIk (F 8) (F 9) (F 10)) : ∀ sz : Nat, Met l yX11_told (wk yX11_told cX11_told 4 (some .int)) (rmk 7 0 0) (PreDS SRM sd G (TY cs) [.ref h, .ref ((sd i).1), .int a2, .int a3] (mS cs h q F A D B) sz) ((QDi G (fun (r : Int32) (u : Int32 × Int32 × Int32 × Int32 × Int32 × Int32) => ((0 : Int) ≤ u.1.toInt ∧ u.1.toInt ≤ 900) ∧ ((0 : Int) ≤ u.2.1.toInt ∧ u.2.1.toInt ≤ 900) ∧ ((0 : Int) ≤ u.2.2.1.toInt ∧ u.2.2.1.toInt ≤ 4) ∧ ((0 : Int) ≤ u.2.2.2.1.toInt ∧ u.2.2.2.1.toInt ≤ 99999) ∧ ((0 : Int) ≤ u.2.2.2.2.1.toInt ∧ u.2.2.2.2.1.toInt ≤ 3) ∧ ((-1 : Int) ≤ u.2.2.2.2.2.toInt ∧ u.2.2.2.2.2.toInt ≤ 900) ∧ (PIk u.1 u.2.1 u.2.2.1 ∧ ((F 9).toInt ≤ u.2.1.toInt) ∧ NMk u.2.2.2.2.1 (F 12) (F 9) u.2.1 r a2.toInt a3.toInt ∧ RBk r a2.toInt a3.toInt)) (fun u : Int32 × Int32 × Int32 × Int32 × Int32 × Int32 => (mS cs h q (upd (upd (upd (upd (upd (upd F 8 u.1) 9 u.2.1) 10 u.2.2.1) 11 u.2.2.2.1) 12 u.2.2.2.2.1) 13 u.2.2.2.2.2) A D B))) (va_A (mS cs h q F A D B) sz)) 0 0 (va_A (mS cs h q F A D B) sz) := by
  refine mkDS (Qc := (QDi G (fun (r : Int32) (u : Int32 × Int32 × Int32 × Int32 × Int32 × Int32) => ((0 : Int) ≤ u.1.toInt ∧ u.1.toInt ≤ 900) ∧ ((0 : Int) ≤ u.2.1.toInt ∧ u.2.1.toInt ≤ 900) ∧ ((0 : Int) ≤ u.2.2.1.toInt ∧ u.2.2.1.toInt ≤ 4) ∧ ((0 : Int) ≤ u.2.2.2.1.toInt ∧ u.2.2.2.1.toInt ≤ 99999) ∧ ((0 : Int) ≤ u.2.2.2.2.1.toInt ∧ u.2.2.2.2.1.toInt ≤ 3) ∧ ((-1 : Int) ≤ u.2.2.2.2.2.toInt ∧ u.2.2.2.2.2.toInt ≤ 900) ∧ (PIk u.1 u.2.1 u.2.2.1 ∧ ((F 9).toInt ≤ u.2.1.toInt) ∧ NMk u.2.2.2.2.1 (F 12) (F 9) u.2.1 r a2.toInt a3.toInt ∧ RBk r a2.toInt a3.toInt)) (fun u : Int32 × Int32 × Int32 × Int32 × Int32 × Int32 => (mS cs h q (upd (upd (upd (upd (upd (upd F 8 u.1) 9 u.2.1) 10 u.2.2.1) 11 u.2.2.2.1) 12 u.2.2.2.2.1) 13 u.2.2.2.2.2) A D B)))) (by decide) (by simp [lg_sl, Value.category]) ?_
  intro p e s m args below meth c ls A0 hx hb hml hr hlk hown hmn ht hK hP hD hS hA hQ hl
  have hl : lv_has ls 4 [(0, .ref h), (1, .ref ((sd i).1)), (2, .int a2), (3, .int a3)] := hl
  refine lv_aload_n hx hb dX11_told_0 rfl (lv_at hl 0 rfl) ?_
  refine lv_aload_n hx hb dX11_told_1 rfl (lv_at hl 1 rfl) ?_
  refine behDw (wr := []) (runVDS (As := [.ref ((sd i).1)]) (rest := []) ⟨hx, hb, hml, hown, ht⟩ (sX11_needs l G cs sd h q F A D B hI i hi  (show PIk (F 8) (F 9) (F 10) from hPI)) okV_RX11_160 ⟨by decide, by decide⟩ hK hP hD hQ hS hA [0, 1, 2, 3, 4, 5, 6, 7, 8, 9, 10, 11, 12, 13, 14, 15, 16, 17, 18, 19] rfl (by decide) rfl 0 rfl rfl hl.1 rfl (Nat.le_of_ble_eq_true rfl) dX11_told_2 ⟨(Nat.le_of_ble_eq_true rfl), (Nat.le_of_ble_eq_true rfl)⟩) hP hD hS hA [0, 1, 2, 3, 4, 5, 6, 7, 8, 9, 10, 11, 12, 13, 14, 15, 16, 17, 18, 19] [] rfl rfl (by decide) (by decide) (fun u H locs hu hP hD hS => ?_)
  obtain ⟨x1, x2, x3, x4, x5, x6⟩ := u
  obtain ⟨hbx1, hbx2, hbx3, hbx4, hbx5, hbx6, hr7⟩ := hu
  have hbx1 : (0 : Int) ≤ x1.toInt ∧ x1.toInt ≤ 900 := hbx1
  have hbx2 : (0 : Int) ≤ x2.toInt ∧ x2.toInt ≤ 900 := hbx2
  have hbx3 : (0 : Int) ≤ x3.toInt ∧ x3.toInt ≤ 4 := hbx3
  have hbx4 : (0 : Int) ≤ x4.toInt ∧ x4.toInt ≤ 99999 := hbx4
  have hbx5 : (0 : Int) ≤ x5.toInt ∧ x5.toInt ≤ 3 := hbx5
  have hbx6 : (-1 : Int) ≤ x6.toInt ∧ x6.toInt ≤ 900 := hbx6
  have hr7 : PIk x1 x2 x3 ∧ (F 9).toInt ≤ x2.toInt ∧ NDk x5 (F 12) (F 9) x2 := hr7
  have hP : va_P G vwCl (mS cs h q (upd (upd (upd (upd (upd (upd F 8 x1) 9 x2) 10 x3) 11 x4) 12 x5) 13 x6) A D B) H := hP
  have hD : va_D A0 (mS cs h q (upd (upd (upd (upd (upd (upd F 8 x1) 9 x2) 10 x3) 11 x4) 12 x5) 13 x6) A D B) := hD
  refine lv_aload_n hx hb dX11_told_5 rfl (lv_at hl 0 rfl) ?_
  refine lv_iload_n hx hb dX11_told_6 rfl (lv_at hl 2 rfl) ?_
  refine lv_iload_n hx hb dX11_told_7 rfl (lv_at hl 3 rfl) ?_
  refine behDi (wr := []) (runVD (As := [.int a2, .int a3]) (rest := []) ⟨hx, hb, hml, hown, ht⟩ (sX11_number l G cs h q (upd (upd (upd (upd (upd (upd F 8 x1) 9 x2) 10 x3) 11 x4) 12 x5) 13 x6) A D B (IM_put (k := 13) (IM_put (k := 12) (IM_put (k := 11) (IM_put (k := 10) (IM_put (k := 9) (IM_put (k := 8) hI (show (0 : Int) ≤ x1.toInt ∧ x1.toInt ≤ 900 by omega)) (show (0 : Int) ≤ x2.toInt ∧ x2.toInt ≤ 900 by omega)) (show (0 : Int) ≤ x3.toInt ∧ x3.toInt ≤ 4 by omega)) (show (0 : Int) ≤ x4.toInt ∧ x4.toInt ≤ 99999 by omega)) (show (0 : Int) ≤ x5.toInt ∧ x5.toInt ≤ 3 by omega)) (show (-1 : Int) ≤ x6.toInt ∧ x6.toInt ≤ 900 by omega)) a2 a3  (show PIk x1 x2 x3 from hr7.1)) okV_RX11_164 ⟨by decide, by decide⟩ hK hP hD [0, 1, 2, 3, 4, 5, 6, 7, 8, 9, 10, 11, 12, 13, 14, 15, 16, 17, 18, 19] rfl (by decide) rfl 0 rfl rfl hl.1 rfl (Nat.le_of_ble_eq_true rfl) dX11_told_8 ⟨(Nat.le_of_ble_eq_true rfl), (Nat.le_of_ble_eq_true rfl)⟩) hP hD hS hA [0, 1, 2, 3, 4, 5, 6, 7, 8, 9, 10, 11, 12, 13, 14, 15, 16, 17, 18, 19] [] rfl rfl (by decide) (by decide) (fun r9 u H locs hu hP hD hS => ?_)
  obtain ⟨x8, x9, x10, x11, x12, x13⟩ := u
  obtain ⟨r14, rfl⟩ : ∃ z, z = r9 := ⟨_, rfl⟩
  obtain ⟨hbx8, hbx9, hbx10, hbx11, hbx12, hbx13, hr14⟩ := hu
  have hbx8 : (0 : Int) ≤ x8.toInt ∧ x8.toInt ≤ 900 := hbx8
  have hbx9 : (0 : Int) ≤ x9.toInt ∧ x9.toInt ≤ 900 := hbx9
  have hbx10 : (0 : Int) ≤ x10.toInt ∧ x10.toInt ≤ 4 := hbx10
  have hbx11 : (0 : Int) ≤ x11.toInt ∧ x11.toInt ≤ 99999 := hbx11
  have hbx12 : (0 : Int) ≤ x12.toInt ∧ x12.toInt ≤ 3 := hbx12
  have hbx13 : (-1 : Int) ≤ x13.toInt ∧ x13.toInt ≤ 900 := hbx13
  have hr14 : PIk x8 x9 x10 ∧ (x2.toInt ≤ x9.toInt) ∧ NMk x12 x5 x2 x9 r14 a2.toInt a3.toInt ∧ RBk r14 a2.toInt a3.toInt := hr14
  have hP : va_P G vwCl (mS cs h q (upd (upd (upd (upd (upd (upd F 8 x8) 9 x9) 10 x10) 11 x11) 12 x12) 13 x13) A D B) H := hP
  have hD : va_D A0 (mS cs h q (upd (upd (upd (upd (upd (upd F 8 x8) 9 x9) 10 x10) 11 x11) 12 x12) 13 x13) A D B) := hD
  exact retDi (x8, x9, x10, x11, x12, x13) hx hb hr hlk hP hD hS dX11_told_11 (⟨show (0 : Int) ≤ x8.toInt ∧ x8.toInt ≤ 900 by omega, show (0 : Int) ≤ x9.toInt ∧ x9.toInt ≤ 900 by omega, show (0 : Int) ≤ x10.toInt ∧ x10.toInt ≤ 4 by omega, show (0 : Int) ≤ x11.toInt ∧ x11.toInt ≤ 99999 by omega, show (0 : Int) ≤ x12.toInt ∧ x12.toInt ≤ 3 by omega, show (-1 : Int) ≤ x13.toInt ∧ x13.toInt ≤ 900 by omega, ⟨hr14.1, (show (F 9).toInt ≤ x9.toInt by omega), NMt hr14.2.2.1 hr7.2.2, hr14.2.2.2⟩⟩) (Nat.le_of_ble_eq_true rfl) (Nat.le_of_ble_eq_true rfl)

set_option maxRecDepth 100000 in
set_option maxHeartbeats 8000000 in
theorem sX11_freshRoom (l : Launch) (G : va_G) (cs : Nat → ClassId) (h : Nat) (q : Nat → Nat) (F : Nat → Int32) (A : Nat → Nat → Int32) (D : Int64) (B : Nat → Nat → Int64) (hI : IM F A) (hPI : PIk (F 8) (F 9) (F 10)) : ImpI l yX11_freshRoom cX11_freshRoom 1 (some .int) 3 0 0 G (TY cs) [.ref h] (mS cs h q F A D B) (fun (r : Int32) (u : Int32 × Int32 × Int32 × Int32 × Int32 × Int32) => ((0 : Int) ≤ u.1.toInt ∧ u.1.toInt ≤ 900) ∧ ((0 : Int) ≤ u.2.1.toInt ∧ u.2.1.toInt ≤ 900) ∧ ((0 : Int) ≤ u.2.2.1.toInt ∧ u.2.2.1.toInt ≤ 4) ∧ ((0 : Int) ≤ u.2.2.2.1.toInt ∧ u.2.2.2.1.toInt ≤ 99999) ∧ ((0 : Int) ≤ u.2.2.2.2.1.toInt ∧ u.2.2.2.2.1.toInt ≤ 3) ∧ ((-1 : Int) ≤ u.2.2.2.2.2.toInt ∧ u.2.2.2.2.2.toInt ≤ 900) ∧ (PIk u.1 u.2.1 u.2.2.1 ∧ ((F 9).toInt ≤ u.2.1.toInt ∧ 0 ≤ r.toInt ∧ r.toInt ≤ 6) ∧ NMk u.2.2.2.2.1 (F 12) (F 9) u.2.1 r 0 (((A 14) 4).toInt - 1) ∧ RBk r 0 (((A 14) 4).toInt - 1))) (fun u : Int32 × Int32 × Int32 × Int32 × Int32 × Int32 => (mS cs h q (upd (upd (upd (upd (upd (upd F 8 u.1) 9 u.2.1) 10 u.2.2.1) 11 u.2.2.2.1) 12 u.2.2.2.2.1) 13 u.2.2.2.2.2) A D B)) := by
  refine mkD (Qc := (QDi G (fun (r : Int32) (u : Int32 × Int32 × Int32 × Int32 × Int32 × Int32) => ((0 : Int) ≤ u.1.toInt ∧ u.1.toInt ≤ 900) ∧ ((0 : Int) ≤ u.2.1.toInt ∧ u.2.1.toInt ≤ 900) ∧ ((0 : Int) ≤ u.2.2.1.toInt ∧ u.2.2.1.toInt ≤ 4) ∧ ((0 : Int) ≤ u.2.2.2.1.toInt ∧ u.2.2.2.1.toInt ≤ 99999) ∧ ((0 : Int) ≤ u.2.2.2.2.1.toInt ∧ u.2.2.2.2.1.toInt ≤ 3) ∧ ((-1 : Int) ≤ u.2.2.2.2.2.toInt ∧ u.2.2.2.2.2.toInt ≤ 900) ∧ (PIk u.1 u.2.1 u.2.2.1 ∧ ((F 9).toInt ≤ u.2.1.toInt ∧ 0 ≤ r.toInt ∧ r.toInt ≤ 6) ∧ NMk u.2.2.2.2.1 (F 12) (F 9) u.2.1 r 0 (((A 14) 4).toInt - 1) ∧ RBk r 0 (((A 14) 4).toInt - 1))) (fun u : Int32 × Int32 × Int32 × Int32 × Int32 × Int32 => (mS cs h q (upd (upd (upd (upd (upd (upd F 8 u.1) 9 u.2.1) 10 u.2.2.1) 11 u.2.2.2.1) 12 u.2.2.2.2.1) 13 u.2.2.2.2.2) A D B)))) (by decide) (by simp [lg_sl, Value.category]) ?_
  intro p e s m args below meth c ls A0 hx hb hml hr hlk hown hmn ht hK hP hD hS hA hl
  have hl : lv_has ls 1 [(0, .ref h)] := hl
  refine lv_aload_n hx hb dX11_freshRoom_0 rfl (lv_at hl 0 rfl) ?_
  refine lv_iconst (v := 0) hx hb dX11_freshRoom_1 (by decide) ?_
  refine lv_aload_n hx hb dX11_freshRoom_2 rfl (lv_at hl 0 rfl) ?_
  refine getF (v := .ref (q 14)) hx hb ht hown hK hP iTX11 0 14 rfl rfl (by decide) fl_RX11_31 rfl dX11_freshRoom_3 ?_
  refine lv_iconst (v := 4) hx hb dX11_freshRoom_6 (by decide) ?_
  refine va_iald hx hb hK.1 hP 6 0 rfl rfl (show ¬ (_ ∨ _) by decide) dX11_freshRoom_7 ?_
  refine W.eq (g2 := F0 m 8 ls [.int (A 14 4), .int 0, .ref h]) rfl ?_
  have zf1 : (0 : Int) ≤ (A 14 4).toInt ∧ (A 14 4).toInt ≤ 7 := (hI.2 14 4)
  refine lv_iconst (v := 1) hx hb dX11_freshRoom_8 (by decide) ?_
  refine lv_isub hx hb dX11_freshRoom_9 ?_
  refine lv_topi (fun v2 ev2 => ?_)
  have tv2 : v2.toInt = (A 14 4).toInt - 1 := by rw [ev2]; exact subT rfl (show (1 : Int32).toInt = 1 by decide) (by omega)
  refine behDi (wr := []) (runVD (As := [.int 0, .int v2]) (rest := []) ⟨hx, hb, hml, hown, ht⟩ (sX11_number l G cs h q F A D B hI 0 v2  (show PIk (F 8) (F 9) (F 10) from hPI)) okV_RX11_164 ⟨by decide, by decide⟩ hK hP hD [0, 1, 2, 3, 4, 5, 6, 7, 8, 9, 10, 11, 12, 13, 14, 15, 16, 17, 18, 19] rfl (by decide) rfl 0 rfl rfl hl.1 rfl (Nat.le_of_ble_eq_true rfl) dX11_freshRoom_10 ⟨(Nat.le_of_ble_eq_true rfl), (Nat.le_of_ble_eq_true rfl)⟩) hP hD hS hA [0, 1, 2, 3, 4, 5, 6, 7, 8, 9, 10, 11, 12, 13, 14, 15, 16, 17, 18, 19] [] rfl rfl (by decide) (by decide) (fun r9 u H locs hu hP hD hS => ?_)
  obtain ⟨x3, x4, x5, x6, x7, x8⟩ := u
  have kk10 : (0 : Int32).toInt = 0 := by decide
  obtain ⟨r9, rfl⟩ : ∃ z, z = r9 := ⟨_, rfl⟩
  obtain ⟨hbx3, hbx4, hbx5, hbx6, hbx7, hbx8, hr9⟩ := hu
  have hbx3 : (0 : Int) ≤ x3.toInt ∧ x3.toInt ≤ 900 := hbx3
  have hbx4 : (0 : Int) ≤ x4.toInt ∧ x4.toInt ≤ 900 := hbx4
  have hbx5 : (0 : Int) ≤ x5.toInt ∧ x5.toInt ≤ 4 := hbx5
  have hbx6 : (0 : Int) ≤ x6.toInt ∧ x6.toInt ≤ 99999 := hbx6
  have hbx7 : (0 : Int) ≤ x7.toInt ∧ x7.toInt ≤ 3 := hbx7
  have hbx8 : (-1 : Int) ≤ x8.toInt ∧ x8.toInt ≤ 900 := hbx8
  have hr9 : PIk x3 x4 x5 ∧ ((F 9).toInt ≤ x4.toInt) ∧ NMk x7 (F 12) (F 9) x4 r9 ((0 : Int32).toInt) v2.toInt ∧ RBk r9 ((0 : Int32).toInt) v2.toInt := hr9
  have hP : va_P G vwCl (mS cs h q (upd (upd (upd (upd (upd (upd F 8 x3) 9 x4) 10 x5) 11 x6) 12 x7) 13 x8) A D B) H := hP
  have hD : va_D A0 (mS cs h q (upd (upd (upd (upd (upd (upd F 8 x3) 9 x4) 10 x5) 11 x6) 12 x7) 13 x8) A D B) := hD
  have hbr9 := RBb (A := 0) (B := 6) hr9.2.2.2 (by omega) (by omega)
  exact retDi (x3, x4, x5, x6, x7, x8) hx hb hr hlk hP hD hS dX11_freshRoom_13 (⟨show (0 : Int) ≤ x3.toInt ∧ x3.toInt ≤ 900 by omega, show (0 : Int) ≤ x4.toInt ∧ x4.toInt ≤ 900 by omega, show (0 : Int) ≤ x5.toInt ∧ x5.toInt ≤ 4 by omega, show (0 : Int) ≤ x6.toInt ∧ x6.toInt ≤ 99999 by omega, show (0 : Int) ≤ x7.toInt ∧ x7.toInt ≤ 3 by omega, show (-1 : Int) ≤ x8.toInt ∧ x8.toInt ≤ 900 by omega, ⟨hr9.1, (show (F 9).toInt ≤ x4.toInt ∧ 0 ≤ r9.toInt ∧ r9.toInt ≤ 6 by have hb9 := RBb (A := 0) (B := 6) hr9.2.2.2 (by omega) (by omega); omega), fun q9 => by have h9 := hr9.2.2.1 q9; exact ⟨h9.1, h9.2.1, by omega, by omega⟩, by have h9 := hr9.2.2.2; rcases h9 with h9 | h9; exact Or.inl h9; exact Or.inr ⟨by omega, by omega⟩⟩⟩) (Nat.le_of_ble_eq_true rfl) (Nat.le_of_ble_eq_true rfl)

set_option maxRecDepth 100000 in
set_option maxHeartbeats 8000000 in
theorem sX11_freshMan (l : Launch) (G : va_G) (cs : Nat → ClassId) (h : Nat) (q : Nat → Nat) (F : Nat → Int32) (A : Nat → Nat → Int32) (D : Int64) (B : Nat → Nat → Int64) (hI : IM F A) (hPI : PIk (F 8) (F 9) (F 10)) : ImpI l yX11_freshMan cX11_freshMan 1 (some .int) 3 0 0 G (TY cs) [.ref h] (mS cs h q F A D B) (fun (r : Int32) (u : Int32 × Int32 × Int32 × Int32 × Int32 × Int32) => ((0 : Int) ≤ u.1.toInt ∧ u.1.toInt ≤ 900) ∧ ((0 : Int) ≤ u.2.1.toInt ∧ u.2.1.toInt ≤ 900) ∧ ((0 : Int) ≤ u.2.2.1.toInt ∧ u.2.2.1.toInt ≤ 4) ∧ ((0 : Int) ≤ u.2.2.2.1.toInt ∧ u.2.2.2.1.toInt ≤ 99999) ∧ ((0 : Int) ≤ u.2.2.2.2.1.toInt ∧ u.2.2.2.2.1.toInt ≤ 3) ∧ ((-1 : Int) ≤ u.2.2.2.2.2.toInt ∧ u.2.2.2.2.2.toInt ≤ 900) ∧ (PIk u.1 u.2.1 u.2.2.1 ∧ ((F 9).toInt ≤ u.2.1.toInt ∧ 0 ≤ r.toInt ∧ r.toInt ≤ 5) ∧ NMk u.2.2.2.2.1 (F 12) (F 9) u.2.1 r 0 (((A 14) 5).toInt - 1) ∧ RBk r 0 (((A 14) 5).toInt - 1))) (fun u : Int32 × Int32 × Int32 × Int32 × Int32 × Int32 => (mS cs h q (upd (upd (upd (upd (upd (upd F 8 u.1) 9 u.2.1) 10 u.2.2.1) 11 u.2.2.2.1) 12 u.2.2.2.2.1) 13 u.2.2.2.2.2) A D B)) := by
  refine mkD (Qc := (QDi G (fun (r : Int32) (u : Int32 × Int32 × Int32 × Int32 × Int32 × Int32) => ((0 : Int) ≤ u.1.toInt ∧ u.1.toInt ≤ 900) ∧ ((0 : Int) ≤ u.2.1.toInt ∧ u.2.1.toInt ≤ 900) ∧ ((0 : Int) ≤ u.2.2.1.toInt ∧ u.2.2.1.toInt ≤ 4) ∧ ((0 : Int) ≤ u.2.2.2.1.toInt ∧ u.2.2.2.1.toInt ≤ 99999) ∧ ((0 : Int) ≤ u.2.2.2.2.1.toInt ∧ u.2.2.2.2.1.toInt ≤ 3) ∧ ((-1 : Int) ≤ u.2.2.2.2.2.toInt ∧ u.2.2.2.2.2.toInt ≤ 900) ∧ (PIk u.1 u.2.1 u.2.2.1 ∧ ((F 9).toInt ≤ u.2.1.toInt ∧ 0 ≤ r.toInt ∧ r.toInt ≤ 5) ∧ NMk u.2.2.2.2.1 (F 12) (F 9) u.2.1 r 0 (((A 14) 5).toInt - 1) ∧ RBk r 0 (((A 14) 5).toInt - 1))) (fun u : Int32 × Int32 × Int32 × Int32 × Int32 × Int32 => (mS cs h q (upd (upd (upd (upd (upd (upd F 8 u.1) 9 u.2.1) 10 u.2.2.1) 11 u.2.2.2.1) 12 u.2.2.2.2.1) 13 u.2.2.2.2.2) A D B)))) (by decide) (by simp [lg_sl, Value.category]) ?_
  intro p e s m args below meth c ls A0 hx hb hml hr hlk hown hmn ht hK hP hD hS hA hl
  have hl : lv_has ls 1 [(0, .ref h)] := hl
  refine lv_aload_n hx hb dX11_freshMan_0 rfl (lv_at hl 0 rfl) ?_
  refine lv_iconst (v := 0) hx hb dX11_freshMan_1 (by decide) ?_
  refine lv_aload_n hx hb dX11_freshMan_2 rfl (lv_at hl 0 rfl) ?_
  refine getF (v := .ref (q 14)) hx hb ht hown hK hP iTX11 0 14 rfl rfl (by decide) fl_RX11_31 rfl dX11_freshMan_3 ?_
  refine lv_iconst (v := 5) hx hb dX11_freshMan_6 (by decide) ?_
  refine va_iald hx hb hK.1 hP 6 0 rfl rfl (show ¬ (_ ∨ _) by decide) dX11_freshMan_7 ?_
  refine W.eq (g2 := F0 m 8 ls [.int (A 14 5), .int 0, .ref h]) rfl ?_
  have zf1 : (0 : Int) ≤ (A 14 5).toInt ∧ (A 14 5).toInt ≤ 6 := (hI.2 14 5)
  refine lv_iconst (v := 1) hx hb dX11_freshMan_8 (by decide) ?_
  refine lv_isub hx hb dX11_freshMan_9 ?_
  refine lv_topi (fun v2 ev2 => ?_)
  have tv2 : v2.toInt = (A 14 5).toInt - 1 := by rw [ev2]; exact subT rfl (show (1 : Int32).toInt = 1 by decide) (by omega)
  refine behDi (wr := []) (runVD (As := [.int 0, .int v2]) (rest := []) ⟨hx, hb, hml, hown, ht⟩ (sX11_number l G cs h q F A D B hI 0 v2  (show PIk (F 8) (F 9) (F 10) from hPI)) okV_RX11_164 ⟨by decide, by decide⟩ hK hP hD [0, 1, 2, 3, 4, 5, 6, 7, 8, 9, 10, 11, 12, 13, 14, 15, 16, 17, 18, 19] rfl (by decide) rfl 0 rfl rfl hl.1 rfl (Nat.le_of_ble_eq_true rfl) dX11_freshMan_10 ⟨(Nat.le_of_ble_eq_true rfl), (Nat.le_of_ble_eq_true rfl)⟩) hP hD hS hA [0, 1, 2, 3, 4, 5, 6, 7, 8, 9, 10, 11, 12, 13, 14, 15, 16, 17, 18, 19] [] rfl rfl (by decide) (by decide) (fun r9 u H locs hu hP hD hS => ?_)
  obtain ⟨x3, x4, x5, x6, x7, x8⟩ := u
  have kk10 : (0 : Int32).toInt = 0 := by decide
  obtain ⟨r9, rfl⟩ : ∃ z, z = r9 := ⟨_, rfl⟩
  obtain ⟨hbx3, hbx4, hbx5, hbx6, hbx7, hbx8, hr9⟩ := hu
  have hbx3 : (0 : Int) ≤ x3.toInt ∧ x3.toInt ≤ 900 := hbx3
  have hbx4 : (0 : Int) ≤ x4.toInt ∧ x4.toInt ≤ 900 := hbx4
  have hbx5 : (0 : Int) ≤ x5.toInt ∧ x5.toInt ≤ 4 := hbx5
  have hbx6 : (0 : Int) ≤ x6.toInt ∧ x6.toInt ≤ 99999 := hbx6
  have hbx7 : (0 : Int) ≤ x7.toInt ∧ x7.toInt ≤ 3 := hbx7
  have hbx8 : (-1 : Int) ≤ x8.toInt ∧ x8.toInt ≤ 900 := hbx8
  have hr9 : PIk x3 x4 x5 ∧ ((F 9).toInt ≤ x4.toInt) ∧ NMk x7 (F 12) (F 9) x4 r9 ((0 : Int32).toInt) v2.toInt ∧ RBk r9 ((0 : Int32).toInt) v2.toInt := hr9
  have hP : va_P G vwCl (mS cs h q (upd (upd (upd (upd (upd (upd F 8 x3) 9 x4) 10 x5) 11 x6) 12 x7) 13 x8) A D B) H := hP
  have hD : va_D A0 (mS cs h q (upd (upd (upd (upd (upd (upd F 8 x3) 9 x4) 10 x5) 11 x6) 12 x7) 13 x8) A D B) := hD
  have hbr9 := RBb (A := 0) (B := 5) hr9.2.2.2 (by omega) (by omega)
  exact retDi (x3, x4, x5, x6, x7, x8) hx hb hr hlk hP hD hS dX11_freshMan_13 (⟨show (0 : Int) ≤ x3.toInt ∧ x3.toInt ≤ 900 by omega, show (0 : Int) ≤ x4.toInt ∧ x4.toInt ≤ 900 by omega, show (0 : Int) ≤ x5.toInt ∧ x5.toInt ≤ 4 by omega, show (0 : Int) ≤ x6.toInt ∧ x6.toInt ≤ 99999 by omega, show (0 : Int) ≤ x7.toInt ∧ x7.toInt ≤ 3 by omega, show (-1 : Int) ≤ x8.toInt ∧ x8.toInt ≤ 900 by omega, ⟨hr9.1, (show (F 9).toInt ≤ x4.toInt ∧ 0 ≤ r9.toInt ∧ r9.toInt ≤ 5 by have hb9 := RBb (A := 0) (B := 5) hr9.2.2.2 (by omega) (by omega); omega), fun q9 => by have h9 := hr9.2.2.1 q9; exact ⟨h9.1, h9.2.1, by omega, by omega⟩, by have h9 := hr9.2.2.2; rcases h9 with h9 | h9; exact Or.inl h9; exact Or.inr ⟨by omega, by omega⟩⟩⟩) (Nat.le_of_ble_eq_true rfl) (Nat.le_of_ble_eq_true rfl)

