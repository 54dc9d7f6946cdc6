set_option maxRecDepth 100000 in
set_option maxHeartbeats 8000000 in
theorem sX11_readRoom (l : Launch) (G : va_G) (cs : Nat → ClassId) (sd : Nat → Nat × Nat) (h : Nat) (q : Nat → Nat) (F : Nat → Int32) (A : Nat → Nat → Int32) (D : Int64) (B : Nat → Nat → Int64) (hI : IM F A) (hPI : PIk (F 8) (F 9) (F 10)) (h6r : ((A 14) 4).toInt ≤ 6) (hWG : WGk (F 12) (A 14)) : ∀ sz : Nat, Met l yX11_readRoom (wk yX11_readRoom cX11_readRoom 2 none) (rmk 8 0 0) (PreDS SRM sd G (TY cs) [.ref h] (mS cs h q F A D B) sz) ((QDw G (fun u : Int32 × Int32 × Int32 × Int32 × Int32 × Int32 × (Nat → Int32) => ((0 : Int) ≤ u.1.toInt ∧ u.1.toInt ≤ 900) ∧ ((0 : Int) ≤ u.2.1.toInt ∧ u.2.1.toInt ≤ 900) ∧ ((0 : Int) ≤ u.2.2.1.toInt ∧ u.2.2.1.toInt ≤ 4) ∧ ((0 : Int) ≤ u.2.2.2.1.toInt ∧ u.2.2.2.1.toInt ≤ 99999) ∧ ((0 : Int) ≤ u.2.2.2.2.1.toInt ∧ u.2.2.2.2.1.toInt ≤ 3) ∧ ((-1 : Int) ≤ u.2.2.2.2.2.1.toInt ∧ u.2.2.2.2.2.1.toInt ≤ 900) ∧ AI 14 u.2.2.2.2.2.2 ∧ (PIk u.1 u.2.1 u.2.2.1 ∧ (F 9).toInt ≤ u.2.1.toInt ∧ MOk u.2.2.2.2.1 (F 12) ∧ WGk u.2.2.2.2.1 u.2.2.2.2.2.2)) (fun u : Int32 × Int32 × Int32 × Int32 × Int32 × Int32 × (Nat → Int32) => (mS cs h q (upd (upd (upd (upd (upd (upd F 8 u.1) 9 u.2.1) 10 u.2.2.1) 11 u.2.2.2.1) 12 u.2.2.2.2.1) 13 u.2.2.2.2.2.1) (vA A 14 u.2.2.2.2.2.2) D B))) (va_A (mS cs h q F A D B) sz)) 0 0 (va_A (mS cs h q F A D B) sz) := by
  refine mkDS (Qc := (QDw G (fun u : Int32 × Int32 × Int32 × Int32 × Int32 × Int32 × (Nat → Int32) => ((0 : Int) ≤ u.1.toInt ∧ u.1.toInt ≤ 900) ∧ ((0 : Int) ≤ u.2.1.toInt ∧ u.2.1.toInt ≤ 900) ∧ ((0 : Int) ≤ u.2.2.1.toInt ∧ u.2.2.1.toInt ≤ 4) ∧ ((0 : Int) ≤ u.2.2.2.1.toInt ∧ u.2.2.2.1.toInt ≤ 99999) ∧ ((0 : Int) ≤ u.2.2.2.2.1.toInt ∧ u.2.2.2.2.1.toInt ≤ 3) ∧ ((-1 : Int) ≤ u.2.2.2.2.2.1.toInt ∧ u.2.2.2.2.2.1.toInt ≤ 900) ∧ AI 14 u.2.2.2.2.2.2 ∧ (PIk u.1 u.2.1 u.2.2.1 ∧ (F 9).toInt ≤ u.2.1.toInt ∧ MOk u.2.2.2.2.1 (F 12) ∧ WGk u.2.2.2.2.1 u.2.2.2.2.2.2)) (fun u : Int32 × Int32 × Int32 × Int32 × Int32 × Int32 × (Nat → Int32) => (mS cs h q (upd (upd (upd (upd (upd (upd F 8 u.1) 9 u.2.1) 10 u.2.2.1) 11 u.2.2.2.1) 12 u.2.2.2.2.1) 13 u.2.2.2.2.2.1) (vA A 14 u.2.2.2.2.2.2) D B)))) (by decide) (by simp [lg_sl, Value.category]) ?_
  intro p e s m args below meth c ls A0 hx hb hml hr hlk hown hmn ht hK hP hD hS hA hQ hl
  have hl : lv_has ls 2 [(0, .ref h)] := hl
  refine lv_bipush (v := 8) hx hb dX11_readRoom_0 (by decide) ?_
  refine lv_iconst (v := 4) hx hb dX11_readRoom_2 (by decide) ?_
  refine lv_aload_n hx hb dX11_readRoom_3 rfl (lv_at hl 0 rfl) ?_
  refine getF (v := .ref (q 14)) hx hb ht hown hK hP iTX11 0 14 rfl rfl (by decide) fl_RX11_31 rfl dX11_readRoom_4 ?_
  refine lv_iconst (v := 4) hx hb dX11_readRoom_7 (by decide) ?_
  refine va_iald hx hb hK.1 hP 6 0 rfl rfl (show ¬ (_ ∨ _) by decide) dX11_readRoom_8 ?_
  refine W.eq (g2 := F0 m 9 ls [.int (A 14 4), .int 4, .int 8]) rfl ?_
  have zf1 : (0 : Int) ≤ (A 14 4).toInt ∧ (A 14 4).toInt ≤ 7 := (hI.2 14 4)
  refine lv_imul hx hb dX11_readRoom_9 ?_
  refine lv_topi (fun v2 ev2 => ?_)
  have tv2 : v2.toInt = 4 * (A 14 4).toInt := by rw [ev2]; exact mulT (show (4 : Int32).toInt = 4 by decide) rfl (by omega)
  refine lv_iadd hx hb dX11_readRoom_10 ?_
  refine lv_topi (fun v3 ev3 => ?_)
  have tv3 : v3.toInt = 8 + v2.toInt := by rw [ev3]; exact addT (show (8 : Int32).toInt = 8 by decide) rfl (by omega)
  refine lv_istore_n (lv' := [(1, .int v3), (0, .ref h)]) hx hb dX11_readRoom_11 rfl hl (by decide) rfl (fun ls hl => ?_)
  refine lv_aload_n hx hb dX11_readRoom_12 rfl (lv_at hl 1 rfl) ?_
  refine getF (v := .ref (q 14)) hx hb ht hown hK hP iTX11 0 14 rfl rfl (by decide) fl_RX11_31 rfl dX11_readRoom_13 ?_
  refine lv_iload_n hx hb dX11_readRoom_16 rfl (lv_at hl 0 rfl) ?_
  refine lv_iconst (v := 0) hx hb dX11_readRoom_17 (by decide) ?_
  refine lv_iadd hx hb dX11_readRoom_18 ?_
  refine lv_topi (fun v4 ev4 => ?_)
  have tv4 : v4.toInt = v3.toInt + 0 := by rw [ev4]; exact addT rfl (show (0 : Int32).toInt = 0 by decide) (by omega)
  refine lv_aload_n hx hb dX11_readRoom_19 rfl (lv_at hl 1 rfl) ?_
  have hz5 : vk_R "CallForBrownModel" 167 "people" (sd 6).1 s := hQ.2.2.2 ("CallForBrownModel", 167, "people", 6) (List.mem_of_getElem? (i := 9) rfl)
  refine va_ldcS hx hb hown hz5 dX11_readRoom_20 ?_
  refine lv_iconst (v := 0) hx hb dX11_readRoom_22 (by decide) ?_
  refine lv_sipush (v := 999) hx hb dX11_readRoom_23 (by decide) ?_
  refine behDi (wr := []) (runVDS (As := [.ref ((sd 6).1), .int 0, .int 999]) (rest := [.int v4, .ref (q 14)]) ⟨hx, hb, hml, hown, ht⟩ (sX11_told l G cs sd h q F A D B hI 6 (by decide) 0 999  (show PIk (F 8) (F 9) (F 10) from hPI)) okV_RX11_169 ⟨by decide, by decide⟩ hK hP hD hQ hS hA [0, 1, 2, 3, 4, 5, 6, 7, 8, 9, 10, 11, 12, 13, 14, 15, 16, 17, 18, 19] rfl (by decide) rfl 0 rfl rfl hl.1 rfl (Nat.le_of_ble_eq_true rfl) dX11_readRoom_26 ⟨(Nat.le_of_ble_eq_true rfl), (Nat.le_of_ble_eq_true rfl)⟩) hP hD hS hA [0, 1, 2, 3, 4, 5, 6, 7, 8, 9, 10, 11, 12, 13, 14, 15, 16, 17, 18, 19] [] rfl rfl (by decide) (by decide) (fun r9 u H locs hu hP hD hS => ?_)
  obtain ⟨x6, x7, x8, x9, x10, x11⟩ := u
  have kk13 : (0 : Int32).toInt = 0 := by decide
  have kk14 : (999 : Int32).toInt = 999 := by decide
  obtain ⟨r12, rfl⟩ : ∃ z, z = r9 := ⟨_, rfl⟩
  obtain ⟨hbx6, hbx7, hbx8, hbx9, hbx10, hbx11, hr12⟩ := hu
  have hbx6 : (0 : Int) ≤ x6.toInt ∧ x6.toInt ≤ 900 := hbx6
  have hbx7 : (0 : Int) ≤ x7.toInt ∧ x7.toInt ≤ 900 := hbx7
  have hbx8 : (0 : Int) ≤ x8.toInt ∧ x8.toInt ≤ 4 := hbx8
  have hbx9 : (0 : Int) ≤ x9.toInt ∧ x9.toInt ≤ 99999 := hbx9
  have hbx10 : (0 : Int) ≤ x10.toInt ∧ x10.toInt ≤ 3 := hbx10
  have hbx11 : (-1 : Int) ≤ x11.toInt ∧ x11.toInt ≤ 900 := hbx11
  have hr12 : PIk x6 x7 x8 ∧ ((F 9).toInt ≤ x7.toInt) ∧ NMk x10 (F 12) (F 9) x7 r12 ((0 : Int32).toInt) ((999 : Int32).toInt) ∧ RBk r12 ((0 : Int32).toInt) ((999 : Int32).toInt) := hr12
  have hP : va_P G vwCl (mS cs h q (upd (upd (upd (upd (upd (upd F 8 x6) 9 x7) 10 x8) 11 x9) 12 x10) 13 x11) A D B) H := hP
  have hD : va_D A0 (mS cs h q (upd (upd (upd (upd (upd (upd F 8 x6) 9 x7) 10 x8) 11 x9) 12 x10) 13 x11) A D B) := hD
  have hbr12 := RBb (A := 0) (B := 999) hr12.2.2.2 (by omega) (by omega)
  refine va_iast hx hb hK.1 hP hD hS 6 0 rfl rfl (inK rfl (by omega) (by decide)) dX11_readRoom_29 (fun H locs hP hD hS => ?_)
  have hP : va_P G vwCl (mS cs h q (upd (upd (upd (upd (upd (upd F 8 x6) 9 x7) 10 x8) 11 x9) 12 x10) 13 x11) (vA A 14 (upd (A 14) v4.toNatClampNeg r12)) D B) H := hP
  have hD : va_D A0 (mS cs h q (upd (upd (upd (upd (upd (upd F 8 x6) 9 x7) 10 x8) 11 x9) 12 x10) 13 x11) (vA A 14 (upd (A 14) v4.toNatClampNeg r12)) D B) := hD
  obtain ⟨g15, eg15⟩ : ∃ z : Nat → Int32, z = upd (A 14) v4.toNatClampNeg r12 := ⟨_, rfl⟩
  rw [← eg15] at hP hD
  have hg15 : AI 14 g15 := by rw [eg15]; exact AI_upd (fun j => hI.2 14 j) (tell14 (r := (A 14 4).toInt) (w := 0) (by omega) (by omega) (by omega) (by omega))
  refine lv_aload_n hx hb dX11_readRoom_30 rfl (lv_at hl 1 rfl) ?_
  refine getF (v := .ref (q 14)) hx hb ht hown hK hP iTX11 0 14 rfl rfl (by decide) fl_RX11_31 rfl dX11_readRoom_31 ?_
  refine lv_iload_n hx hb dX11_readRoom_34 rfl (lv_at hl 0 rfl) ?_
  refine lv_iconst (v := 1) hx hb dX11_readRoom_35 (by decide) ?_
  refine lv_iadd hx hb dX11_readRoom_36 ?_
  refine lv_topi (fun v16 ev16 => ?_)
  have tv16 : v16.toInt = v3.toInt + 1 := by rw [ev16]; exact addT rfl (show (1 : Int32).toInt = 1 by decide) (by omega)
  refine lv_aload_n hx hb dX11_readRoom_37 rfl (lv_at hl 1 rfl) ?_
  have hz17 : vk_R "CallForBrownModel" 173 "hears" (sd 7).1 s := hQ.2.2.2 ("CallForBrownModel", 173, "hears", 7) (List.mem_of_getElem? (i := 10) rfl)
  refine va_ldcS hx hb hown hz17 dX11_readRoom_38 ?_
  refine lv_iconst (v := 0) hx hb dX11_readRoom_40 (by decide) ?_
  refine lv_bipush (v := 100) hx hb dX11_readRoom_41 (by decide) ?_
  refine behDi (wr := []) (runVDS (As := [.ref ((sd 7).1), .int 0, .int 100]) (rest := [.int v16, .ref (q 14)]) ⟨hx, hb, hml, hown, ht⟩ (sX11_told l G cs sd h q (upd (upd (upd (upd (upd (upd F 8 x6) 9 x7) 10 x8) 11 x9) 12 x10) 13 x11) (vA A 14 g15) D B (IM_arr (k := 14) (IM_put (k := 13) (IM_put (k := 12) (IM_put (k := 11) (IM_put (k := 10) (IM_put (k := 9) (IM_put (k := 8) hI (show (0 : Int) ≤ x6.toInt ∧ x6.toInt ≤ 900 by omega)) (show (0 : Int) ≤ x7.toInt ∧ x7.toInt ≤ 900 by omega)) (show (0 : Int) ≤ x8.toInt ∧ x8.toInt ≤ 4 by omega)) (show (0 : Int) ≤ x9.toInt ∧ x9.toInt ≤ 99999 by omega)) (show (0 : Int) ≤ x10.toInt ∧ x10.toInt ≤ 3 by omega)) (show (-1 : Int) ≤ x11.toInt ∧ x11.toInt ≤ 900 by omega)) hg15) 7 (by decide) 0 100  (show PIk x6 x7 x8 from hr12.1)) okV_RX11_169 ⟨by decide, by decide⟩ hK hP hD hQ hS hA [0, 1, 2, 3, 4, 5, 6, 7, 8, 9, 10, 11, 12, 13, 14, 15, 16, 17, 18, 19] rfl (by decide) rfl 0 rfl rfl hl.1 rfl (Nat.le_of_ble_eq_true rfl) dX11_readRoom_43 ⟨(Nat.le_of_ble_eq_true rfl), (Nat.le_of_ble_eq_true rfl)⟩) hP hD hS hA [0, 1, 2, 3, 4, 5, 6, 7, 8, 9, 10, 11, 12, 13, 14, 15, 16, 17, 18, 19] [] rfl rfl (by decide) (by decide) (fun r9 u H locs hu hP hD hS => ?_)
  obtain ⟨x18, x19, x20, x21, x22, x23⟩ := u
  have kk25 : (0 : Int32).toInt = 0 := by decide
  have kk26 : (100 : Int32).toInt = 100 := by decide
  obtain ⟨r24, rfl⟩ : ∃ z, z = r9 := ⟨_, rfl⟩
  obtain ⟨hbx18, hbx19, hbx20, hbx21, hbx22, hbx23, hr24⟩ := hu
  have hbx18 : (0 : Int) ≤ x18.toInt ∧ x18.toInt ≤ 900 := hbx18
  have hbx19 : (0 : Int) ≤ x19.toInt ∧ x19.toInt ≤ 900 := hbx19
  have hbx20 : (0 : Int) ≤ x20.toInt ∧ x20.toInt ≤ 4 := hbx20
  have hbx21 : (0 : Int) ≤ x21.toInt ∧ x21.toInt ≤ 99999 := hbx21
  have hbx22 : (0 : Int) ≤ x22.toInt ∧ x22.toInt ≤ 3 := hbx22
  have hbx23 : (-1 : Int) ≤ x23.toInt ∧ x23.toInt ≤ 900 := hbx23
  have hr24 : PIk x18 x19 x20 ∧ (x7.toInt ≤ x19.toInt) ∧ NMk x22 x10 x7 x19 r24 ((0 : Int32).toInt) ((100 : Int32).toInt) ∧ RBk r24 ((0 : Int32).toInt) ((100 : Int32).toInt) := hr24
  have hP : va_P G vwCl (mS cs h q (upd (upd (upd (upd (upd (upd F 8 x18) 9 x19) 10 x20) 11 x21) 12 x22) 13 x23) (vA A 14 g15) D B) H := hP
  have hD : va_D A0 (mS cs h q (upd (upd (upd (upd (upd (upd F 8 x18) 9 x19) 10 x20) 11 x21) 12 x22) 13 x23) (vA A 14 g15) D B) := hD
  have hbr24 := RBb (A := 0) (B := 100) hr24.2.2.2 (by omega) (by omega)
  refine va_iast hx hb hK.1 hP hD hS 6 0 rfl rfl (inK rfl (by omega) (by decide)) dX11_readRoom_46 (fun H locs hP hD hS => ?_)
  have hP : va_P G vwCl (mS cs h q (upd (upd (upd (upd (upd (upd F 8 x18) 9 x19) 10 x20) 11 x21) 12 x22) 13 x23) (vA A 14 (upd g15 v16.toNatClampNeg r24)) D B) H := hP
  have hD : va_D A0 (mS cs h q (upd (upd (upd (upd (upd (upd F 8 x18) 9 x19) 10 x20) 11 x21) 12 x22) 13 x23) (vA A 14 (upd g15 v16.toNatClampNeg r24)) D B) := hD
  obtain ⟨g27, eg27⟩ : ∃ z : Nat → Int32, z = upd g15 v16.toNatClampNeg r24 := ⟨_, rfl⟩
  rw [← eg27] at hP hD
  have hg27 : AI 14 g27 := by rw [eg27]; exact AI_upd (fun j => hg15 j) (tell14 (r := (A 14 4).toInt) (w := 1) (by omega) (by omega) (by omega) (by omega))
  refine lv_aload_n hx hb dX11_readRoom_47 rfl (lv_at hl 1 rfl) ?_
  refine getF (v := .ref (q 14)) hx hb ht hown hK hP iTX11 0 14 rfl rfl (by decide) fl_RX11_31 rfl dX11_readRoom_48 ?_
  refine lv_iload_n hx hb dX11_readRoom_51 rfl (lv_at hl 0 rfl) ?_
  refine lv_iconst (v := 2) hx hb dX11_readRoom_52 (by decide) ?_
  refine lv_iadd hx hb dX11_readRoom_53 ?_
  refine lv_topi (fun v28 ev28 => ?_)
  have tv28 : v28.toInt = v3.toInt + 2 := by rw [ev28]; exact addT rfl (show (2 : Int32).toInt = 2 by decide) (by omega)
  refine lv_aload_n hx hb dX11_readRoom_54 rfl (lv_at hl 1 rfl) ?_
  have hz29 : vk_R "CallForBrownModel" 175 "sits" (sd 8).1 s := hQ.2.2.2 ("CallForBrownModel", 175, "sits", 8) (List.mem_of_getElem? (i := 11) rfl)
  refine va_ldcS hx hb hown hz29 dX11_readRoom_55 ?_
  refine lv_iconst (v := 0) hx hb dX11_readRoom_57 (by decide) ?_
  refine lv_bipush (v := 99) hx hb dX11_readRoom_58 (by decide) ?_
  refine behDi (wr := []) (runVDS (As := [.ref ((sd 8).1), .int 0, .int 99]) (rest := [.int v28, .ref (q 14)]) ⟨hx, hb, hml, hown, ht⟩ (sX11_told l G cs sd h q (upd (upd (upd (upd (upd (upd F 8 x18) 9 x19) 10 x20) 11 x21) 12 x22) 13 x23) (vA A 14 g27) D B (IM_arr (k := 14) (IM_put (k := 13) (IM_put (k := 12) (IM_put (k := 11) (IM_put (k := 10) (IM_put (k := 9) (IM_put (k := 8) hI (show (0 : Int) ≤ x18.toInt ∧ x18.toInt ≤ 900 by omega)) (show (0 : Int) ≤ x19.toInt ∧ x19.toInt ≤ 900 by omega)) (show (0 : Int) ≤ x20.toInt ∧ x20.toInt ≤ 4 by omega)) (show (0 : Int) ≤ x21.toInt ∧ x21.toInt ≤ 99999 by omega)) (show (0 : Int) ≤ x22.toInt ∧ x22.toInt ≤ 3 by omega)) (show (-1 : Int) ≤ x23.toInt ∧ x23.toInt ≤ 900 by omega)) hg27) 8 (by decide) 0 99  (show PIk x18 x19 x20 from hr24.1)) okV_RX11_169 ⟨by decide, by decide⟩ hK hP hD hQ hS hA [0, 1, 2, 3, 4, 5, 6, 7, 8, 9, 10, 11, 12, 13, 14, 15, 16, 17, 18, 19] rfl (by decide) rfl 0 rfl rfl hl.1 rfl (Nat.le_of_ble_eq_true rfl) dX11_readRoom_60 ⟨(Nat.le_of_ble_eq_true rfl), (Nat.le_of_ble_eq_true rfl)⟩) hP hD hS hA [0, 1, 2, 3, 4, 5, 6, 7, 8, 9, 10, 11, 12, 13, 14, 15, 16, 17, 18, 19] [] rfl rfl (by decide) (by decide) (fun r9 u H locs hu hP hD hS => ?_)
  obtain ⟨x30, x31, x32, x33, x34, x35⟩ := u
  have kk37 : (0 : Int32).toInt = 0 := by decide
  have kk38 : (99 : Int32).toInt = 99 := by decide
  obtain ⟨r36, rfl⟩ : ∃ z, z = r9 := ⟨_, rfl⟩
  obtain ⟨hbx30, hbx31, hbx32, hbx33, hbx34, hbx35, hr36⟩ := hu
  have hbx30 : (0 : Int) ≤ x30.toInt ∧ x30.toInt ≤ 900 := hbx30
  have hbx31 : (0 : Int) ≤ x31.toInt ∧ x31.toInt ≤ 900 := hbx31
  have hbx32 : (0 : Int) ≤ x32.toInt ∧ x32.toInt ≤ 4 := hbx32
  have hbx33 : (0 : Int) ≤ x33.toInt ∧ x33.toInt ≤ 99999 := hbx33
  have hbx34 : (0 : Int) ≤ x34.toInt ∧ x34.toInt ≤ 3 := hbx34
  have hbx35 : (-1 : Int) ≤ x35.toInt ∧ x35.toInt ≤ 900 := hbx35
  have hr36 : PIk x30 x31 x32 ∧ (x19.toInt ≤ x31.toInt) ∧ NMk x34 x22 x19 x31 r36 ((0 : Int32).toInt) ((99 : Int32).toInt) ∧ RBk r36 ((0 : Int32).toInt) ((99 : Int32).toInt) := hr36
  have hP : va_P G vwCl (mS cs h q (upd (upd (upd (upd (upd (upd F 8 x30) 9 x31) 10 x32) 11 x33) 12 x34) 13 x35) (vA A 14 g27) D B) H := hP
  have hD : va_D A0 (mS cs h q (upd (upd (upd (upd (upd (upd F 8 x30) 9 x31) 10 x32) 11 x33) 12 x34) 13 x35) (vA A 14 g27) D B) := hD
  have hbr36 := RBb (A := 0) (B := 99) hr36.2.2.2 (by omega) (by omega)
  refine va_iast hx hb hK.1 hP hD hS 6 0 rfl rfl (inK rfl (by omega) (by decide)) dX11_readRoom_63 (fun H locs hP hD hS => ?_)
  have hP : va_P G vwCl (mS cs h q (upd (upd (upd (upd (upd (upd F 8 x30) 9 x31) 10 x32) 11 x33) 12 x34) 13 x35) (vA A 14 (upd g27 v28.toNatClampNeg r36)) D B) H := hP
  have hD : va_D A0 (mS cs h q (upd (upd (upd (upd (upd (upd F 8 x30) 9 x31) 10 x32) 11 x33) 12 x34) 13 x35) (vA A 14 (upd g27 v28.toNatClampNeg r36)) D B) := hD
  obtain ⟨g39, eg39⟩ : ∃ z : Nat → Int32, z = upd g27 v28.toNatClampNeg r36 := ⟨_, rfl⟩
  rw [← eg39] at hP hD
  have hg39 : AI 14 g39 := by rw [eg39]; exact AI_upd (fun j => hg27 j) (tell14 (r := (A 14 4).toInt) (w := 2) (by omega) (by omega) (by omega) (by omega))
  refine lv_aload_n hx hb dX11_readRoom_64 rfl (lv_at hl 1 rfl) ?_
  refine getF (v := .ref (q 14)) hx hb ht hown hK hP iTX11 0 14 rfl rfl (by decide) fl_RX11_31 rfl dX11_readRoom_65 ?_
  refine lv_iconst (v := 4) hx hb dX11_readRoom_68 (by decide) ?_
  refine lv_dup2_11 hx hb dX11_readRoom_69 rfl rfl ?_
  refine va_iald hx hb hK.1 hP 6 0 rfl rfl (show ¬ (_ ∨ _) by decide) dX11_readRoom_70 ?_
  refine W.eq (g2 := F0 m 71 ls [.int (g39 4), .int 4, .ref (q 14)]) rfl ?_
  have zf40 : (0 : Int) ≤ (g39 4).toInt ∧ (g39 4).toInt ≤ 7 := (hg39 4)
  have qq41 : (g39 4).toInt = (g27 4).toInt := congrArg Int32.toInt (by rw [eg39]; exact if_neg (by have y1 := clK (i := v28) rfl (by omega); omega))
  have qq42 : (g27 4).toInt = (g15 4).toInt := congrArg Int32.toInt (by rw [eg27]; exact if_neg (by have y1 := clK (i := v16) rfl (by omega); omega))
  have qq43 : (g15 4).toInt = (A 14 4).toInt := congrArg Int32.toInt (by rw [eg15]; exact if_neg (by have y1 := clK (i := v4) rfl (by omega); omega))
  refine lv_iconst (v := 1) hx hb dX11_readRoom_71 (by decide) ?_
  refine lv_iadd hx hb dX11_readRoom_72 ?_
  refine lv_topi (fun v44 ev44 => ?_)
  have tv44 : v44.toInt = (g39 4).toInt + 1 := by rw [ev44]; exact addT rfl (show (1 : Int32).toInt = 1 by decide) (by omega)
  refine va_iast hx hb hK.1 hP hD hS 6 0 rfl rfl (show ¬ (_ ∨ _) by decide) dX11_readRoom_73 (fun H locs hP hD hS => ?_)
  have hP : va_P G vwCl (mS cs h q (upd (upd (upd (upd (upd (upd F 8 x30) 9 x31) 10 x32) 11 x33) 12 x34) 13 x35) (vA A 14 (upd g39 (4 : Int32).toNatClampNeg v44)) D B) H := hP
  have hD : va_D A0 (mS cs h q (upd (upd (upd (upd (upd (upd F 8 x30) 9 x31) 10 x32) 11 x33) 12 x34) 13 x35) (vA A 14 (upd g39 (4 : Int32).toNatClampNeg v44)) D B) := hD
  obtain ⟨g45, eg45⟩ : ∃ z : Nat → Int32, z = upd g39 (4 : Int32).toNatClampNeg v44 := ⟨_, rfl⟩
  rw [← eg45] at hP hD
  have hg45 : AI 14 g45 := by rw [eg45]; exact AI_upd (fun j => hg39 j) (show (0 : Int) ≤ v44.toInt ∧ v44.toInt ≤ 7 by omega)
  exact retDw (x30, x31, x32, x33, x34, x35, g45) hx hb hr hlk hP hD hS dX11_readRoom_74 (⟨show (0 : Int) ≤ x30.toInt ∧ x30.toInt ≤ 900 by omega, show (0 : Int) ≤ x31.toInt ∧ x31.toInt ≤ 900 by omega, show (0 : Int) ≤ x32.toInt ∧ x32.toInt ≤ 4 by omega, show (0 : Int) ≤ x33.toInt ∧ x33.toInt ≤ 99999 by omega, show (0 : Int) ≤ x34.toInt ∧ x34.toInt ≤ 3 by omega, show (-1 : Int) ≤ x35.toInt ∧ x35.toInt ≤ 900 by omega, hg45, ⟨hr36.1, (show (F 9).toInt ≤ x31.toInt by omega), fun q9 => (hr12.2.2.1 (hr24.2.2.1 (hr36.2.2.1 q9).1).1).1, (fun q9 => (WGe (WGe (WGe (WGe (hWG (hr12.2.2.1 (hr24.2.2.1 (hr36.2.2.1 q9).1).1).1) eg15 ((fun j => hI.2 14 j) 5).2 (by have y9 := clK (i := v4) rfl (by omega); omega)) eg27 (hg15 5).2 (by have y9 := clK (i := v16) rfl (by omega); omega)) eg39 (hg27 5).2 (by have y9 := clK (i := v28) rfl (by omega); omega)) eg45 (hg39 5).2 (by decide)))⟩⟩) (Nat.le_of_ble_eq_true rfl) (Nat.le_of_ble_eq_true rfl)

set_option maxRecDepth 100000 in
set_option maxHeartbeats 8000000 in
theorem sX11_readDoor (l : Launch) (G : va_G) (cs : Nat → ClassId) (h : Nat) (q : Nat → Nat) (F : Nat → Int32) (A : Nat → Nat → Int32) (D : Int64) (B : Nat → Nat → Int64) (hI : IM F A) (hPI : PIk (F 8) (F 9) (F 10)) (hWG : WGk (F 12) (A 14)) : ImpW l yX11_readDoor cX11_readDoor 3 4 0 0 G (TY cs) [.ref h] (mS cs h q F A D B) (fun u : Int32 × Int32 × Int32 × Int32 × Int32 × Int32 × (Nat → Int32) => ((0 : Int) ≤ u.1.toInt ∧ u.1.toInt ≤ 900) ∧ ((0 : Int) ≤ u.2.1.toInt ∧ u.2.1.toInt ≤ 900) ∧ ((0 : Int) ≤ u.2.2.1.toInt ∧ u.2.2.1.toInt ≤ 4) ∧ ((0 : Int) ≤ u.2.2.2.1.toInt ∧ u.2.2.2.1.toInt ≤ 99999) ∧ ((0 : Int) ≤ u.2.2.2.2.1.toInt ∧ u.2.2.2.2.1.toInt ≤ 3) ∧ ((-1 : Int) ≤ u.2.2.2.2.2.1.toInt ∧ u.2.2.2.2.2.1.toInt ≤ 900) ∧ AI 14 u.2.2.2.2.2.2 ∧ (PIk u.1 u.2.1 u.2.2.1 ∧ (F 9).toInt ≤ u.2.1.toInt ∧ MOk u.2.2.2.2.1 (F 12) ∧ WGk u.2.2.2.2.1 u.2.2.2.2.2.2)) (fun u : Int32 × Int32 × Int32 × Int32 × Int32 × Int32 × (Nat → Int32) => (mS cs h q (upd (upd (upd (upd (upd (upd F 8 u.1) 9 u.2.1) 10 u.2.2.1) 11 u.2.2.2.1) 12 u.2.2.2.2.1) 13 u.2.2.2.2.2.1) (vA A 14 u.2.2.2.2.2.2) D B)) := by
  refine mkD (Qc := (QDw G (fun u : Int32 × Int32 × Int32 × Int32 × Int32 × Int32 × (Nat → Int32) => ((0 : Int) ≤ u.1.toInt ∧ u.1.toInt ≤ 900) ∧ ((0 : Int) ≤ u.2.1.toInt ∧ u.2.1.toInt ≤ 900) ∧ ((0 : Int) ≤ u.2.2.1.toInt ∧ u.2.2.1.toInt ≤ 4) ∧ ((0 : Int) ≤ u.2.2.2.1.toInt ∧ u.2.2.2.1.toInt ≤ 99999) ∧ ((0 : Int) ≤ u.2.2.2.2.1.toInt ∧ u.2.2.2.2.1.toInt ≤ 3) ∧ ((-1 : Int) ≤ u.2.2.2.2.2.1.toInt ∧ u.2.2.2.2.2.1.toInt ≤ 900) ∧ AI 14 u.2.2.2.2.2.2 ∧ (PIk u.1 u.2.1 u.2.2.1 ∧ (F 9).toInt ≤ u.2.1.toInt ∧ MOk u.2.2.2.2.1 (F 12) ∧ WGk u.2.2.2.2.1 u.2.2.2.2.2.2)) (fun u : Int32 × Int32 × Int32 × Int32 × Int32 × Int32 × (Nat → Int32) => (mS cs h q (upd (upd (upd (upd (upd (upd F 8 u.1) 9 u.2.1) 10 u.2.2.1) 11 u.2.2.2.1) 12 u.2.2.2.2.1) 13 u.2.2.2.2.2.1) (vA A 14 u.2.2.2.2.2.2) D B)))) (by decide) (by simp [lg_sl, Value.category]) ?_
  intro p e s m args below meth c ls A0 hx hb hml hr hlk hown hmn ht hK hP hD hS hA hl
  have hl : lv_has ls 3 [(0, .ref h)] := hl
  refine lv_aload_n hx hb dX11_readDoor_0 rfl (lv_at hl 0 rfl) ?_
  refine behDi (wr := []) (runVD (As := []) (rest := []) ⟨hx, hb, hml, hown, ht⟩ (sX11_freshRoom l G cs h q F A D B hI   (show PIk (F 8) (F 9) (F 10) from hPI)) okV_RX11_177 ⟨by decide, by decide⟩ hK hP hD [0, 1, 2, 3, 4, 5, 6, 7, 8, 9, 10, 11, 12, 13, 14, 15, 16, 17, 18, 19] rfl (by decide) rfl 0 rfl rfl hl.1 rfl (Nat.le_of_ble_eq_true rfl) dX11_readDoor_1 ⟨(Nat.le_of_ble_eq_true rfl), (Nat.le_of_ble_eq_true rfl)⟩) hP hD hS hA [0, 1, 2, 3, 4, 5, 6, 7, 8, 9, 10, 11, 12, 13, 14, 15, 16, 17, 18, 19] [] rfl rfl (by decide) (by decide) (fun r9 u H locs hu hP hD hS => ?_)
  obtain ⟨x1, x2, x3, x4, x5, x6⟩ := u
  obtain ⟨r7, rfl⟩ : ∃ z, z = r9 := ⟨_, rfl⟩
  obtain ⟨hbx1, hbx2, hbx3, hbx4, hbx5, hbx6, hr7⟩ := hu
  have hbx1 : (0 : Int) ≤ x1.toInt ∧ x1.toInt ≤ 900 := hbx1
  have hbx2 : (0 : Int) ≤ x2.toInt ∧ x2.toInt ≤ 900 := hbx2
  have hbx3 : (0 : Int) ≤ x3.toInt ∧ x3.toInt ≤ 4 := hbx3
  have hbx4 : (0 : Int) ≤ x4.toInt ∧ x4.toInt ≤ 99999 := hbx4
  have hbx5 : (0 : Int) ≤ x5.toInt ∧ x5.toInt ≤ 3 := hbx5
  have hbx6 : (-1 : Int) ≤ x6.toInt ∧ x6.toInt ≤ 900 := hbx6
  have hr7 : PIk x1 x2 x3 ∧ ((F 9).toInt ≤ x2.toInt ∧ 0 ≤ r7.toInt ∧ r7.toInt ≤ 6) ∧ NMk x5 (F 12) (F 9) x2 r7 0 (((A 14) 4).toInt - 1) ∧ RBk r7 0 (((A 14) 4).toInt - 1) := hr7
  have hP : va_P G vwCl (mS cs h q (upd (upd (upd (upd (upd (upd F 8 x1) 9 x2) 10 x3) 11 x4) 12 x5) 13 x6) A D B) H := hP
  have hD : va_D A0 (mS cs h q (upd (upd (upd (upd (upd (upd F 8 x1) 9 x2) 10 x3) 11 x4) 12 x5) 13 x6) A D B) := hD
  refine lv_istore_n (lv' := [(1, .int r7), (0, .ref h)]) hx hb dX11_readDoor_4 rfl hl (by decide) rfl (fun ls hl => ?_)
  refine lv_aload_n hx hb dX11_readDoor_5 rfl (lv_at hl 1 rfl) ?_
  refine behR (runVP (As := []) (rest := []) ⟨hx, hb, hml, hown, ht⟩ (sX11_good l G cs h q (upd (upd (upd (upd (upd (upd F 8 x1) 9 x2) 10 x3) 11 x4) 12 x5) 13 x6) A D B (IM_put (k := 13) (IM_put (k := 12) (IM_put (k := 11) (IM_put (k := 10) (IM_put (k := 9) (IM_put (k := 8) hI (show (0 : Int) ≤ x1.toInt ∧ x1.toInt ≤ 900 by omega)) (show (0 : Int) ≤ x2.toInt ∧ x2.toInt ≤ 900 by omega)) (show (0 : Int) ≤ x3.toInt ∧ x3.toInt ≤ 4 by omega)) (show (0 : Int) ≤ x4.toInt ∧ x4.toInt ≤ 99999 by omega)) (show (0 : Int) ≤ x5.toInt ∧ x5.toInt ≤ 3 by omega)) (show (-1 : Int) ≤ x6.toInt ∧ x6.toInt ≤ 900 by omega))  ) okV_RX11_133 ⟨by decide, by decide⟩ hK hP [0, 1, 2, 3, 4, 5, 6, 7, 8, 9, 10, 11, 12, 13, 14, 15, 16, 17, 18, 19] rfl 0 rfl rfl hl.1 rfl (Nat.le_of_ble_eq_true rfl) dX11_readDoor_6 ⟨by decide, by decide⟩) hP hS hA (fun r8 H locs hr8 hP hS => ?_)
  have hr8 : (r8.toInt = 1 ∧ x5.toInt = 0) ∨ (r8.toInt = 0 ∧ ¬ x5.toInt = 0) := hr8
  have B33 : ∀ (f12_33 : Int32) (f13_33 : Int32) (H : Heap) (locs : List Loc) (ls : Array Slot), (0 : Int) ≤ f12_33.toInt ∧ f12_33.toInt ≤ 3 → (-1 : Int) ≤ f13_33.toInt ∧ f13_33.toInt ≤ 900 → (MOk f12_33 (F 12)) → va_P G vwCl (mS cs h q (upd (upd (upd (upd (upd (upd F 8 x1) 9 x2) 10 x3) 11 x4) 12 f12_33) 13 f13_33) A D B) H → va_D A0 (mS cs h q (upd (upd (upd (upd (upd (upd F 8 x1) 9 x2) 10 x3) 11 x4) 12 f12_33) 13 f13_33) A D B) → va_S A0 s.heap H locs → lv_has ls 3 [(0, .ref h), (1, .int r7)] → W p l e (rmk 4 0 0) s m args below meth c H locs 0 0 (MQ below ((QDw G (fun u : Int32 × Int32 × Int32 × Int32 × Int32 × Int32 × (Nat → Int32) => ((0 : Int) ≤ u.1.toInt ∧ u.1.toInt ≤ 900) ∧ ((0 : Int) ≤ u.2.1.toInt ∧ u.2.1.toInt ≤ 900) ∧ ((0 : Int) ≤ u.2.2.1.toInt ∧ u.2.2.1.toInt ≤ 4) ∧ ((0 : Int) ≤ u.2.2.2.1.toInt ∧ u.2.2.2.1.toInt ≤ 99999) ∧ ((0 : Int) ≤ u.2.2.2.2.1.toInt ∧ u.2.2.2.2.1.toInt ≤ 3) ∧ ((-1 : Int) ≤ u.2.2.2.2.2.1.toInt ∧ u.2.2.2.2.2.1.toInt ≤ 900) ∧ AI 14 u.2.2.2.2.2.2 ∧ (PIk u.1 u.2.1 u.2.2.1 ∧ (F 9).toInt ≤ u.2.1.toInt ∧ MOk u.2.2.2.2.1 (F 12) ∧ WGk u.2.2.2.2.1 u.2.2.2.2.2.2)) (fun u : Int32 × Int32 × Int32 × Int32 × Int32 × Int32 × (Nat → Int32) => (mS cs h q (upd (upd (upd (upd (upd (upd F 8 u.1) 9 u.2.1) 10 u.2.2.1) 11 u.2.2.2.1) 12 u.2.2.2.2.1) 13 u.2.2.2.2.2.1) (vA A 14 u.2.2.2.2.2.2) D B))) A0) args s 0 0 A0) (F0 m 33 ls []) := by
    intro f12_33 f13_33 H locs ls hf12_33 hf13_33 h33 hP hD hS hl
    refine lv_aload_n hx hb dX11_readDoor_33 rfl (lv_at hl 0 rfl) ?_
    refine behDi (wr := []) (runVD (As := []) (rest := []) ⟨hx, hb, hml, hown, ht⟩ (sX11_freshRoom l G cs h q (upd (upd (upd (upd (upd (upd F 8 x1) 9 x2) 10 x3) 11 x4) 12 f12_33) 13 f13_33) A D B (IM_put (k := 13) (IM_put (k := 12) (IM_put (k := 11) (IM_put (k := 10) (IM_put (k := 9) (IM_put (k := 8) hI (show (0 : Int) ≤ x1.toInt ∧ x1.toInt ≤ 900 by omega)) (show (0 : Int) ≤ x2.toInt ∧ x2.toInt ≤ 900 by omega)) (show (0 : Int) ≤ x3.toInt ∧ x3.toInt ≤ 4 by omega)) (show (0 : Int) ≤ x4.toInt ∧ x4.toInt ≤ 99999 by omega)) (show (0 : Int) ≤ f12_33.toInt ∧ f12_33.toInt ≤ 3 by omega)) (show (-1 : Int) ≤ f13_33.toInt ∧ f13_33.toInt ≤ 900 by omega))   (show PIk x1 x2 x3 from hr7.1)) okV_RX11_177 ⟨by decide, by decide⟩ hK hP hD [0, 1, 2, 3, 4, 5, 6, 7, 8, 9, 10, 11, 12, 13, 14, 15, 16, 17, 18, 19] rfl (by decide) rfl 0 rfl rfl hl.1 rfl (Nat.le_of_ble_eq_true rfl) dX11_readDoor_34 ⟨(Nat.le_of_ble_eq_true rfl), (Nat.le_of_ble_eq_true rfl)⟩) hP hD hS hA [0, 1, 2, 3, 4, 5, 6, 7, 8, 9, 10, 11, 12, 13, 14, 15, 16, 17, 18, 19] [] rfl rfl (by decide) (by decide) (fun r9 u H locs hu hP hD hS => ?_)
    obtain ⟨x18001, x18002, x18003, x18004, x18005, x18006⟩ := u
    obtain ⟨r18007, rfl⟩ : ∃ z, z = r9 := ⟨_, rfl⟩
    obtain ⟨hbx18001, hbx18002, hbx18003, hbx18004, hbx18005, hbx18006, hr18007⟩ := hu
    have hbx18001 : (0 : Int) ≤ x18001.toInt ∧ x18001.toInt ≤ 900 := hbx18001
    have hbx18002 : (0 : Int) ≤ x18002.toInt ∧ x18002.toInt ≤ 900 := hbx18002
    have hbx18003 : (0 : Int) ≤ x18003.toInt ∧ x18003.toInt ≤ 4 := hbx18003
    have hbx18004 : (0 : Int) ≤ x18004.toInt ∧ x18004.toInt ≤ 99999 := hbx18004
    have hbx18005 : (0 : Int) ≤ x18005.toInt ∧ x18005.toInt ≤ 3 := hbx18005
    have hbx18006 : (-1 : Int) ≤ x18006.toInt ∧ x18006.toInt ≤ 900 := hbx18006
    have hr18007 : PIk x18001 x18002 x18003 ∧ (x2.toInt ≤ x18002.toInt ∧ 0 ≤ r18007.toInt ∧ r18007.toInt ≤ 6) ∧ NMk x18005 f12_33 x2 x18002 r18007 0 (((A 14) 4).toInt - 1) ∧ RBk r18007 0 (((A 14) 4).toInt - 1) := hr18007
    have hP : va_P G vwCl (mS cs h q (upd (upd (upd (upd (upd (upd F 8 x18001) 9 x18002) 10 x18003) 11 x18004) 12 x18005) 13 x18006) A D B) H := hP
    have hD : va_D A0 (mS cs h q (upd (upd (upd (upd (upd (upd F 8 x18001) 9 x18002) 10 x18003) 11 x18004) 12 x18005) 13 x18006) A D B) := hD
    refine lv_istore_n (lv' := [(2, .int r18007), (0, .ref h), (1, .int r7)]) hx hb dX11_readDoor_37 rfl hl (by decide) rfl (fun ls hl => ?_)
    refine lv_aload_n hx hb dX11_readDoor_38 rfl (lv_at hl 1 rfl) ?_
    refine behR (runVP (As := []) (rest := []) ⟨hx, hb, hml, hown, ht⟩ (sX11_good l G cs h q (upd (upd (upd (upd (upd (upd F 8 x18001) 9 x18002) 10 x18003) 11 x18004) 12 x18005) 13 x18006) A D B (IM_put (k := 13) (IM_put (k := 12) (IM_put (k := 11) (IM_put (k := 10) (IM_put (k := 9) (IM_put (k := 8) hI (show (0 : Int) ≤ x18001.toInt ∧ x18001.toInt ≤ 900 by omega)) (show (0 : Int) ≤ x18002.toInt ∧ x18002.toInt ≤ 900 by omega)) (show (0 : Int) ≤ x18003.toInt ∧ x18003.toInt ≤ 4 by omega)) (show (0 : Int) ≤ x18004.toInt ∧ x18004.toInt ≤ 99999 by omega)) (show (0 : Int) ≤ x18005.toInt ∧ x18005.toInt ≤ 3 by omega)) (show (-1 : Int) ≤ x18006.toInt ∧ x18006.toInt ≤ 900 by omega))  ) okV_RX11_133 ⟨by decide, by decide⟩ hK hP [0, 1, 2, 3, 4, 5, 6, 7, 8, 9, 10, 11, 12, 13, 14, 15, 16, 17, 18, 19] rfl 0 rfl rfl hl.1 rfl (Nat.le_of_ble_eq_true rfl) dX11_readDoor_39 ⟨by decide, by decide⟩) hP hS hA (fun r18008 H locs hr18008 hP hS => ?_)
    have hr18008 : (r18008.toInt = 1 ∧ x18005.toInt = 0) ∨ (r18008.toInt = 0 ∧ ¬ x18005.toInt = 0) := hr18008
    refine lv_if_ne (tgt := 46) hx hb dX11_readDoor_42 (by decide) (fun c18009 => ?_) (fun c18009 => ?_)
    · have zc18009 := neK rfl (show (0 : Int32).toInt = 0 by decide) c18009
      refine lv_aload_n hx hb dX11_readDoor_46 rfl (lv_at hl 1 rfl) ?_
      refine getF (v := .ref (q 14)) hx hb ht hown hK hP iTX11 0 14 rfl rfl (by decide) fl_RX11_31 rfl dX11_readDoor_47 ?_
      refine lv_bipush (v := 8) hx hb dX11_readDoor_50 (by decide) ?_
      refine lv_iconst (v := 4) hx hb dX11_readDoor_52 (by decide) ?_
      refine lv_iload_n hx hb dX11_readDoor_53 rfl (lv_at hl 2 rfl) ?_
      refine lv_imul hx hb dX11_readDoor_54 ?_
      refine lv_topi (fun v18010 ev18010 => ?_)
      have tv18010 : v18010.toInt = 4 * r7.toInt := by rw [ev18010]; exact mulT (show (4 : Int32).toInt = 4 by decide) rfl (by omega)
      refine lv_iadd hx hb dX11_readDoor_55 ?_
      refine lv_topi (fun v18011 ev18011 => ?_)
      have tv18011 : v18011.toInt = 8 + v18010.toInt := by rw [ev18011]; exact addT (show (8 : Int32).toInt = 8 by decide) rfl (by omega)
      refine lv_iconst (v := 3) hx hb dX11_readDoor_56 (by decide) ?_
      refine lv_iadd hx hb dX11_readDoor_57 ?_
      refine lv_topi (fun v18012 ev18012 => ?_)
      have tv18012 : v18012.toInt = v18011.toInt + 3 := by rw [ev18012]; exact addT rfl (show (3 : Int32).toInt = 3 by decide) (by omega)
      refine lv_dup2_11 hx hb dX11_readDoor_58 rfl rfl ?_
      refine va_iald hx hb hK.1 hP 6 0 rfl rfl (inK rfl (by omega) (by decide)) dX11_readDoor_59 ?_
      refine lv_topi (fun v18013 ev18013 => ?_)
      have zdv18013 : (0 : Int) ≤ v18013.toInt ∧ v18013.toInt ≤ 127 := by rw [ev18013]; exact dld14 (fun j => hI.2 14 j) (r := r7.toInt) (by omega) (by omega)
      refine lv_iconst (v := 1) hx hb dX11_readDoor_60 (by decide) ?_
      refine lv_iload_n hx hb dX11_readDoor_61 rfl (lv_at hl 0 rfl) ?_
      refine lv_ishl hx hb dX11_readDoor_62 ?_
      refine lv_topi (fun v18014 ev18014 => ?_)
      have tv18014 : (1 : Int) ≤ v18014.toInt ∧ v18014.toInt ≤ 64 := by rw [ev18014]; exact shlT 6 (by decide) rfl (by omega) (by decide)
      have pv18014 : v18014.toInt = P2 r18007.toInt := by rw [ev18014]; exact shlP rfl (by omega)
      refine lv_ior hx hb dX11_readDoor_63 ?_
      refine lv_topi (fun v18015 ev18015 => ?_)
      have tv18015 : 0 ≤ v18015.toInt ∧ v18015.toInt ≤ 127 := by rw [ev18015]; exact orA 7 rfl rfl (by omega) (by omega) (by decide)
      refine va_iast hx hb hK.1 hP hD hS 6 0 rfl rfl (inK rfl (by omega) (by decide)) dX11_readDoor_64 (fun H locs hP hD hS => ?_)
      have hP : va_P G vwCl (mS cs h q (upd (upd (upd (upd (upd (upd F 8 x18001) 9 x18002) 10 x18003) 11 x18004) 12 x18005) 13 x18006) (vA A 14 (upd (A 14) v18012.toNatClampNeg v18015)) D B) H := hP
      have hD : va_D A0 (mS cs h q (upd (upd (upd (upd (upd (upd F 8 x18001) 9 x18002) 10 x18003) 11 x18004) 12 x18005) 13 x18006) (vA A 14 (upd (A 14) v18012.toNatClampNeg v18015)) D B) := hD
      obtain ⟨g18016, eg18016⟩ : ∃ z : Nat → Int32, z = upd (A 14) v18012.toNatClampNeg v18015 := ⟨_, rfl⟩
      rw [← eg18016] at hP hD
      have hg18016 : AI 14 g18016 := by rw [eg18016]; exact AI_upd (fun j => hI.2 14 j) (door14 (r := r7.toInt) (by omega) (by omega) (by omega))
      refine lv_aload_n hx hb dX11_readDoor_65 rfl (lv_at hl 1 rfl) ?_
      refine getF (v := .ref (q 14)) hx hb ht hown hK hP iTX11 0 14 rfl rfl (by decide) fl_RX11_31 rfl dX11_readDoor_66 ?_
      refine lv_bipush (v := 8) hx hb dX11_readDoor_69 (by decide) ?_
      refine lv_iconst (v := 4) hx hb dX11_readDoor_71 (by decide) ?_
      refine lv_iload_n hx hb dX11_readDoor_72 rfl (lv_at hl 0 rfl) ?_
      refine lv_imul hx hb dX11_readDoor_73 ?_
      refine lv_topi (fun v18017 ev18017 => ?_)
      have tv18017 : v18017.toInt = 4 * r18007.toInt := by rw [ev18017]; exact mulT (show (4 : Int32).toInt = 4 by decide) rfl (by omega)
      refine lv_iadd hx hb dX11_readDoor_74 ?_
      refine lv_topi (fun v18018 ev18018 => ?_)
      have tv18018 : v18018.toInt = 8 + v18017.toInt := by rw [ev18018]; exact addT (show (8 : Int32).toInt = 8 by decide) rfl (by omega)
      refine lv_iconst (v := 3) hx hb dX11_readDoor_75 (by decide) ?_
      refine lv_iadd hx hb dX11_readDoor_76 ?_
      refine lv_topi (fun v18019 ev18019 => ?_)
      have tv18019 : v18019.toInt = v18018.toInt + 3 := by rw [ev18019]; exact addT rfl (show (3 : Int32).toInt = 3 by decide) (by omega)
      refine lv_dup2_11 hx hb dX11_readDoor_77 rfl rfl ?_
      refine va_iald hx hb hK.1 hP 6 0 rfl rfl (inK rfl (by omega) (by decide)) dX11_readDoor_78 ?_
      refine lv_topi (fun v18020 ev18020 => ?_)
      have zdv18020 : (0 : Int) ≤ v18020.toInt ∧ v18020.toInt ≤ 127 := by rw [ev18020]; exact dld14 hg18016 (r := r18007.toInt) (by omega) (by omega)
      refine lv_iconst (v := 1) hx hb dX11_readDoor_79 (by decide) ?_
      refine lv_iload_n hx hb dX11_readDoor_80 rfl (lv_at hl 2 rfl) ?_
      refine lv_ishl hx hb dX11_readDoor_81 ?_
      refine lv_topi (fun v18021 ev18021 => ?_)
      have tv18021 : (1 : Int) ≤ v18021.toInt ∧ v18021.toInt ≤ 64 := by rw [ev18021]; exact shlT 6 (by decide) rfl (by omega) (by decide)
      have pv18021 : v18021.toInt = P2 r7.toInt := by rw [ev18021]; exact shlP rfl (by omega)
      refine lv_ior hx hb dX11_readDoor_82 ?_
      refine lv_topi (fun v18022 ev18022 => ?_)
      have tv18022 : 0 ≤ v18022.toInt ∧ v18022.toInt ≤ 127 := by rw [ev18022]; exact orA 7 rfl rfl (by omega) (by omega) (by decide)
      refine va_iast hx hb hK.1 hP hD hS 6 0 rfl rfl (inK rfl (by omega) (by decide)) dX11_readDoor_83 (fun H locs hP hD hS => ?_)
      have hP : va_P G vwCl (mS cs h q (upd (upd (upd (upd (upd (upd F 8 x18001) 9 x18002) 10 x18003) 11 x18004) 12 x18005) 13 x18006) (vA A 14 (upd g18016 v18019.toNatClampNeg v18022)) D B) H := hP
      have hD : va_D A0 (mS cs h q (upd (upd (upd (upd (upd (upd F 8 x18001) 9 x18002) 10 x18003) 11 x18004) 12 x18005) 13 x18006) (vA A 14 (upd g18016 v18019.toNatClampNeg v18022)) D B) := hD
      obtain ⟨g18023, eg18023⟩ : ∃ z : Nat → Int32, z = upd g18016 v18019.toNatClampNeg v18022 := ⟨_, rfl⟩
      rw [← eg18023] at hP hD
      have hg18023 : AI 14 g18023 := by rw [eg18023]; exact AI_upd (fun j => hg18016 j) (door14 (r := r18007.toInt) (by omega) (by omega) (by omega))
      exact retDw (x18001, x18002, x18003, x18004, x18005, x18006, g18023) hx hb hr hlk hP hD hS dX11_readDoor_84 (⟨show (0 : Int) ≤ x18001.toInt ∧ x18001.toInt ≤ 900 by omega, show (0 : Int) ≤ x18002.toInt ∧ x18002.toInt ≤ 900 by omega, show (0 : Int) ≤ x18003.toInt ∧ x18003.toInt ≤ 4 by omega, show (0 : Int) ≤ x18004.toInt ∧ x18004.toInt ≤ 99999 by omega, show (0 : Int) ≤ x18005.toInt ∧ x18005.toInt ≤ 3 by omega, show (-1 : Int) ≤ x18006.toInt ∧ x18006.toInt ≤ 900 by omega, hg18023, ⟨hr18007.1, (show (F 9).toInt ≤ x18002.toInt by omega), fun q9 => (h33 (hr18007.2.2.1 q9).1), (fun q9 => (WGe (WGe (hWG (h33 (hr18007.2.2.1 q9).1)) eg18016 ((fun j => hI.2 14 j) 5).2 (by have y9 := clK (i := v18012) rfl (by omega); omega)) eg18023 (hg18016 5).2 (by have y9 := clK (i := v18019) rfl (by omega); omega)))⟩⟩) (Nat.le_of_ble_eq_true rfl) (Nat.le_of_ble_eq_true rfl)
    · have zc18009 := eqK rfl (show (0 : Int32).toInt = 0 by decide) c18009
      exact retDw (x18001, x18002, x18003, x18004, x18005, x18006, (A 14)) hx hb hr hlk hP hD hS dX11_readDoor_45 (⟨show (0 : Int) ≤ x18001.toInt ∧ x18001.toInt ≤ 900 by omega, show (0 : Int) ≤ x18002.toInt ∧ x18002.toInt ≤ 900 by omega, show (0 : Int) ≤ x18003.toInt ∧ x18003.toInt ≤ 4 by omega, show (0 : Int) ≤ x18004.toInt ∧ x18004.toInt ≤ 99999 by omega, show (0 : Int) ≤ x18005.toInt ∧ x18005.toInt ≤ 3 by omega, show (-1 : Int) ≤ x18006.toInt ∧ x18006.toInt ≤ 900 by omega, fun j => hI.2 14 j, ⟨hr18007.1, (show (F 9).toInt ≤ x18002.toInt by omega), fun q9 => (h33 (hr18007.2.2.1 q9).1), (fun q9 => (hWG (h33 (hr18007.2.2.1 q9).1)))⟩⟩) (Nat.le_of_ble_eq_true rfl) (Nat.le_of_ble_eq_true rfl)
  refine lv_if_eq (tgt := 33) hx hb dX11_readDoor_9 (by decide) (fun c9 => ?_) (fun c9 => ?_)
  · have zc9 := eqK rfl (show (0 : Int32).toInt = 0 by decide) c9
    exact B33 x5 x6 H locs ls (by omega) (by omega) (fun q9 => (hr7.2.2.1 q9).1) hP hD hS (lv_sub hl [1, 0] rfl)
  · have zc9 := neK rfl (show (0 : Int32).toInt = 0 by decide) c9
    refine lv_aload_n hx hb dX11_readDoor_12 rfl (lv_at hl 1 rfl) ?_
    refine getF (v := .int x3) hx hb ht hown hK hP iTX11 0 10 rfl rfl (by decide) fl_RX11_109 rfl dX11_readDoor_13 ?_
    refine lv_iconst (v := 2) hx hb dX11_readDoor_16 (by decide) ?_
    refine lv_icmp_ne (tgt := 33) hx hb dX11_readDoor_17 (by decide) (fun c10 => ?_) (fun c10 => ?_)
    · have zc10 := neK rfl (show (2 : Int32).toInt = 2 by decide) c10
      exact B33 x5 x6 H locs ls (by omega) (by omega) (fun q9 => (hr7.2.2.1 q9).1) hP hD hS (lv_sub hl [1, 0] rfl)
    · have zc10 := eqK rfl (show (2 : Int32).toInt = 2 by decide) c10
      refine lv_aload_n hx hb dX11_readDoor_20 rfl (lv_at hl 1 rfl) ?_
      refine getF (v := .int x4) hx hb ht hown hK hP iTX11 0 11 rfl rfl (by decide) fl_RX11_120 rfl dX11_readDoor_21 ?_
      refine lv_iload_n hx hb dX11_readDoor_24 rfl (lv_at hl 0 rfl) ?_
      refine lv_icmp_ne (tgt := 33) hx hb dX11_readDoor_25 (by decide) (fun c11 => ?_) (fun c11 => ?_)
      · have zc11 := neK rfl rfl c11
        exact B33 x5 x6 H locs ls (by omega) (by omega) (fun q9 => (hr7.2.2.1 q9).1) hP hD hS (lv_sub hl [1, 0] rfl)
      · have zc11 := eqK rfl rfl c11
        refine lv_aload_n hx hb dX11_readDoor_28 rfl (lv_at hl 1 rfl) ?_
        refine lv_iconst (v := 2) hx hb dX11_readDoor_29 (by decide) ?_
        refine behDw (wr := []) (runVD (As := [.int 2]) (rest := []) ⟨hx, hb, hml, hown, ht⟩ (sX11_errs l G cs h q (upd (upd (upd (upd (upd (upd F 8 x1) 9 x2) 10 x3) 11 x4) 12 x5) 13 x6) A D B (IM_put (k := 13) (IM_put (k := 12) (IM_put (k := 11) (IM_put (k := 10) (IM_put (k := 9) (IM_put (k := 8) hI (show (0 : Int) ≤ x1.toInt ∧ x1.toInt ≤ 900 by omega)) (show (0 : Int) ≤ x2.toInt ∧ x2.toInt ≤ 900 by omega)) (show (0 : Int) ≤ x3.toInt ∧ x3.toInt ≤ 4 by omega)) (show (0 : Int) ≤ x4.toInt ∧ x4.toInt ≤ 99999 by omega)) (show (0 : Int) ≤ x5.toInt ∧ x5.toInt ≤ 3 by omega)) (show (-1 : Int) ≤ x6.toInt ∧ x6.toInt ≤ 900 by omega)) 2 (by decide)) okV_RX11_156 ⟨by decide, by decide⟩ hK hP hD [0, 1, 2, 3, 4, 5, 6, 7, 8, 9, 10, 11, 12, 13, 14, 15, 16, 17, 18, 19] rfl (by decide) rfl 0 rfl rfl hl.1 rfl (Nat.le_of_ble_eq_true rfl) dX11_readDoor_30 ⟨(Nat.le_of_ble_eq_true rfl), (Nat.le_of_ble_eq_true rfl)⟩) hP hD hS hA [0, 1, 2, 3, 4, 5, 6, 7, 8, 9, 10, 11, 12, 13, 14, 15, 16, 17, 18, 19] [] rfl rfl (by decide) (by decide) (fun u H locs hu hP hD hS => ?_)
        obtain ⟨x12, x13⟩ := u
        have kk15 : (2 : Int32).toInt = 2 := by decide
        obtain ⟨hbx12, hbx13, hr14⟩ := hu
        have hbx12 : (0 : Int) ≤ x12.toInt ∧ x12.toInt ≤ 3 := hbx12
        have hbx13 : (-1 : Int) ≤ x13.toInt ∧ x13.toInt ≤ 900 := hbx13
        have hr14 : ¬ x12.toInt = 0 := hr14
        have hP : va_P G vwCl (mS cs h q (upd (upd (upd (upd (upd (upd F 8 x1) 9 x2) 10 x3) 11 x4) 12 x12) 13 x13) A D B) H := hP
        have hD : va_D A0 (mS cs h q (upd (upd (upd (upd (upd (upd F 8 x1) 9 x2) 10 x3) 11 x4) 12 x12) 13 x13) A D B) := hD
        exact B33 x12 x13 H locs ls (by omega) (by omega) (fun q9 => absurd q9 (by omega)) hP hD hS (lv_sub hl [1, 0] rfl)

set_option maxRecDepth 100000 in
set_option maxHeartbeats 8000000 in
theorem sX11_readMan (l : Launch) (G : va_G) (cs : Nat → ClassId) (sd : Nat → Nat × Nat) (h : Nat) (q : Nat → Nat) (F : Nat → Int32) (A : Nat → Nat → Int32) (D : Int64) (B : Nat → Nat → Int64) (hI : IM F A) (hPI : PIk (F 8) (F 9) (F 10)) (h5m : ((A 14) 5).toInt ≤ 5) (hWG : WGk (F 12) (A 14)) : ∀ sz : Nat, Met l yX11_readMan (wk yX11_readMan cX11_readMan 5 none) (rmk 8 0 0) (PreDS SRM sd G (TY cs) [.ref h] (mS cs h q F A D B) sz) ((QDw G (fun u : Int32 × Int32 × Int32 × Int32 × Int32 × Int32 × (Nat → Int32) => ((0 : Int) ≤ u.1.toInt ∧ u.1.toInt ≤ 900) ∧ ((0 : Int) ≤ u.2.1.toInt ∧ u.2.1.toInt ≤ 900) ∧ ((0 : Int) ≤ u.2.2.1.toInt ∧ u.2.2.1.toInt ≤ 4) ∧ ((0 : Int) ≤ u.2.2.2.1.toInt ∧ u.2.2.2.1.toInt ≤ 99999) ∧ ((0 : Int) ≤ u.2.2.2.2.1.toInt ∧ u.2.2.2.2.1.toInt ≤ 3) ∧ ((-1 : Int) ≤ u.2.2.2.2.2.1.toInt ∧ u.2.2.2.2.2.1.toInt ≤ 900) ∧ AI 14 u.2.2.2.2.2.2 ∧ (PIk u.1 u.2.1 u.2.2.1 ∧ (F 9).toInt ≤ u.2.1.toInt ∧ MOk u.2.2.2.2.1 (F 12) ∧ WGk u.2.2.2.2.1 u.2.2.2.2.2.2)) (fun u : Int32 × Int32 × Int32 × Int32 × Int32 × Int32 × (Nat → Int32) => (mS cs h q (upd (upd (upd (upd (upd (upd F 8 u.1) 9 u.2.1) 10 u.2.2.1) 11 u.2.2.2.1) 12 u.2.2.2.2.1) 13 u.2.2.2.2.2.1) (vA A 14 u.2.2.2.2.2.2) D B))) (va_A (mS cs h q F A D B) sz)) 0 0 (va_A (mS cs h q F A D B) sz) := by
  refine mkDS (Qc := (QDw G (fun u : Int32 × Int32 × Int32 × Int32 × Int32 × Int32 × (Nat → Int32) => ((0 : Int) ≤ u.1.toInt ∧ u.1.toInt ≤ 900) ∧ ((0 : Int) ≤ u.2.1.toInt ∧ u.2.1.toInt ≤ 900) ∧ ((0 : Int) ≤ u.2.2.1.toInt ∧ u.2.2.1.toInt ≤ 4) ∧ ((0 : Int) ≤ u.2.2.2.1.toInt ∧ u.2.2.2.1.toInt ≤ 99999) ∧ ((0 : Int) ≤ u.2.2.2.2.1.toInt ∧ u.2.2.2.2.1.toInt ≤ 3) ∧ ((-1 : Int) ≤ u.2.2.2.2.2.1.toInt ∧ u.2.2.2.2.2.1.toInt ≤ 900) ∧ AI 14 u.2.2.2.2.2.2 ∧ (PIk u.1 u.2.1 u.2.2.1 ∧ (F 9).toInt ≤ u.2.1.toInt ∧ MOk u.2.2.2.2.1 (F 12) ∧ WGk u.2.2.2.2.1 u.2.2.2.2.2.2)) (fun u : Int32 × Int32 × Int32 × Int32 × Int32 × Int32 × (Nat → Int32) => (mS cs h q (upd (upd (upd (upd (upd (upd F 8 u.1) 9 u.2.1) 10 u.2.2.1) 11 u.2.2.2.1) 12 u.2.2.2.2.1) 13 u.2.2.2.2.2.1) (vA A 14 u.2.2.2.2.2.2) D B)))) (by decide) (by simp [lg_sl, Value.category]) ?_
  intro p e s m args below meth c ls A0 hx hb hml hr hlk hown hmn ht hK hP hD hS hA hQ hl
  have hl : lv_has ls 5 [(0, .ref h)] := hl
  refine lv_aload_n hx hb dX11_readMan_0 rfl (lv_at hl 0 rfl) ?_
  refine getF (v := .ref (q 14)) hx hb ht hown hK hP iTX11 0 14 rfl rfl (by decide) fl_RX11_31 rfl dX11_readMan_1 ?_
  refine lv_iconst (v := 5) hx hb dX11_readMan_4 (by decide) ?_
  refine va_iald hx hb hK.1 hP 6 0 rfl rfl (show ¬ (_ ∨ _) by decide) dX11_readMan_5 ?_
  refine W.eq (g2 := F0 m 6 ls [.int (A 14 5)]) rfl ?_
  have zf1 : (0 : Int) ≤ (A 14 5).toInt ∧ (A 14 5).toInt ≤ 6 := (hI.2 14 5)
  refine lv_istore_n (lv' := [(1, .int (A 14 5)), (0, .ref h)]) hx hb dX11_readMan_6 rfl hl (by decide) rfl (fun ls hl => ?_)
  refine lv_bipush (v := 36) hx hb dX11_readMan_7 (by decide) ?_
  refine lv_bipush (v := 8) hx hb dX11_readMan_9 (by decide) ?_
  refine lv_iload_n hx hb dX11_readMan_11 rfl (lv_at hl 0 rfl) ?_
  refine lv_imul hx hb dX11_readMan_12 ?_
  refine lv_topi (fun v2 ev2 => ?_)
  have tv2 : v2.toInt = 8 * (A 14 5).toInt := by rw [ev2]; exact mulT (show (8 : Int32).toInt = 8 by decide) rfl (by omega)
  refine lv_iadd hx hb dX11_readMan_13 ?_
  refine lv_topi (fun v3 ev3 => ?_)
  have tv3 : v3.toInt = 36 + v2.toInt := by rw [ev3]; exact addT (show (36 : Int32).toInt = 36 by decide) rfl (by omega)
  refine lv_istore_n (lv' := [(2, .int v3), (1, .int (A 14 5)), (0, .ref h)]) hx hb dX11_readMan_14 rfl hl (by decide) rfl (fun ls hl => ?_)
  refine lv_aload_n hx hb dX11_readMan_15 rfl (lv_at hl 2 rfl) ?_
  refine getF (v := .ref (q 14)) hx hb ht hown hK hP iTX11 0 14 rfl rfl (by decide) fl_RX11_31 rfl dX11_readMan_16 ?_
  refine lv_iload_n hx hb dX11_readMan_19 rfl (lv_at hl 0 rfl) ?_
  refine lv_iconst (v := 0) hx hb dX11_readMan_20 (by decide) ?_
  refine lv_iadd hx hb dX11_readMan_21 ?_
  refine lv_topi (fun v4 ev4 => ?_)
  have tv4 : v4.toInt = v3.toInt + 0 := by rw [ev4]; exact addT rfl (show (0 : Int32).toInt = 0 by decide) (by omega)
  refine lv_aload_n hx hb dX11_readMan_22 rfl (lv_at hl 2 rfl) ?_
  have hz5 : vk_R "CallForBrownModel" 180 "weighs" (sd 11).1 s := hQ.2.2.2 ("CallForBrownModel", 180, "weighs", 11) (List.mem_of_getElem? (i := 12) rfl)
  refine va_ldcS hx hb hown hz5 dX11_readMan_23 ?_
  refine lv_iconst (v := 1) hx hb dX11_readMan_25 (by decide) ?_
  refine lv_bipush (v := 99) hx hb dX11_readMan_26 (by decide) ?_
  refine behDi (wr := []) (runVDS (As := [.ref ((sd 11).1), .int 1, .int 99]) (rest := [.int v4, .ref (q 14)]) ⟨hx, hb, hml, hown, ht⟩ (sX11_told l G cs sd h q F A D B hI 11 (by decide) 1 99  (show PIk (F 8) (F 9) (F 10) from hPI)) okV_RX11_169 ⟨by decide, by decide⟩ hK hP hD hQ hS hA [0, 1, 2, 3, 4, 5, 6, 7, 8, 9, 10, 11, 12, 13, 14, 15, 16, 17, 18, 19] rfl (by decide) rfl 0 rfl rfl hl.1 rfl (Nat.le_of_ble_eq_true rfl) dX11_readMan_28 ⟨(Nat.le_of_ble_eq_true rfl), (Nat.le_of_ble_eq_true rfl)⟩) hP hD hS hA [0, 1, 2, 3, 4, 5, 6, 7, 8, 9, 10, 11, 12, 13, 14, 15, 16, 17, 18, 19] [] rfl rfl (by decide) (by decide) (fun r9 u H locs hu hP hD hS => ?_)
  obtain ⟨x6, x7, x8, x9, x10, x11⟩ := u
  have kk13 : (1 : Int32).toInt = 1 := by decide
  have kk14 : (99 : Int32).toInt = 99 := by decide
  obtain ⟨r12, rfl⟩ : ∃ z, z = r9 := ⟨_, rfl⟩
  obtain ⟨hbx6, hbx7, hbx8, hbx9, hbx10, hbx11, hr12⟩ := hu
  have hbx6 : (0 : Int) ≤ x6.toInt ∧ x6.toInt ≤ 900 := hbx6
  have hbx7 : (0 : Int) ≤ x7.toInt ∧ x7.toInt ≤ 900 := hbx7
  have hbx8 : (0 : Int) ≤ x8.toInt ∧ x8.toInt ≤ 4 := hbx8
  have hbx9 : (0 : Int) ≤ x9.toInt ∧ x9.toInt ≤ 99999 := hbx9
  have hbx10 : (0 : Int) ≤ x10.toInt ∧ x10.toInt ≤ 3 := hbx10
  have hbx11 : (-1 : Int) ≤ x11.toInt ∧ x11.toInt ≤ 900 := hbx11
  have hr12 : PIk x6 x7 x8 ∧ ((F 9).toInt ≤ x7.toInt) ∧ NMk x10 (F 12) (F 9) x7 r12 ((1 : Int32).toInt) ((99 : Int32).toInt) ∧ RBk r12 ((1 : Int32).toInt) ((99 : Int32).toInt) := hr12
  have hP : va_P G vwCl (mS cs h q (upd (upd (upd (upd (upd (upd F 8 x6) 9 x7) 10 x8) 11 x9) 12 x10) 13 x11) A D B) H := hP
  have hD : va_D A0 (mS cs h q (upd (upd (upd (upd (upd (upd F 8 x6) 9 x7) 10 x8) 11 x9) 12 x10) 13 x11) A D B) := hD
  have hbr12 := RBb (A := 0) (B := 99) hr12.2.2.2 (by omega) (by omega)
  refine va_iast hx hb hK.1 hP hD hS 6 0 rfl rfl (inK rfl (by omega) (by decide)) dX11_readMan_31 (fun H locs hP hD hS => ?_)
  have hP : va_P G vwCl (mS cs h q (upd (upd (upd (upd (upd (upd F 8 x6) 9 x7) 10 x8) 11 x9) 12 x10) 13 x11) (vA A 14 (upd (A 14) v4.toNatClampNeg r12)) D B) H := hP
  have hD : va_D A0 (mS cs h q (upd (upd (upd (upd (upd (upd F 8 x6) 9 x7) 10 x8) 11 x9) 12 x10) 13 x11) (vA A 14 (upd (A 14) v4.toNatClampNeg r12)) D B) := hD
  obtain ⟨g15, eg15⟩ : ∃ z : Nat → Int32, z = upd (A 14) v4.toNatClampNeg r12 := ⟨_, rfl⟩
  rw [← eg15] at hP hD
  have hg15 : AI 14 g15 := by rw [eg15]; exact AI_upd (fun j => hI.2 14 j) (man_fact (r := (A 14 5).toInt) (w := 0) (by omega) (by omega) (by omega) (by omega))
  refine lv_iconst (v := 0) hx hb dX11_readMan_32 (by decide) ?_
  refine lv_istore_n (lv' := [(3, .int 0), (2, .int v3), (1, .int (A 14 5)), (0, .ref h)]) hx hb dX11_readMan_33 rfl hl (by decide) rfl (fun ls hl => ?_)
  refine lv_aload_n hx hb dX11_readMan_34 rfl (lv_at hl 3 rfl) ?_
  have hz16 : vk_R "CallForBrownModel" 182 "yes" (sd 12).1 s := hQ.2.2.2 ("CallForBrownModel", 182, "yes", 12) (List.mem_of_getElem? (i := 13) rfl)
  refine va_ldcS hx hb hown hz16 dX11_readMan_35 ?_
  refine behDi (wr := []) (runVDS (As := [.ref ((sd 12).1)]) (rest := []) ⟨hx, hb, hml, hown, ht⟩ (sX11_takes l G cs sd h q (upd (upd (upd (upd (upd (upd F 8 x6) 9 x7) 10 x8) 11 x9) 12 x10) 13 x11) (vA A 14 g15) D B (IM_arr (k := 14) (IM_put (k := 13) (IM_put (k := 12) (IM_put (k := 11) (IM_put (k := 10) (IM_put (k := 9) (IM_put (k := 8) hI (show (0 : Int) ≤ x6.toInt ∧ x6.toInt ≤ 900 by omega)) (show (0 : Int) ≤ x7.toInt ∧ x7.toInt ≤ 900 by omega)) (show (0 : Int) ≤ x8.toInt ∧ x8.toInt ≤ 4 by omega)) (show (0 : Int) ≤ x9.toInt ∧ x9.toInt ≤ 99999 by omega)) (show (0 : Int) ≤ x10.toInt ∧ x10.toInt ≤ 3 by omega)) (show (-1 : Int) ≤ x11.toInt ∧ x11.toInt ≤ 900 by omega)) hg15) 12 (by decide)  (show PIk x6 x7 x8 from hr12.1)) okV_RX11_153 ⟨by decide, by decide⟩ hK hP hD hQ hS hA [0, 1, 2, 3, 4, 5, 6, 7, 8, 9, 10, 11, 12, 13, 14, 15, 16, 17, 18, 19] rfl (by decide) rfl 0 rfl rfl hl.1 rfl (Nat.le_of_ble_eq_true rfl) dX11_readMan_37 ⟨(Nat.le_of_ble_eq_true rfl), (Nat.le_of_ble_eq_true rfl)⟩) hP hD hS hA [0, 1, 2, 3, 4, 5, 6, 7, 8, 9, 10, 11, 12, 13, 14, 15, 16, 17, 18, 19] [] rfl rfl (by decide) (by decide) (fun r9 u H locs hu hP hD hS => ?_)
  obtain ⟨x17, x18, x19, x20⟩ := u
  obtain ⟨r21, rfl⟩ : ∃ z, z = r9 := ⟨_, rfl⟩
  obtain ⟨hbx17, hbx18, hbx19, hbx20, hr21⟩ := hu
  have hbx17 : (0 : Int) ≤ x17.toInt ∧ x17.toInt ≤ 900 := hbx17
  have hbx18 : (0 : Int) ≤ x18.toInt ∧ x18.toInt ≤ 900 := hbx18
  have hbx19 : (0 : Int) ≤ x19.toInt ∧ x19.toInt ≤ 4 := hbx19
  have hbx20 : (0 : Int) ≤ x20.toInt ∧ x20.toInt ≤ 99999 := hbx20
  have hr21 : ((0 : Int) ≤ r21.toInt ∧ r21.toInt ≤ 1 ∧ x7.toInt ≤ x18.toInt) ∧ (r21.toInt = 0 ∨ (x10.toInt = 0 ∧ x7.toInt < x18.toInt)) ∧ PIk x17 x18 x19 ∧ TKP r21 x10 x6 x7 x8 x17 x18 x19 (A 4) 12 := hr21
  have hP : va_P G vwCl (mS cs h q (upd (upd (upd (upd (upd (upd F 8 x17) 9 x18) 10 x19) 11 x20) 12 x10) 13 x11) (vA A 14 g15) D B) H := hP
  have hD : va_D A0 (mS cs h q (upd (upd (upd (upd (upd (upd F 8 x17) 9 x18) 10 x19) 11 x20) 12 x10) 13 x11) (vA A 14 g15) D B) := hD
  have B74 : ∀ (x74_3 : Int32) (f8_74 : Int32) (f9_74 : Int32) (f10_74 : Int32) (f11_74 : Int32) (f12_74 : Int32) (f13_74 : Int32) (H : Heap) (locs : List Loc) (ls : Array Slot), (0 : Int) ≤ x74_3.toInt ∧ x74_3.toInt ≤ 63 → (0 : Int) ≤ f8_74.toInt ∧ f8_74.toInt ≤ 900 → (0 : Int) ≤ f9_74.toInt ∧ f9_74.toInt ≤ 900 → (0 : Int) ≤ f10_74.toInt ∧ f10_74.toInt ≤ 4 → (0 : Int) ≤ f11_74.toInt ∧ f11_74.toInt ≤ 99999 → (0 : Int) ≤ f12_74.toInt ∧ f12_74.toInt ≤ 3 → (-1 : Int) ≤ f13_74.toInt ∧ f13_74.toInt ≤ 900 → (PIk f8_74 f9_74 f10_74) → (x7.toInt ≤ f9_74.toInt) → (MOk f12_74 x10) → va_P G vwCl (mS cs h q (upd (upd (upd (upd (upd (upd F 8 f8_74) 9 f9_74) 10 f10_74) 11 f11_74) 12 f12_74) 13 f13_74) (vA A 14 g15) D B) H → va_D A0 (mS cs h q (upd (upd (upd (upd (upd (upd F 8 f8_74) 9 f9_74) 10 f10_74) 11 f11_74) 12 f12_74) 13 f13_74) (vA A 14 g15) D B) → va_S A0 s.heap H locs → lv_has ls 5 [(0, .ref h), (1, .int (A 14 5)), (2, .int v3), (3, .int x74_3)] → W p l e (rmk 8 0 0) s m args below meth c H locs 0 0 (MQ below ((QDw G (fun u : Int32 × Int32 × Int32 × Int32 × Int32 × Int32 × (Nat → Int32) => ((0 : Int) ≤ u.1.toInt ∧ u.1.toInt ≤ 900) ∧ ((0 : Int) ≤ u.2.1.toInt ∧ u.2.1.toInt ≤ 900) ∧ ((0 : Int) ≤ u.2.2.1.toInt ∧ u.2.2.1.toInt ≤ 4) ∧ ((0 : Int) ≤ u.2.2.2.1.toInt ∧ u.2.2.2.1.toInt ≤ 99999) ∧ ((0 : Int) ≤ u.2.2.2.2.1.toInt ∧ u.2.2.2.2.1.toInt ≤ 3) ∧ ((-1 : Int) ≤ u.2.2.2.2.2.1.toInt ∧ u.2.2.2.2.2.1.toInt ≤ 900) ∧ AI 14 u.2.2.2.2.2.2 ∧ (PIk u.1 u.2.1 u.2.2.1 ∧ (F 9).toInt ≤ u.2.1.toInt ∧ MOk u.2.2.2.2.1 (F 12) ∧ WGk u.2.2.2.2.1 u.2.2.2.2.2.2)) (fun u : Int32 × Int32 × Int32 × Int32 × Int32 × Int32 × (Nat → Int32) => (mS cs h q (upd (upd (upd (upd (upd (upd F 8 u.1) 9 u.2.1) 10 u.2.2.1) 11 u.2.2.2.1) 12 u.2.2.2.2.1) 13 u.2.2.2.2.2.1) (vA A 14 u.2.2.2.2.2.2) D B))) A0) args s 0 0 A0) (F0 m 74 ls []) := by
    intro x74_3 f8_74 f9_74 f10_74 f11_74 f12_74 f13_74 H locs ls hx74_3 hf8_74 hf9_74 hf10_74 hf11_74 hf12_74 hf13_74 hpi74 hfr74 hm74 hP hD hS hl
    refine lv_aload_n hx hb dX11_readMan_74 rfl (lv_at hl 0 rfl) ?_
    refine getF (v := .ref (q 14)) hx hb ht hown hK hP iTX11 0 14 rfl rfl (by decide) fl_RX11_31 rfl dX11_readMan_75 ?_
    refine lv_iload_n hx hb dX11_readMan_78 rfl (lv_at hl 2 rfl) ?_
    refine lv_iconst (v := 1) hx hb dX11_readMan_79 (by decide) ?_
    refine lv_iadd hx hb dX11_readMan_80 ?_
    refine lv_topi (fun v48001 ev48001 => ?_)
    have tv48001 : v48001.toInt = v3.toInt + 1 := by rw [ev48001]; exact addT rfl (show (1 : Int32).toInt = 1 by decide) (by omega)
    refine lv_iload_n hx hb dX11_readMan_81 rfl (lv_at hl 3 rfl) ?_
    refine va_iast hx hb hK.1 hP hD hS 6 0 rfl rfl (inK rfl (by omega) (by decide)) dX11_readMan_82 (fun H locs hP hD hS => ?_)
    have hP : va_P G vwCl (mS cs h q (upd (upd (upd (upd (upd (upd F 8 f8_74) 9 f9_74) 10 f10_74) 11 f11_74) 12 f12_74) 13 f13_74) (vA A 14 (upd g15 v48001.toNatClampNeg x74_3)) D B) H := hP
    have hD : va_D A0 (mS cs h q (upd (upd (upd (upd (upd (upd F 8 f8_74) 9 f9_74) 10 f10_74) 11 f11_74) 12 f12_74) 13 f13_74) (vA A 14 (upd g15 v48001.toNatClampNeg x74_3)) D B) := hD
    obtain ⟨g48002, eg48002⟩ : ∃ z : Nat → Int32, z = upd g15 v48001.toNatClampNeg x74_3 := ⟨_, rfl⟩
    rw [← eg48002] at hP hD
    have hg48002 : AI 14 g48002 := by rw [eg48002]; exact AI_upd (fun j => hg15 j) (man_fact (r := (A 14 5).toInt) (w := 1) (by omega) (by omega) (by omega) (by omega))
    refine lv_iconst (v := 0) hx hb dX11_readMan_83 (by decide) ?_
    refine lv_istore (lv' := [(4, .int 0), (0, .ref h), (1, .int (A 14 5)), (2, .int v3), (3, .int x74_3)]) hx hb dX11_readMan_84 hl (by decide) rfl (fun ls hl => ?_)
    have B86 : ∀ (n : Nat) (x86_4 : Int32) (a14_86 : (Nat → Int32)) (H : Heap) (locs : List Loc) (ls : Array Slot), (6 - x86_4.toInt).toNat < n → (0 : Int) ≤ x86_4.toInt ∧ x86_4.toInt ≤ 6 → AI 14 a14_86 → ((a14_86 5).toInt = (A 14 5).toInt ∧ (x10.toInt = 0 → WG a14_86 ∧ 1 ≤ (a14_86 (36 + 8 * (A 14 5).toNatClampNeg)).toInt)) → va_P G vwCl (mS cs h q (upd (upd (upd (upd (upd (upd F 8 f8_74) 9 f9_74) 10 f10_74) 11 f11_74) 12 f12_74) 13 f13_74) (vA A 14 a14_86) D B) H → va_D A0 (mS cs h q (upd (upd (upd (upd (upd (upd F 8 f8_74) 9 f9_74) 10 f10_74) 11 f11_74) 12 f12_74) 13 f13_74) (vA A 14 a14_86) D B) → va_S A0 s.heap H locs → lv_has ls 5 [(0, .ref h), (1, .int (A 14 5)), (2, .int v3), (4, .int x86_4)] → W p l e (rmk 8 0 0) s m args below meth c H locs 0 0 (MQ below ((QDw G (fun u : Int32 × Int32 × Int32 × Int32 × Int32 × Int32 × (Nat → Int32) => ((0 : Int) ≤ u.1.toInt ∧ u.1.toInt ≤ 900) ∧ ((0 : Int) ≤ u.2.1.toInt ∧ u.2.1.toInt ≤ 900) ∧ ((0 : Int) ≤ u.2.2.1.toInt ∧ u.2.2.1.toInt ≤ 4) ∧ ((0 : Int) ≤ u.2.2.2.1.toInt ∧ u.2.2.2.1.toInt ≤ 99999) ∧ ((0 : Int) ≤ u.2.2.2.2.1.toInt ∧ u.2.2.2.2.1.toInt ≤ 3) ∧ ((-1 : Int) ≤ u.2.2.2.2.2.1.toInt ∧ u.2.2.2.2.2.1.toInt ≤ 900) ∧ AI 14 u.2.2.2.2.2.2 ∧ (PIk u.1 u.2.1 u.2.2.1 ∧ (F 9).toInt ≤ u.2.1.toInt ∧ MOk u.2.2.2.2.1 (F 12) ∧ WGk u.2.2.2.2.1 u.2.2.2.2.2.2)) (fun u : Int32 × Int32 × Int32 × Int32 × Int32 × Int32 × (Nat → Int32) => (mS cs h q (upd (upd (upd (upd (upd (upd F 8 u.1) 9 u.2.1) 10 u.2.2.1) 11 u.2.2.2.1) 12 u.2.2.2.2.1) 13 u.2.2.2.2.2.1) (vA A 14 u.2.2.2.2.2.2) D B))) A0) args s 0 0 A0) (F0 m 86 ls []) := by
      intro n
      induction n with
      | zero => intro x86_4 a14_86 H locs ls hmeas hx86_4 ha14_86 hwm hP hD hS hl; exact absurd hmeas (Nat.not_lt_zero _)
      | succ n ih86 =>
        intro x86_4 a14_86 H locs ls hmeas hx86_4 ha14_86 hwm hP hD hS hl
        refine lv_iload hx hb dX11_readMan_86 (lv_at hl 3 rfl) ?_
        refine lv_bipush (v := 6) hx hb dX11_readMan_88 (by decide) ?_
        refine lv_icmp_ge (tgt := 121) hx hb dX11_readMan_90 (by decide) (fun c57001 => ?_) (fun c57001 => ?_)
        · have zc57001 := leK (show (6 : Int32).toInt = 6 by decide) rfl c57001
          refine lv_aload_n hx hb dX11_readMan_121 rfl (lv_at hl 0 rfl) ?_
          refine getF (v := .ref (q 14)) hx hb ht hown hK hP iTX11 0 14 rfl rfl (by decide) fl_RX11_31 rfl dX11_readMan_122 ?_
          refine lv_iconst (v := 5) hx hb dX11_readMan_125 (by decide) ?_
          refine lv_dup2_11 hx hb dX11_readMan_126 rfl rfl ?_
          refine va_iald hx hb hK.1 hP 6 0 rfl rfl (show ¬ (_ ∨ _) by decide) dX11_readMan_127 ?_
          refine W.eq (g2 := F0 m 128 ls [.int (a14_86 5), .int 5, .ref (q 14)]) rfl ?_
          have zf57002 : (0 : Int) ≤ (a14_86 5).toInt ∧ (a14_86 5).toInt ≤ 6 := (ha14_86 5)
          refine lv_iconst (v := 1) hx hb dX11_readMan_128 (by decide) ?_
          refine lv_iadd hx hb dX11_readMan_129 ?_
          refine lv_topi (fun v57003 ev57003 => ?_)
          have tv57003 : v57003.toInt = (a14_86 5).toInt + 1 := by rw [ev57003]; exact addT rfl (show (1 : Int32).toInt = 1 by decide) (by omega)
          refine va_iast hx hb hK.1 hP hD hS 6 0 rfl rfl (show ¬ (_ ∨ _) by decide) dX11_readMan_130 (fun H locs hP hD hS => ?_)
          have hP : va_P G vwCl (mS cs h q (upd (upd (upd (upd (upd (upd F 8 f8_74) 9 f9_74) 10 f10_74) 11 f11_74) 12 f12_74) 13 f13_74) (vA A 14 (upd a14_86 (5 : Int32).toNatClampNeg v57003)) D B) H := hP
          have hD : va_D A0 (mS cs h q (upd (upd (upd (upd (upd (upd F 8 f8_74) 9 f9_74) 10 f10_74) 11 f11_74) 12 f12_74) 13 f13_74) (vA A 14 (upd a14_86 (5 : Int32).toNatClampNeg v57003)) D B) := hD
          obtain ⟨g57004, eg57004⟩ : ∃ z : Nat → Int32, z = upd a14_86 (5 : Int32).toNatClampNeg v57003 := ⟨_, rfl⟩
          rw [← eg57004] at hP hD
          have hg57004 : AI 14 g57004 := by rw [eg57004]; exact AI_upd (fun j => ha14_86 j) (show (0 : Int) ≤ v57003.toInt ∧ v57003.toInt ≤ 6 by omega)
          exact retDw (f8_74, f9_74, f10_74, f11_74, f12_74, f13_74, g57004) hx hb hr hlk hP hD hS dX11_readMan_131 (⟨show (0 : Int) ≤ f8_74.toInt ∧ f8_74.toInt ≤ 900 by omega, show (0 : Int) ≤ f9_74.toInt ∧ f9_74.toInt ≤ 900 by omega, show (0 : Int) ≤ f10_74.toInt ∧ f10_74.toInt ≤ 4 by omega, show (0 : Int) ≤ f11_74.toInt ∧ f11_74.toInt ≤ 99999 by omega, show (0 : Int) ≤ f12_74.toInt ∧ f12_74.toInt ≤ 3 by omega, show (-1 : Int) ≤ f13_74.toInt ∧ f13_74.toInt ≤ 900 by omega, hg57004, ⟨hpi74, (show (F 9).toInt ≤ f9_74.toInt by omega), fun q9 => (hr12.2.2.1 (hm74 q9)).1, fun q9 => WGc (n := (36 + 8 * (A 14 5).toNatClampNeg)) (hwm.2 (hm74 q9)).1 eg57004 (by have q1 := hwm.1; omega) (by have y8 := clK (i := (A 14 5)) rfl (by omega); have q1 := hwm.1; omega) (hwm.2 (hm74 q9)).2⟩⟩) (Nat.le_of_ble_eq_true rfl) (Nat.le_of_ble_eq_true rfl)
        · have zc57001 := nleK (show (6 : Int32).toInt = 6 by decide) rfl c57001
          refine lv_aload_n hx hb dX11_readMan_93 rfl (lv_at hl 0 rfl) ?_
          refine getF (v := .ref (q 14)) hx hb ht hown hK hP iTX11 0 14 rfl rfl (by decide) fl_RX11_31 rfl dX11_readMan_94 ?_
          refine lv_iload_n hx hb dX11_readMan_97 rfl (lv_at hl 2 rfl) ?_
          refine lv_iconst (v := 2) hx hb dX11_readMan_98 (by decide) ?_
          refine lv_iadd hx hb dX11_readMan_99 ?_
          refine lv_topi (fun v57005 ev57005 => ?_)
          have tv57005 : v57005.toInt = v3.toInt + 2 := by rw [ev57005]; exact addT rfl (show (2 : Int32).toInt = 2 by decide) (by omega)
          refine lv_iload hx hb dX11_readMan_100 (lv_at hl 3 rfl) ?_
          refine lv_iadd hx hb dX11_readMan_102 ?_
          refine lv_topi (fun v57006 ev57006 => ?_)
          have tv57006 : v57006.toInt = v57005.toInt + x86_4.toInt := by rw [ev57006]; exact addT rfl rfl (by omega)
          refine lv_iload hx hb dX11_readMan_103 (lv_at hl 3 rfl) ?_
          refine lv_iload_n hx hb dX11_readMan_105 rfl (lv_at hl 1 rfl) ?_
          have B114 : ∀ (s114_0 : Int32) (s114_1 : Int32) (H : Heap) (locs : List Loc) (ls : Array Slot), (0 : Int) ≤ s114_0.toInt ∧ s114_0.toInt ≤ 1 → (38 : Int) ≤ s114_1.toInt ∧ s114_1.toInt ≤ 91 → (s114_1.toInt = 36 + 8 * (A 14 5).toInt + 2 + x86_4.toInt) → va_P G vwCl (mS cs h q (upd (upd (upd (upd (upd (upd F 8 f8_74) 9 f9_74) 10 f10_74) 11 f11_74) 12 f12_74) 13 f13_74) (vA A 14 a14_86) D B) H → va_D A0 (mS cs h q (upd (upd (upd (upd (upd (upd F 8 f8_74) 9 f9_74) 10 f10_74) 11 f11_74) 12 f12_74) 13 f13_74) (vA A 14 a14_86) D B) → va_S A0 s.heap H locs → lv_has ls 5 [(0, .ref h), (1, .int (A 14 5)), (2, .int v3), (4, .int x86_4)] → W p l e (rmk 8 0 0) s m args below meth c H locs 0 0 (MQ below ((QDw G (fun u : Int32 × Int32 × Int32 × Int32 × Int32 × Int32 × (Nat → Int32) => ((0 : Int) ≤ u.1.toInt ∧ u.1.toInt ≤ 900) ∧ ((0 : Int) ≤ u.2.1.toInt ∧ u.2.1.toInt ≤ 900) ∧ ((0 : Int) ≤ u.2.2.1.toInt ∧ u.2.2.1.toInt ≤ 4) ∧ ((0 : Int) ≤ u.2.2.2.1.toInt ∧ u.2.2.2.1.toInt ≤ 99999) ∧ ((0 : Int) ≤ u.2.2.2.2.1.toInt ∧ u.2.2.2.2.1.toInt ≤ 3) ∧ ((-1 : Int) ≤ u.2.2.2.2.2.1.toInt ∧ u.2.2.2.2.2.1.toInt ≤ 900) ∧ AI 14 u.2.2.2.2.2.2 ∧ (PIk u.1 u.2.1 u.2.2.1 ∧ (F 9).toInt ≤ u.2.1.toInt ∧ MOk u.2.2.2.2.1 (F 12) ∧ WGk u.2.2.2.2.1 u.2.2.2.2.2.2)) (fun u : Int32 × Int32 × Int32 × Int32 × Int32 × Int32 × (Nat → Int32) => (mS cs h q (upd (upd (upd (upd (upd (upd F 8 u.1) 9 u.2.1) 10 u.2.2.1) 11 u.2.2.2.1) 12 u.2.2.2.2.1) 13 u.2.2.2.2.2.1) (vA A 14 u.2.2.2.2.2.2) D B))) A0) args s 0 0 A0) (F0 m 114 ls [.int s114_0, .int s114_1, .ref (q 14)]) := by
            intro s114_0 s114_1 H locs ls hs114_0 hs114_1 hix hP hD hS hl
            refine va_iast hx hb hK.1 hP hD hS 6 0 rfl rfl (inK rfl (by omega) (by decide)) dX11_readMan_114 (fun H locs hP hD hS => ?_)
            have hP : va_P G vwCl (mS cs h q (upd (upd (upd (upd (upd (upd F 8 f8_74) 9 f9_74) 10 f10_74) 11 f11_74) 12 f12_74) 13 f13_74) (vA A 14 (upd a14_86 s114_1.toNatClampNeg s114_0)) D B) H := hP
            have hD : va_D A0 (mS cs h q (upd (upd (upd (upd (upd (upd F 8 f8_74) 9 f9_74) 10 f10_74) 11 f11_74) 12 f12_74) 13 f13_74) (vA A 14 (upd a14_86 s114_1.toNatClampNeg s114_0)) D B) := hD
            obtain ⟨g73001, eg73001⟩ : ∃ z : Nat → Int32, z = upd a14_86 s114_1.toNatClampNeg s114_0 := ⟨_, rfl⟩
            rw [← eg73001] at hP hD
            have hg73001 : AI 14 g73001 := by rw [eg73001]; exact AI_upd (fun j => ha14_86 j) (man_fact (r := (A 14 5).toInt) (w := 2 + x86_4.toInt) (by omega) (by omega) (by omega) (by omega))
            obtain ⟨v73002, ev73002⟩ : ∃ z : Int32, z = x86_4 + 1 := ⟨_, rfl⟩
            have tv73002 : v73002.toInt = x86_4.toInt + 1 := by rw [ev73002]; exact addT rfl (by decide) (by omega)
            refine lv_iinc (v := v73002) (lv' := [(4, .int v73002), (0, .ref h), (1, .int (A 14 5)), (2, .int v3)]) hx hb dX11_readMan_115 hl (k := 3) rfl (by rw [ev73002]; rfl) (by decide) rfl (fun ls hl => ?_)
            refine lv_goto (tgt := 86) hx hb dX11_readMan_118 (by decide) ?_
            exact ih86 v73002 g73001 H locs ls (by omega) (by omega) hg73001 ⟨(upE eg73001 (by have y1 := clK (i := s114_1) rfl (by omega); omega)).trans hwm.1, fun q9 => ⟨WGe (hwm.2 q9).1 eg73001 (ha14_86 5).2 (by have y1 := clK (i := s114_1) rfl (by omega); omega), by have y8 := clK (i := (A 14 5)) rfl (by omega); have y1 := clK (i := s114_1) rfl (by omega); have q1 := upE (j := (36 + 8 * (A 14 5).toNatClampNeg)) eg73001 (by omega); have q2 := (hwm.2 q9).2; omega⟩⟩ hP hD hS (lv_sub hl [1, 2, 3, 0] rfl)
          refine lv_icmp_ne (tgt := 113) hx hb dX11_readMan_106 (by decide) (fun c57007 => ?_) (fun c57007 => ?_)
          · have zc57007 := neK rfl rfl c57007
            refine lv_iconst (v := 0) hx hb dX11_readMan_113 (by decide) ?_
            exact B114 0 v57006 H locs ls (by decide) (by omega) (by have k0 : (0 : Int32).toInt = 0 := (by decide); have k1 : (1 : Int32).toInt = 1 := (by decide); omega) hP hD hS (lv_sub hl [0, 1, 2, 3] rfl)
          · have zc57007 := eqK rfl rfl c57007
            refine lv_iconst (v := 1) hx hb dX11_readMan_109 (by decide) ?_
            refine lv_goto (tgt := 114) hx hb dX11_readMan_110 (by decide) ?_
            exact B114 1 v57006 H locs ls (by decide) (by omega) (by have k0 : (0 : Int32).toInt = 0 := (by decide); have k1 : (1 : Int32).toInt = 1 := (by decide); omega) hP hD hS (lv_sub hl [0, 1, 2, 3] rfl)
    exact B86 _ 0 g48002 H locs ls (Nat.lt_succ_self _) (by decide) hg48002 ⟨(upE eg48002 (by have y2 := clK (i := v48001) rfl (by omega); omega)).trans (upE eg15 (by have y1 := clK (i := v4) rfl (by omega); omega)), fun q9 => ⟨WGe (WGn (hWG (hr12.2.2.1 q9).1) eg15 rfl (by have y1 := clK (i := v4) rfl (by omega); omega)) eg48002 (hg15 5).2 (by have y2 := clK (i := v48001) rfl (by omega); omega), by have y8 := clK (i := (A 14 5)) rfl (by omega); have y1 := clK (i := v4) rfl (by omega); have y2 := clK (i := v48001) rfl (by omega); have q0 := (hr12.2.2.1 q9).2.2; have q1 := upE (j := (36 + 8 * (A 14 5).toNatClampNeg)) eg48002 (by omega); have q2 := upS eg15; rw [show v4.toNatClampNeg = (36 + 8 * (A 14 5).toNatClampNeg) by omega] at q2; omega⟩⟩ hP hD hS (lv_sub hl [1, 2, 3, 0] rfl)
  refine lv_if_eq (tgt := 74) hx hb dX11_readMan_40 (by decide) (fun c22 => ?_) (fun c22 => ?_)
  · have zc22 := eqK rfl (show (0 : Int32).toInt = 0 by decide) c22
    exact B74 0 x17 x18 x19 x20 x10 x11 H locs ls (by decide) (by omega) (by omega) (by omega) (by omega) (by omega) (by omega) hr21.2.2.1 (by have k0 : (0 : Int32).toInt = 0 := (by decide); have k1 : (1 : Int32).toInt = 1 := (by decide); omega) (fun q9 => q9) hP hD hS (lv_sub hl [3, 2, 1, 0] rfl)
  · have zc22 := neK rfl (show (0 : Int32).toInt = 0 by decide) c22
    have B43 : ∀ (n : Nat) (x43_3 : Int32) (f8_43 : Int32) (f9_43 : Int32) (f10_43 : Int32) (f11_43 : Int32) (f12_43 : Int32) (f13_43 : Int32) (H : Heap) (locs : List Loc) (ls : Array Slot), (900 - f9_43.toInt).toNat < n → (0 : Int) ≤ x43_3.toInt ∧ x43_3.toInt ≤ 63 → (0 : Int) ≤ f8_43.toInt ∧ f8_43.toInt ≤ 900 → (0 : Int) ≤ f9_43.toInt ∧ f9_43.toInt ≤ 900 → (0 : Int) ≤ f10_43.toInt ∧ f10_43.toInt ≤ 4 → (0 : Int) ≤ f11_43.toInt ∧ f11_43.toInt ≤ 99999 → (0 : Int) ≤ f12_43.toInt ∧ f12_43.toInt ≤ 3 → (-1 : Int) ≤ f13_43.toInt ∧ f13_43.toInt ≤ 900 → (PIk f8_43 f9_43 f10_43) → (x7.toInt ≤ f9_43.toInt) → (MOk f12_43 x10) → va_P G vwCl (mS cs h q (upd (upd (upd (upd (upd (upd F 8 f8_43) 9 f9_43) 10 f10_43) 11 f11_43) 12 f12_43) 13 f13_43) (vA A 14 g15) D B) H → va_D A0 (mS cs h q (upd (upd (upd (upd (upd (upd F 8 f8_43) 9 f9_43) 10 f10_43) 11 f11_43) 12 f12_43) 13 f13_43) (vA A 14 g15) D B) → va_S A0 s.heap H locs → lv_has ls 5 [(0, .ref h), (1, .int (A 14 5)), (2, .int v3), (3, .int x43_3)] → W p l e (rmk 8 0 0) s m args below meth c H locs 0 0 (MQ below ((QDw G (fun u : Int32 × Int32 × Int32 × Int32 × Int32 × Int32 × (Nat → Int32) => ((0 : Int) ≤ u.1.toInt ∧ u.1.toInt ≤ 900) ∧ ((0 : Int) ≤ u.2.1.toInt ∧ u.2.1.toInt ≤ 900) ∧ ((0 : Int) ≤ u.2.2.1.toInt ∧ u.2.2.1.toInt ≤ 4) ∧ ((0 : Int) ≤ u.2.2.2.1.toInt ∧ u.2.2.2.1.toInt ≤ 99999) ∧ ((0 : Int) ≤ u.2.2.2.2.1.toInt ∧ u.2.2.2.2.1.toInt ≤ 3) ∧ ((-1 : Int) ≤ u.2.2.2.2.2.1.toInt ∧ u.2.2.2.2.2.1.toInt ≤ 900) ∧ AI 14 u.2.2.2.2.2.2 ∧ (PIk u.1 u.2.1 u.2.2.1 ∧ (F 9).toInt ≤ u.2.1.toInt ∧ MOk u.2.2.2.2.1 (F 12) ∧ WGk u.2.2.2.2.1 u.2.2.2.2.2.2)) (fun u : Int32 × Int32 × Int32 × Int32 × Int32 × Int32 × (Nat → Int32) => (mS cs h q (upd (upd (upd (upd (upd (upd F 8 u.1) 9 u.2.1) 10 u.2.2.1) 11 u.2.2.2.1) 12 u.2.2.2.2.1) 13 u.2.2.2.2.2.1) (vA A 14 u.2.2.2.2.2.2) D B))) A0) args s 0 0 A0) (F0 m 43 ls []) := by
      intro n
      induction n with
      | zero => intro x43_3 f8_43 f9_43 f10_43 f11_43 f12_43 f13_43 H locs ls hmeas hx43_3 hf8_43 hf9_43 hf10_43 hf11_43 hf12_43 hf13_43 hpi43 hfr43 hm43 hP hD hS hl; exact absurd hmeas (Nat.not_lt_zero _)
      | succ n ih43 =>
        intro x43_3 f8_43 f9_43 f10_43 f11_43 f12_43 f13_43 H locs ls hmeas hx43_3 hf8_43 hf9_43 hf10_43 hf11_43 hf12_43 hf13_43 hpi43 hfr43 hm43 hP hD hS hl
        refine lv_aload_n hx hb dX11_readMan_43 rfl (lv_at hl 0 rfl) ?_
        refine lv_iconst (v := 0) hx hb dX11_readMan_44 (by decide) ?_
        refine lv_iconst (v := 5) hx hb dX11_readMan_45 (by decide) ?_
        refine behDi (wr := []) (runVD (As := [.int 0, .int 5]) (rest := []) ⟨hx, hb, hml, hown, ht⟩ (sX11_number l G cs h q (upd (upd (upd (upd (upd (upd F 8 f8_43) 9 f9_43) 10 f10_43) 11 f11_43) 12 f12_43) 13 f13_43) (vA A 14 g15) D B (IM_arr (k := 14) (IM_put (k := 13) (IM_put (k := 12) (IM_put (k := 11) (IM_put (k := 10) (IM_put (k := 9) (IM_put (k := 8) hI (show (0 : Int) ≤ f8_43.toInt ∧ f8_43.toInt ≤ 900 by omega)) (show (0 : Int) ≤ f9_43.toInt ∧ f9_43.toInt ≤ 900 by omega)) (show (0 : Int) ≤ f10_43.toInt ∧ f10_43.toInt ≤ 4 by omega)) (show (0 : Int) ≤ f11_43.toInt ∧ f11_43.toInt ≤ 99999 by omega)) (show (0 : Int) ≤ f12_43.toInt ∧ f12_43.toInt ≤ 3 by omega)) (show (-1 : Int) ≤ f13_43.toInt ∧ f13_43.toInt ≤ 900 by omega)) hg15) 0 5  (show PIk f8_43 f9_43 f10_43 from hpi43)) okV_RX11_164 ⟨by decide, by decide⟩ hK hP hD [0, 1, 2, 3, 4, 5, 6, 7, 8, 9, 10, 11, 12, 13, 14, 15, 16, 17, 18, 19] rfl (by decide) rfl 0 rfl rfl hl.1 rfl (Nat.le_of_ble_eq_true rfl) dX11_readMan_46 ⟨(Nat.le_of_ble_eq_true rfl), (Nat.le_of_ble_eq_true rfl)⟩) hP hD hS hA [0, 1, 2, 3, 4, 5, 6, 7, 8, 9, 10, 11, 12, 13, 14, 15, 16, 17, 18, 19] [] rfl rfl (by decide) (by decide) (fun r9 u H locs hu hP hD hS => ?_)
        obtain ⟨x29001, x29002, x29003, x29004, x29005, x29006⟩ := u
        have kk29008 : (0 : Int32).toInt = 0 := by decide
        have kk29009 : (5 : Int32).toInt = 5 := by decide
        obtain ⟨r29007, rfl⟩ : ∃ z, z = r9 := ⟨_, rfl⟩
        obtain ⟨hbx29001, hbx29002, hbx29003, hbx29004, hbx29005, hbx29006, hr29007⟩ := hu
        have hbx29001 : (0 : Int) ≤ x29001.toInt ∧ x29001.toInt ≤ 900 := hbx29001
        have hbx29002 : (0 : Int) ≤ x29002.toInt ∧ x29002.toInt ≤ 900 := hbx29002
        have hbx29003 : (0 : Int) ≤ x29003.toInt ∧ x29003.toInt ≤ 4 := hbx29003
        have hbx29004 : (0 : Int) ≤ x29004.toInt ∧ x29004.toInt ≤ 99999 := hbx29004
        have hbx29005 : (0 : Int) ≤ x29005.toInt ∧ x29005.toInt ≤ 3 := hbx29005
        have hbx29006 : (-1 : Int) ≤ x29006.toInt ∧ x29006.toInt ≤ 900 := hbx29006
        have hr29007 : PIk x29001 x29002 x29003 ∧ (f9_43.toInt ≤ x29002.toInt) ∧ NMk x29005 f12_43 f9_43 x29002 r29007 ((0 : Int32).toInt) ((5 : Int32).toInt) ∧ RBk r29007 ((0 : Int32).toInt) ((5 : Int32).toInt) := hr29007
        have hP : va_P G vwCl (mS cs h q (upd (upd (upd (upd (upd (upd F 8 x29001) 9 x29002) 10 x29003) 11 x29004) 12 x29005) 13 x29006) (vA A 14 g15) D B) H := hP
        have hD : va_D A0 (mS cs h q (upd (upd (upd (upd (upd (upd F 8 x29001) 9 x29002) 10 x29003) 11 x29004) 12 x29005) 13 x29006) (vA A 14 g15) D B) := hD
        have hbr29007 := RBb (A := 0) (B := 5) hr29007.2.2.2 (by omega) (by omega)
        refine lv_istore (lv' := [(4, .int r29007), (0, .ref h), (1, .int (A 14 5)), (2, .int v3), (3, .int x43_3)]) hx hb dX11_readMan_49 hl (by decide) rfl (fun ls hl => ?_)
        refine lv_aload_n hx hb dX11_readMan_51 rfl (lv_at hl 1 rfl) ?_
        refine behR (runVP (As := []) (rest := []) ⟨hx, hb, hml, hown, ht⟩ (sX11_good l G cs h q (upd (upd (upd (upd (upd (upd F 8 x29001) 9 x29002) 10 x29003) 11 x29004) 12 x29005) 13 x29006) (vA A 14 g15) D B (IM_arr (k := 14) (IM_put (k := 13) (IM_put (k := 12) (IM_put (k := 11) (IM_put (k := 10) (IM_put (k := 9) (IM_put (k := 8) hI (show (0 : Int) ≤ x29001.toInt ∧ x29001.toInt ≤ 900 by omega)) (show (0 : Int) ≤ x29002.toInt ∧ x29002.toInt ≤ 900 by omega)) (show (0 : Int) ≤ x29003.toInt ∧ x29003.toInt ≤ 4 by omega)) (show (0 : Int) ≤ x29004.toInt ∧ x29004.toInt ≤ 99999 by omega)) (show (0 : Int) ≤ x29005.toInt ∧ x29005.toInt ≤ 3 by omega)) (show (-1 : Int) ≤ x29006.toInt ∧ x29006.toInt ≤ 900 by omega)) hg15)  ) okV_RX11_133 ⟨by decide, by decide⟩ hK hP [0, 1, 2, 3, 4, 5, 6, 7, 8, 9, 10, 11, 12, 13, 14, 15, 16, 17, 18, 19] rfl 0 rfl rfl hl.1 rfl (Nat.le_of_ble_eq_true rfl) dX11_readMan_52 ⟨by decide, by decide⟩) hP hS hA (fun r29010 H locs hr29010 hP hS => ?_)
        have hr29010 : (r29010.toInt = 1 ∧ x29005.toInt = 0) ∨ (r29010.toInt = 0 ∧ ¬ x29005.toInt = 0) := hr29010
        refine lv_if_ne (tgt := 59) hx hb dX11_readMan_55 (by decide) (fun c29011 => ?_) (fun c29011 => ?_)
        · have zc29011 := neK rfl (show (0 : Int32).toInt = 0 by decide) c29011
          have hq59 := (hr29007.2.2.1 (by omega)).2
          refine lv_iload_n hx hb dX11_readMan_59 rfl (lv_at hl 4 rfl) ?_
          refine lv_iconst (v := 1) hx hb dX11_readMan_60 (by decide) ?_
          refine lv_iload hx hb dX11_readMan_61 (lv_at hl 0 rfl) ?_
          refine lv_ishl hx hb dX11_readMan_63 ?_
          refine lv_topi (fun v29012 ev29012 => ?_)
          have tv29012 : (1 : Int) ≤ v29012.toInt ∧ v29012.toInt ≤ 32 := by rw [ev29012]; exact shlT 5 (by decide) rfl (by omega) (by decide)
          have pv29012 : v29012.toInt = P2 r29007.toInt := by rw [ev29012]; exact shlP rfl (by omega)
          refine lv_ior hx hb dX11_readMan_64 ?_
          refine lv_topi (fun v29013 ev29013 => ?_)
          have tv29013 : 0 ≤ v29013.toInt ∧ v29013.toInt ≤ 63 := by rw [ev29013]; exact orA 6 rfl rfl (by omega) (by omega) (by decide)
          refine lv_istore_n (lv' := [(3, .int v29013), (4, .int r29007), (0, .ref h), (1, .int (A 14 5)), (2, .int v3)]) hx hb dX11_readMan_65 rfl hl (by decide) rfl (fun ls hl => ?_)
          refine lv_aload_n hx hb dX11_readMan_66 rfl (lv_at hl 2 rfl) ?_
          refine getF (v := .int x29003) hx hb ht hown hK hP iTX11 0 10 rfl rfl (by decide) fl_RX11_109 rfl dX11_readMan_67 ?_
          refine lv_iconst (v := 3) hx hb dX11_readMan_70 (by decide) ?_
          refine lv_icmp_ne (tgt := 43) hx hb dX11_readMan_71 (by decide) (fun c29014 => ?_) (fun c29014 => ?_)
          · have zc29014 := neK rfl (show (3 : Int32).toInt = 3 by decide) c29014
            exact ih43 v29013 x29001 x29002 x29003 x29004 x29005 x29006 H locs ls (by omega) (by omega) (by omega) (by omega) (by omega) (by omega) (by omega) (by omega) hr29007.1 (by have k0 : (0 : Int32).toInt = 0 := (by decide); have k1 : (1 : Int32).toInt = 1 := (by decide); omega) (fun q9 => (hm43 (hr29007.2.2.1 q9).1)) hP hD hS (lv_sub hl [2, 3, 4, 0] rfl)
          · have zc29014 := eqK rfl (show (3 : Int32).toInt = 3 by decide) c29014
            exact B74 v29013 x29001 x29002 x29003 x29004 x29005 x29006 H locs ls (by omega) (by omega) (by omega) (by omega) (by omega) (by omega) (by omega) hr29007.1 (by have k0 : (0 : Int32).toInt = 0 := (by decide); have k1 : (1 : Int32).toInt = 1 := (by decide); omega) (fun q9 => (hm43 (hr29007.2.2.1 q9).1)) hP hD hS (lv_sub hl [2, 3, 4, 0] rfl)
        · have zc29011 := eqK rfl (show (0 : Int32).toInt = 0 by decide) c29011
          exact retDw (x29001, x29002, x29003, x29004, x29005, x29006, g15) hx hb hr hlk hP hD hS dX11_readMan_58 (⟨show (0 : Int) ≤ x29001.toInt ∧ x29001.toInt ≤ 900 by omega, show (0 : Int) ≤ x29002.toInt ∧ x29002.toInt ≤ 900 by omega, show (0 : Int) ≤ x29003.toInt ∧ x29003.toInt ≤ 4 by omega, show (0 : Int) ≤ x29004.toInt ∧ x29004.toInt ≤ 99999 by omega, show (0 : Int) ≤ x29005.toInt ∧ x29005.toInt ≤ 3 by omega, show (-1 : Int) ≤ x29006.toInt ∧ x29006.toInt ≤ 900 by omega, hg15, ⟨hr29007.1, (show (F 9).toInt ≤ x29002.toInt by omega), fun q9 => absurd (show x29005.toInt = 0 from q9) (by omega), fun q9 => absurd (show x29005.toInt = 0 from q9) (by omega)⟩⟩) (Nat.le_of_ble_eq_true rfl) (Nat.le_of_ble_eq_true rfl)
    exact B43 _ 0 x17 x18 x19 x20 x10 x11 H locs ls (Nat.lt_succ_self _) (by decide) (by omega) (by omega) (by omega) (by omega) (by omega) (by omega) hr21.2.2.1 (by have k0 : (0 : Int32).toInt = 0 := (by decide); have k1 : (1 : Int32).toInt = 1 := (by decide); omega) (fun q9 => q9) hP hD hS (lv_sub hl [3, 2, 1, 0] rfl)

set_option maxRecDepth 100000 in
set_option maxHeartbeats 8000000 in
theorem sX11_readSlate (l : Launch) (G : va_G) (cs : Nat → ClassId) (sd : Nat → Nat × Nat) (h : Nat) (q : Nat → Nat) (F : Nat → Int32) (A : Nat → Nat → Int32) (D : Int64) (B : Nat → Nat → Int64) (hI : IM F A) (hPI : PIk (F 8) (F 9) (F 10)) (hWG : WGk (F 12) (A 14)) : ∀ sz : Nat, Met l yX11_readSlate (wk yX11_readSlate cX11_readSlate 4 none) (rmk 7 0 0) (PreDS SRM sd G (TY cs) [.ref h] (mS cs h q F A D B) sz) ((QDw G (fun u : Int32 × Int32 × Int32 × Int32 × Int32 × Int32 × (Nat → Int32) => ((0 : Int) ≤ u.1.toInt ∧ u.1.toInt ≤ 900) ∧ ((0 : Int) ≤ u.2.1.toInt ∧ u.2.1.toInt ≤ 900) ∧ ((0 : Int) ≤ u.2.2.1.toInt ∧ u.2.2.1.toInt ≤ 4) ∧ ((0 : Int) ≤ u.2.2.2.1.toInt ∧ u.2.2.2.1.toInt ≤ 99999) ∧ ((0 : Int) ≤ u.2.2.2.2.1.toInt ∧ u.2.2.2.2.1.toInt ≤ 3) ∧ ((-1 : Int) ≤ u.2.2.2.2.2.1.toInt ∧ u.2.2.2.2.2.1.toInt ≤ 900) ∧ AI 14 u.2.2.2.2.2.2 ∧ (PIk u.1 u.2.1 u.2.2.1 ∧ (F 9).toInt ≤ u.2.1.toInt ∧ MOk u.2.2.2.2.1 (F 12) ∧ WGk u.2.2.2.2.1 u.2.2.2.2.2.2)) (fun u : Int32 × Int32 × Int32 × Int32 × Int32 × Int32 × (Nat → Int32) => (mS cs h q (upd (upd (upd (upd (upd (upd F 8 u.1) 9 u.2.1) 10 u.2.2.1) 11 u.2.2.2.1) 12 u.2.2.2.2.1) 13 u.2.2.2.2.2.1) (vA A 14 u.2.2.2.2.2.2) D B))) (va_A (mS cs h q F A D B) sz)) 0 0 (va_A (mS cs h q F A D B) sz) := by
  refine mkDS (Qc := (QDw G (fun u : Int32 × Int32 × Int32 × Int32 × Int32 × Int32 × (Nat → Int32) => ((0 : Int) ≤ u.1.toInt ∧ u.1.toInt ≤ 900) ∧ ((0 : Int) ≤ u.2.1.toInt ∧ u.2.1.toInt ≤ 900) ∧ ((0 : Int) ≤ u.2.2.1.toInt ∧ u.2.2.1.toInt ≤ 4) ∧ ((0 : Int) ≤ u.2.2.2.1.toInt ∧ u.2.2.2.1.toInt ≤ 99999) ∧ ((0 : Int) ≤ u.2.2.2.2.1.toInt ∧ u.2.2.2.2.1.toInt ≤ 3) ∧ ((-1 : Int) ≤ u.2.2.2.2.2.1.toInt ∧ u.2.2.2.2.2.1.toInt ≤ 900) ∧ AI 14 u.2.2.2.2.2.2 ∧ (PIk u.1 u.2.1 u.2.2.1 ∧ (F 9).toInt ≤ u.2.1.toInt ∧ MOk u.2.2.2.2.1 (F 12) ∧ WGk u.2.2.2.2.1 u.2.2.2.2.2.2)) (fun u : Int32 × Int32 × Int32 × Int32 × Int32 × Int32 × (Nat → Int32) => (mS cs h q (upd (upd (upd (upd (upd (upd F 8 u.1) 9 u.2.1) 10 u.2.2.1) 11 u.2.2.2.1) 12 u.2.2.2.2.1) 13 u.2.2.2.2.2.1) (vA A 14 u.2.2.2.2.2.2) D B)))) (by decide) (by simp [lg_sl, Value.category]) ?_
  intro p e s m args below meth c ls A0 hx hb hml hr hlk hown hmn ht hK hP hD hS hA hQ hl
  have hl : lv_has ls 4 [(0, .ref h)] := hl
  refine lv_aload_n hx hb dX11_readSlate_0 rfl (lv_at hl 0 rfl) ?_
  refine behDi (wr := []) (runVD (As := []) (rest := []) ⟨hx, hb, hml, hown, ht⟩ (sX11_freshMan l G cs h q F A D B hI   (show PIk (F 8) (F 9) (F 10) from hPI)) okV_RX11_184 ⟨by decide, by decide⟩ hK hP hD [0, 1, 2, 3, 4, 5, 6, 7, 8, 9, 10, 11, 12, 13, 14, 15, 16, 17, 18, 19] rfl (by decide) rfl 0 rfl rfl hl.1 rfl (Nat.le_of_ble_eq_true rfl) dX11_readSlate_1 ⟨(Nat.le_of_ble_eq_true rfl), (Nat.le_of_ble_eq_true rfl)⟩) hP hD hS hA [0, 1, 2, 3, 4, 5, 6, 7, 8, 9, 10, 11, 12, 13, 14, 15, 16, 17, 18, 19] [] rfl rfl (by decide) (by decide) (fun r9 u H locs hu hP hD hS => ?_)
  obtain ⟨x1, x2, x3, x4, x5, x6⟩ := u
  obtain ⟨r7, rfl⟩ : ∃ z, z = r9 := ⟨_, rfl⟩
  obtain ⟨hbx1, hbx2, hbx3, hbx4, hbx5, hbx6, hr7⟩ := hu
  have hbx1 : (0 : Int) ≤ x1.toInt ∧ x1.toInt ≤ 900 := hbx1
  have hbx2 : (0 : Int) ≤ x2.toInt ∧ x2.toInt ≤ 900 := hbx2
  have hbx3 : (0 : Int) ≤ x3.toInt ∧ x3.toInt ≤ 4 := hbx3
  have hbx4 : (0 : Int) ≤ x4.toInt ∧ x4.toInt ≤ 99999 := hbx4
  have hbx5 : (0 : Int) ≤ x5.toInt ∧ x5.toInt ≤ 3 := hbx5
  have hbx6 : (-1 : Int) ≤ x6.toInt ∧ x6.toInt ≤ 900 := hbx6
  have hr7 : PIk x1 x2 x3 ∧ ((F 9).toInt ≤ x2.toInt ∧ 0 ≤ r7.toInt ∧ r7.toInt ≤ 5) ∧ NMk x5 (F 12) (F 9) x2 r7 0 (((A 14) 5).toInt - 1) ∧ RBk r7 0 (((A 14) 5).toInt - 1) := hr7
  have hP : va_P G vwCl (mS cs h q (upd (upd (upd (upd (upd (upd F 8 x1) 9 x2) 10 x3) 11 x4) 12 x5) 13 x6) A D B) H := hP
  have hD : va_D A0 (mS cs h q (upd (upd (upd (upd (upd (upd F 8 x1) 9 x2) 10 x3) 11 x4) 12 x5) 13 x6) A D B) := hD
  refine lv_istore_n (lv' := [(1, .int r7), (0, .ref h)]) hx hb dX11_readSlate_4 rfl hl (by decide) rfl (fun ls hl => ?_)
  refine lv_aload_n hx hb dX11_readSlate_5 rfl (lv_at hl 1 rfl) ?_
  have hz8 : vk_R "CallForBrownModel" 187 "as" (sd 14).1 s := hQ.2.2.2 ("CallForBrownModel", 187, "as", 14) (List.mem_of_getElem? (i := 14) rfl)
  refine va_ldcS hx hb hown hz8 dX11_readSlate_6 ?_
  refine behDw (wr := []) (runVDS (As := [.ref ((sd 14).1)]) (rest := []) ⟨hx, hb, hml, hown, ht⟩ (sX11_needs l G cs sd h q (upd (upd (upd (upd (upd (upd F 8 x1) 9 x2) 10 x3) 11 x4) 12 x5) 13 x6) A D B (IM_put (k := 13) (IM_put (k := 12) (IM_put (k := 11) (IM_put (k := 10) (IM_put (k := 9) (IM_put (k := 8) hI (show (0 : Int) ≤ x1.toInt ∧ x1.toInt ≤ 900 by omega)) (show (0 : Int) ≤ x2.toInt ∧ x2.toInt ≤ 900 by omega)) (show (0 : Int) ≤ x3.toInt ∧ x3.toInt ≤ 4 by omega)) (show (0 : Int) ≤ x4.toInt ∧ x4.toInt ≤ 99999 by omega)) (show (0 : Int) ≤ x5.toInt ∧ x5.toInt ≤ 3 by omega)) (show (-1 : Int) ≤ x6.toInt ∧ x6.toInt ≤ 900 by omega)) 14 (by decide)  (show PIk x1 x2 x3 from hr7.1)) okV_RX11_160 ⟨by decide, by decide⟩ hK hP hD hQ hS hA [0, 1, 2, 3, 4, 5, 6, 7, 8, 9, 10, 11, 12, 13, 14, 15, 16, 17, 18, 19] rfl (by decide) rfl 0 rfl rfl hl.1 rfl (Nat.le_of_ble_eq_true rfl) dX11_readSlate_8 ⟨(Nat.le_of_ble_eq_true rfl), (Nat.le_of_ble_eq_true rfl)⟩) hP hD hS hA [0, 1, 2, 3, 4, 5, 6, 7, 8, 9, 10, 11, 12, 13, 14, 15, 16, 17, 18, 19] [] rfl rfl (by decide) (by decide) (fun u H locs hu hP hD hS => ?_)
  obtain ⟨x9, x10, x11, x12, x13, x14⟩ := u
  obtain ⟨hbx9, hbx10, hbx11, hbx12, hbx13, hbx14, hr15⟩ := hu
  have hbx9 : (0 : Int) ≤ x9.toInt ∧ x9.toInt ≤ 900 := hbx9
  have hbx10 : (0 : Int) ≤ x10.toInt ∧ x10.toInt ≤ 900 := hbx10
  have hbx11 : (0 : Int) ≤ x11.toInt ∧ x11.toInt ≤ 4 := hbx11
  have hbx12 : (0 : Int) ≤ x12.toInt ∧ x12.toInt ≤ 99999 := hbx12
  have hbx13 : (0 : Int) ≤ x13.toInt ∧ x13.toInt ≤ 3 := hbx13
  have hbx14 : (-1 : Int) ≤ x14.toInt ∧ x14.toInt ≤ 900 := hbx14
  have hr15 : PIk x9 x10 x11 ∧ x2.toInt ≤ x10.toInt ∧ NDk x13 x5 x2 x10 := hr15
  have hP : va_P G vwCl (mS cs h q (upd (upd (upd (upd (upd (upd F 8 x9) 9 x10) 10 x11) 11 x12) 12 x13) 13 x14) A D B) H := hP
  have hD : va_D A0 (mS cs h q (upd (upd (upd (upd (upd (upd F 8 x9) 9 x10) 10 x11) 11 x12) 12 x13) 13 x14) A D B) := hD
  refine lv_aload_n hx hb dX11_readSlate_11 rfl (lv_at hl 1 rfl) ?_
  refine behDi (wr := []) (runVD (As := []) (rest := []) ⟨hx, hb, hml, hown, ht⟩ (sX11_freshMan l G cs h q (upd (upd (upd (upd (upd (upd F 8 x9) 9 x10) 10 x11) 11 x12) 12 x13) 13 x14) A D B (IM_put (k := 13) (IM_put (k := 12) (IM_put (k := 11) (IM_put (k := 10) (IM_put (k := 9) (IM_put (k := 8) hI (show (0 : Int) ≤ x9.toInt ∧ x9.toInt ≤ 900 by omega)) (show (0 : Int) ≤ x10.toInt ∧ x10.toInt ≤ 900 by omega)) (show (0 : Int) ≤ x11.toInt ∧ x11.toInt ≤ 4 by omega)) (show (0 : Int) ≤ x12.toInt ∧ x12.toInt ≤ 99999 by omega)) (show (0 : Int) ≤ x13.toInt ∧ x13.toInt ≤ 3 by omega)) (show (-1 : Int) ≤ x14.toInt ∧ x14.toInt ≤ 900 by omega))   (show PIk x9 x10 x11 from hr15.1)) okV_RX11_184 ⟨by decide, by decide⟩ hK hP hD [0, 1, 2, 3, 4, 5, 6, 7, 8, 9, 10, 11, 12, 13, 14, 15, 16, 17, 18, 19] rfl (by decide) rfl 0 rfl rfl hl.1 rfl (Nat.le_of_ble_eq_true rfl) dX11_readSlate_12 ⟨(Nat.le_of_ble_eq_true rfl), (Nat.le_of_ble_eq_true rfl)⟩) hP hD hS hA [0, 1, 2, 3, 4, 5, 6, 7, 8, 9, 10, 11, 12, 13, 14, 15, 16, 17, 18, 19] [] rfl rfl (by decide) (by decide) (fun r9 u H locs hu hP hD hS => ?_)
  obtain ⟨x16, x17, x18, x19, x20, x21⟩ := u
  obtain ⟨r22, rfl⟩ : ∃ z, z = r9 := ⟨_, rfl⟩
  obtain ⟨hbx16, hbx17, hbx18, hbx19, hbx20, hbx21, hr22⟩ := hu
  have hbx16 : (0 : Int) ≤ x16.toInt ∧ x16.toInt ≤ 900 := hbx16
  have hbx17 : (0 : Int) ≤ x17.toInt ∧ x17.toInt ≤ 900 := hbx17
  have hbx18 : (0 : Int) ≤ x18.toInt ∧ x18.toInt ≤ 4 := hbx18
  have hbx19 : (0 : Int) ≤ x19.toInt ∧ x19.toInt ≤ 99999 := hbx19
  have hbx20 : (0 : Int) ≤ x20.toInt ∧ x20.toInt ≤ 3 := hbx20
  have hbx21 : (-1 : Int) ≤ x21.toInt ∧ x21.toInt ≤ 900 := hbx21
  have hr22 : PIk x16 x17 x18 ∧ (x10.toInt ≤ x17.toInt ∧ 0 ≤ r22.toInt ∧ r22.toInt ≤ 5) ∧ NMk x20 x13 x10 x17 r22 0 (((A 14) 5).toInt - 1) ∧ RBk r22 0 (((A 14) 5).toInt - 1) := hr22
  have hP : va_P G vwCl (mS cs h q (upd (upd (upd (upd (upd (upd F 8 x16) 9 x17) 10 x18) 11 x19) 12 x20) 13 x21) A D B) H := hP
  have hD : va_D A0 (mS cs h q (upd (upd (upd (upd (upd (upd F 8 x16) 9 x17) 10 x18) 11 x19) 12 x20) 13 x21) A D B) := hD
  refine lv_istore_n (lv' := [(2, .int r22), (1, .int r7), (0, .ref h)]) hx hb dX11_readSlate_15 rfl hl (by decide) rfl (fun ls hl => ?_)
  refine lv_aload_n hx hb dX11_readSlate_16 rfl (lv_at hl 2 rfl) ?_
  refine lv_iconst (v := 0) hx hb dX11_readSlate_17 (by decide) ?_
  refine lv_bipush (v := 9) hx hb dX11_readSlate_18 (by decide) ?_
  refine behDi (wr := []) (runVD (As := [.int 0, .int 9]) (rest := []) ⟨hx, hb, hml, hown, ht⟩ (sX11_number l G cs h q (upd (upd (upd (upd (upd (upd F 8 x16) 9 x17) 10 x18) 11 x19) 12 x20) 13 x21) A D B (IM_put (k := 13) (IM_put (k := 12) (IM_put (k := 11) (IM_put (k := 10) (IM_put (k := 9) (IM_put (k := 8) hI (show (0 : Int) ≤ x16.toInt ∧ x16.toInt ≤ 900 by omega)) (show (0 : Int) ≤ x17.toInt ∧ x17.toInt ≤ 900 by omega)) (show (0 : Int) ≤ x18.toInt ∧ x18.toInt ≤ 4 by omega)) (show (0 : Int) ≤ x19.toInt ∧ x19.toInt ≤ 99999 by omega)) (show (0 : Int) ≤ x20.toInt ∧ x20.toInt ≤ 3 by omega)) (show (-1 : Int) ≤ x21.toInt ∧ x21.toInt ≤ 900 by omega)) 0 9  (show PIk x16 x17 x18 from hr22.1)) okV_RX11_164 ⟨by decide, by decide⟩ hK hP hD [0, 1, 2, 3, 4, 5, 6, 7, 8, 9, 10, 11, 12, 13, 14, 15, 16, 17, 18, 19] rfl (by decide) rfl 0 rfl rfl hl.1 rfl (Nat.le_of_ble_eq_true rfl) dX11_readSlate_20 ⟨(Nat.le_of_ble_eq_true rfl), (Nat.le_of_ble_eq_true rfl)⟩) hP hD hS hA [0, 1, 2, 3, 4, 5, 6, 7, 8, 9, 10, 11, 12, 13, 14, 15, 16, 17, 18, 19] [] rfl rfl (by decide) (by decide) (fun r9 u H locs hu hP hD hS => ?_)
  obtain ⟨x23, x24, x25, x26, x27, x28⟩ := u
  have kk30 : (0 : Int32).toInt = 0 := by decide
  have kk31 : (9 : Int32).toInt = 9 := by decide
  obtain ⟨r29, rfl⟩ : ∃ z, z = r9 := ⟨_, rfl⟩
  obtain ⟨hbx23, hbx24, hbx25, hbx26, hbx27, hbx28, hr29⟩ := hu
  have hbx23 : (0 : Int) ≤ x23.toInt ∧ x23.toInt ≤ 900 := hbx23
  have hbx24 : (0 : Int) ≤ x24.toInt ∧ x24.toInt ≤ 900 := hbx24
  have hbx25 : (0 : Int) ≤ x25.toInt ∧ x25.toInt ≤ 4 := hbx25
  have hbx26 : (0 : Int) ≤ x26.toInt ∧ x26.toInt ≤ 99999 := hbx26
  have hbx27 : (0 : Int) ≤ x27.toInt ∧ x27.toInt ≤ 3 := hbx27
  have hbx28 : (-1 : Int) ≤ x28.toInt ∧ x28.toInt ≤ 900 := hbx28
  have hr29 : PIk x23 x24 x25 ∧ (x17.toInt ≤ x24.toInt) ∧ NMk x27 x20 x17 x24 r29 ((0 : Int32).toInt) ((9 : Int32).toInt) ∧ RBk r29 ((0 : Int32).toInt) ((9 : Int32).toInt) := hr29
  have hP : va_P G vwCl (mS cs h q (upd (upd (upd (upd (upd (upd F 8 x23) 9 x24) 10 x25) 11 x26) 12 x27) 13 x28) A D B) H := hP
  have hD : va_D A0 (mS cs h q (upd (upd (upd (upd (upd (upd F 8 x23) 9 x24) 10 x25) 11 x26) 12 x27) 13 x28) A D B) := hD
  have hbr29 := RBb (A := 0) (B := 9) hr29.2.2.2 (by omega) (by omega)
  refine lv_istore_n (lv' := [(3, .int r29), (2, .int r22), (1, .int r7), (0, .ref h)]) hx hb dX11_readSlate_23 rfl hl (by decide) rfl (fun ls hl => ?_)
  refine lv_aload_n hx hb dX11_readSlate_24 rfl (lv_at hl 3 rfl) ?_
  refine behR (runVP (As := []) (rest := []) ⟨hx, hb, hml, hown, ht⟩ (sX11_good l G cs h q (upd (upd (upd (upd (upd (upd F 8 x23) 9 x24) 10 x25) 11 x26) 12 x27) 13 x28) A D B (IM_put (k := 13) (IM_put (k := 12) (IM_put (k := 11) (IM_put (k := 10) (IM_put (k := 9) (IM_put (k := 8) hI (show (0 : Int) ≤ x23.toInt ∧ x23.toInt ≤ 900 by omega)) (show (0 : Int) ≤ x24.toInt ∧ x24.toInt ≤ 900 by omega)) (show (0 : Int) ≤ x25.toInt ∧ x25.toInt ≤ 4 by omega)) (show (0 : Int) ≤ x26.toInt ∧ x26.toInt ≤ 99999 by omega)) (show (0 : Int) ≤ x27.toInt ∧ x27.toInt ≤ 3 by omega)) (show (-1 : Int) ≤ x28.toInt ∧ x28.toInt ≤ 900 by omega))  ) okV_RX11_133 ⟨by decide, by decide⟩ hK hP [0, 1, 2, 3, 4, 5, 6, 7, 8, 9, 10, 11, 12, 13, 14, 15, 16, 17, 18, 19] rfl 0 rfl rfl hl.1 rfl (Nat.le_of_ble_eq_true rfl) dX11_readSlate_25 ⟨by decide, by decide⟩) hP hS hA (fun r32 H locs hr32 hP hS => ?_)
  have hr32 : (r32.toInt = 1 ∧ x27.toInt = 0) ∨ (r32.toInt = 0 ∧ ¬ x27.toInt = 0) := hr32
  refine lv_if_eq (tgt := 48) hx hb dX11_readSlate_28 (by decide) (fun c33 => ?_) (fun c33 => ?_)
  · have zc33 := eqK rfl (show (0 : Int32).toInt = 0 by decide) c33
    exact retDw (x23, x24, x25, x26, x27, x28, (A 14)) hx hb hr hlk hP hD hS dX11_readSlate_48 (⟨show (0 : Int) ≤ x23.toInt ∧ x23.toInt ≤ 900 by omega, show (0 : Int) ≤ x24.toInt ∧ x24.toInt ≤ 900 by omega, show (0 : Int) ≤ x25.toInt ∧ x25.toInt ≤ 4 by omega, show (0 : Int) ≤ x26.toInt ∧ x26.toInt ≤ 99999 by omega, show (0 : Int) ≤ x27.toInt ∧ x27.toInt ≤ 3 by omega, show (-1 : Int) ≤ x28.toInt ∧ x28.toInt ≤ 900 by omega, fun j => hI.2 14 j, ⟨hr29.1, (show (F 9).toInt ≤ x24.toInt by omega), fun q9 => (hr7.2.2.1 (hr15.2.2 (hr22.2.2.1 (hr29.2.2.1 q9).1).1).1).1, (fun q9 => (hWG (hr7.2.2.1 (hr15.2.2 (hr22.2.2.1 (hr29.2.2.1 q9).1).1).1).1))⟩⟩) (Nat.le_of_ble_eq_true rfl) (Nat.le_of_ble_eq_true rfl)
  · have zc33 := neK rfl (show (0 : Int32).toInt = 0 by decide) c33
    refine lv_aload_n hx hb dX11_readSlate_31 rfl (lv_at hl 3 rfl) ?_
    refine getF (v := .ref (q 14)) hx hb ht hown hK hP iTX11 0 14 rfl rfl (by decide) fl_RX11_31 rfl dX11_readSlate_32 ?_
    refine lv_bipush (v := 36) hx hb dX11_readSlate_35 (by decide) ?_
    refine lv_bipush (v := 8) hx hb dX11_readSlate_37 (by decide) ?_
    refine lv_iload_n hx hb dX11_readSlate_39 rfl (lv_at hl 2 rfl) ?_
    refine lv_imul hx hb dX11_readSlate_40 ?_
    refine lv_topi (fun v34 ev34 => ?_)
    have tv34 : v34.toInt = 8 * r7.toInt := by rw [ev34]; exact mulT (show (8 : Int32).toInt = 8 by decide) rfl (by omega)
    refine lv_iadd hx hb dX11_readSlate_41 ?_
    refine lv_topi (fun v35 ev35 => ?_)
    have tv35 : v35.toInt = 36 + v34.toInt := by rw [ev35]; exact addT (show (36 : Int32).toInt = 36 by decide) rfl (by omega)
    refine lv_iconst (v := 2) hx hb dX11_readSlate_42 (by decide) ?_
    refine lv_iadd hx hb dX11_readSlate_43 ?_
    refine lv_topi (fun v36 ev36 => ?_)
    have tv36 : v36.toInt = v35.toInt + 2 := by rw [ev36]; exact addT rfl (show (2 : Int32).toInt = 2 by decide) (by omega)
    refine lv_iload_n hx hb dX11_readSlate_44 rfl (lv_at hl 1 rfl) ?_
    refine lv_iadd hx hb dX11_readSlate_45 ?_
    refine lv_topi (fun v37 ev37 => ?_)
    have tv37 : v37.toInt = v36.toInt + r22.toInt := by rw [ev37]; exact addT rfl rfl (by omega)
    refine lv_iload_n hx hb dX11_readSlate_46 rfl (lv_at hl 0 rfl) ?_
    refine va_iast hx hb hK.1 hP hD hS 6 0 rfl rfl (inK rfl (by omega) (by decide)) dX11_readSlate_47 (fun H locs hP hD hS => ?_)
    have hP : va_P G vwCl (mS cs h q (upd (upd (upd (upd (upd (upd F 8 x23) 9 x24) 10 x25) 11 x26) 12 x27) 13 x28) (vA A 14 (upd (A 14) v37.toNatClampNeg r29)) D B) H := hP
    have hD : va_D A0 (mS cs h q (upd (upd (upd (upd (upd (upd F 8 x23) 9 x24) 10 x25) 11 x26) 12 x27) 13 x28) (vA A 14 (upd (A 14) v37.toNatClampNeg r29)) D B) := hD
    obtain ⟨g38, eg38⟩ : ∃ z : Nat → Int32, z = upd (A 14) v37.toNatClampNeg r29 := ⟨_, rfl⟩
    rw [← eg38] at hP hD
    have hg38 : AI 14 g38 := by rw [eg38]; exact AI_upd (fun j => hI.2 14 j) (man_fact (r := r7.toInt) (w := 2 + r22.toInt) (by omega) (by omega) (by omega) (by omega))
    exact retDw (x23, x24, x25, x26, x27, x28, g38) hx hb hr hlk hP hD hS dX11_readSlate_48 (⟨show (0 : Int) ≤ x23.toInt ∧ x23.toInt ≤ 900 by omega, show (0 : Int) ≤ x24.toInt ∧ x24.toInt ≤ 900 by omega, show (0 : Int) ≤ x25.toInt ∧ x25.toInt ≤ 4 by omega, show (0 : Int) ≤ x26.toInt ∧ x26.toInt ≤ 99999 by omega, show (0 : Int) ≤ x27.toInt ∧ x27.toInt ≤ 3 by omega, show (-1 : Int) ≤ x28.toInt ∧ x28.toInt ≤ 900 by omega, hg38, ⟨hr29.1, (show (F 9).toInt ≤ x24.toInt by omega), fun q9 => (hr7.2.2.1 (hr15.2.2 (hr22.2.2.1 (hr29.2.2.1 q9).1).1).1).1, (fun q9 => (WGe (hWG (hr7.2.2.1 (hr15.2.2 (hr22.2.2.1 (hr29.2.2.1 q9).1).1).1).1) eg38 ((fun j => hI.2 14 j) 5).2 (by have y9 := clK (i := v37) rfl (by omega); omega)))⟩⟩) (Nat.le_of_ble_eq_true rfl) (Nat.le_of_ble_eq_true rfl)

