set_option maxRecDepth 100000 in
set_option maxHeartbeats 8000000 in
theorem sX11_readNext (l : Launch) (G : va_G) (cs : Nat → ClassId) (sd : Nat → Nat × Nat) (h : Nat) (q : Nat → Nat) (F : Nat → Int32) (A : Nat → Nat → Int32) (D : Int64) (B : Nat → Nat → Int64) (hI : IM F A) (hPI : PIk (F 8) (F 9) (F 10)) (hWG : WGk (F 12) (A 14)) : ∀ sz : Nat, Met l yX11_readNext (wk yX11_readNext cX11_readNext 2 none) (rmk 9 0 0) (PreDS SRM sd G (TY cs) [.ref h] (mS cs h q F A D B) sz) ((QDw G (fun u : Int32 × Int32 × Int32 × Int32 × Int32 × Int32 × (Nat → Int32) => ((0 : Int) ≤ u.1.toInt ∧ u.1.toInt ≤ 900) ∧ ((0 : Int) ≤ u.2.1.toInt ∧ u.2.1.toInt ≤ 900) ∧ ((0 : Int) ≤ u.2.2.1.toInt ∧ u.2.2.1.toInt ≤ 4) ∧ ((0 : Int) ≤ u.2.2.2.1.toInt ∧ u.2.2.2.1.toInt ≤ 99999) ∧ ((0 : Int) ≤ u.2.2.2.2.1.toInt ∧ u.2.2.2.2.1.toInt ≤ 3) ∧ ((-1 : Int) ≤ u.2.2.2.2.2.1.toInt ∧ u.2.2.2.2.2.1.toInt ≤ 900) ∧ AI 14 u.2.2.2.2.2.2 ∧ (PIk u.1 u.2.1 u.2.2.1 ∧ (F 9).toInt ≤ u.2.1.toInt ∧ MOk u.2.2.2.2.1 (F 12) ∧ WGk u.2.2.2.2.1 u.2.2.2.2.2.2)) (fun u : Int32 × Int32 × Int32 × Int32 × Int32 × Int32 × (Nat → Int32) => (mS cs h q (upd (upd (upd (upd (upd (upd F 8 u.1) 9 u.2.1) 10 u.2.2.1) 11 u.2.2.2.1) 12 u.2.2.2.2.1) 13 u.2.2.2.2.2.1) (vA A 14 u.2.2.2.2.2.2) D B))) (va_A (mS cs h q F A D B) sz)) 0 0 (va_A (mS cs h q F A D B) sz) := by
  refine mkDS (Qc := (QDw G (fun u : Int32 × Int32 × Int32 × Int32 × Int32 × Int32 × (Nat → Int32) => ((0 : Int) ≤ u.1.toInt ∧ u.1.toInt ≤ 900) ∧ ((0 : Int) ≤ u.2.1.toInt ∧ u.2.1.toInt ≤ 900) ∧ ((0 : Int) ≤ u.2.2.1.toInt ∧ u.2.2.1.toInt ≤ 4) ∧ ((0 : Int) ≤ u.2.2.2.1.toInt ∧ u.2.2.2.1.toInt ≤ 99999) ∧ ((0 : Int) ≤ u.2.2.2.2.1.toInt ∧ u.2.2.2.2.1.toInt ≤ 3) ∧ ((-1 : Int) ≤ u.2.2.2.2.2.1.toInt ∧ u.2.2.2.2.2.1.toInt ≤ 900) ∧ AI 14 u.2.2.2.2.2.2 ∧ (PIk u.1 u.2.1 u.2.2.1 ∧ (F 9).toInt ≤ u.2.1.toInt ∧ MOk u.2.2.2.2.1 (F 12) ∧ WGk u.2.2.2.2.1 u.2.2.2.2.2.2)) (fun u : Int32 × Int32 × Int32 × Int32 × Int32 × Int32 × (Nat → Int32) => (mS cs h q (upd (upd (upd (upd (upd (upd F 8 u.1) 9 u.2.1) 10 u.2.2.1) 11 u.2.2.2.1) 12 u.2.2.2.2.1) 13 u.2.2.2.2.2.1) (vA A 14 u.2.2.2.2.2.2) D B)))) (by decide) (by simp [lg_sl, Value.category]) ?_
  intro p e s m args below meth c ls A0 hx hb hml hr hlk hown hmn ht hK hP hD hS hA hQ hl
  have hl : lv_has ls 2 [(0, .ref h)] := hl
  refine lv_aload_n hx hb dX11_readNext_0 rfl (lv_at hl 0 rfl) ?_
  refine va_ldcS hx hb hown (hQ.2.2.2 _ (List.mem_of_getElem? (i := 5) rfl)) dX11_readNext_1 ?_
  refine behR (runVPS (As := [.ref ((sd 5).1)]) (rest := []) ⟨hx, hb, hml, hown, ht⟩ (sX11_is l G cs sd h q F A D B hI 5 (by decide) ) okV_RX11_146 ⟨by decide, by decide⟩ hK hP hQ hS hA [0, 1, 2, 3, 4, 5, 6, 7, 8, 9, 10, 11, 12, 13, 14, 15, 16, 17, 18, 19] rfl 0 rfl rfl hl.1 rfl (Nat.le_of_ble_eq_true rfl) dX11_readNext_3 ⟨by decide, by decide⟩) hP hS hA (fun r1 H locs hr1 hP hS => ?_)
  have hr1 : ISP r1 (F 12) (F 8) (F 9) (F 10) (A 4) 5 ∧ (0 : Int) ≤ r1.toInt ∧ r1.toInt ≤ 1 := hr1
  have B41 : ∀ (s41_0 : Int32) (H : Heap) (locs : List Loc) (ls : Array Slot), (0 : Int) ≤ s41_0.toInt ∧ s41_0.toInt ≤ 1 → va_P G vwCl (mS cs h q F A D B) H → va_D A0 (mS cs h q F A D B) → va_S A0 s.heap H locs → lv_has ls 2 [(0, .ref h)] → W p l e (rmk 9 0 0) s m args below meth c H locs 0 0 (MQ below ((QDw G (fun u : Int32 × Int32 × Int32 × Int32 × Int32 × Int32 × (Nat → Int32) => ((0 : Int) ≤ u.1.toInt ∧ u.1.toInt ≤ 900) ∧ ((0 : Int) ≤ u.2.1.toInt ∧ u.2.1.toInt ≤ 900) ∧ ((0 : Int) ≤ u.2.2.1.toInt ∧ u.2.2.1.toInt ≤ 4) ∧ ((0 : Int) ≤ u.2.2.2.1.toInt ∧ u.2.2.2.1.toInt ≤ 99999) ∧ ((0 : Int) ≤ u.2.2.2.2.1.toInt ∧ u.2.2.2.2.1.toInt ≤ 3) ∧ ((-1 : Int) ≤ u.2.2.2.2.2.1.toInt ∧ u.2.2.2.2.2.1.toInt ≤ 900) ∧ AI 14 u.2.2.2.2.2.2 ∧ (PIk u.1 u.2.1 u.2.2.1 ∧ (F 9).toInt ≤ u.2.1.toInt ∧ MOk u.2.2.2.2.1 (F 12) ∧ WGk u.2.2.2.2.1 u.2.2.2.2.2.2)) (fun u : Int32 × Int32 × Int32 × Int32 × Int32 × Int32 × (Nat → Int32) => (mS cs h q (upd (upd (upd (upd (upd (upd F 8 u.1) 9 u.2.1) 10 u.2.2.1) 11 u.2.2.2.1) 12 u.2.2.2.2.1) 13 u.2.2.2.2.2.1) (vA A 14 u.2.2.2.2.2.2) D B))) A0) args s 0 0 A0) (F0 m 41 ls [.int s41_0]) := by
    intro s41_0 H locs ls hs41_0 hP hD hS hl
    refine lv_istore_n (lv' := [(1, .int s41_0), (0, .ref h)]) hx hb dX11_readNext_41 rfl hl (by decide) rfl (fun ls hl => ?_)
    refine lv_iload_n hx hb dX11_readNext_42 rfl (lv_at hl 0 rfl) ?_
    have B51 : ∀ (f12_51 : Int32) (f13_51 : Int32) (H : Heap) (locs : List Loc) (ls : Array Slot), (0 : Int) ≤ f12_51.toInt ∧ f12_51.toInt ≤ 3 → (-1 : Int) ≤ f13_51.toInt ∧ f13_51.toInt ≤ 900 → (MOk f12_51 (F 12)) → va_P G vwCl (mS cs h q (upd (upd F 12 f12_51) 13 f13_51) A D B) H → va_D A0 (mS cs h q (upd (upd F 12 f12_51) 13 f13_51) A D B) → va_S A0 s.heap H locs → lv_has ls 2 [(0, .ref h)] → W p l e (rmk 9 0 0) s m args below meth c H locs 0 0 (MQ below ((QDw G (fun u : Int32 × Int32 × Int32 × Int32 × Int32 × Int32 × (Nat → Int32) => ((0 : Int) ≤ u.1.toInt ∧ u.1.toInt ≤ 900) ∧ ((0 : Int) ≤ u.2.1.toInt ∧ u.2.1.toInt ≤ 900) ∧ ((0 : Int) ≤ u.2.2.1.toInt ∧ u.2.2.1.toInt ≤ 4) ∧ ((0 : Int) ≤ u.2.2.2.1.toInt ∧ u.2.2.2.1.toInt ≤ 99999) ∧ ((0 : Int) ≤ u.2.2.2.2.1.toInt ∧ u.2.2.2.2.1.toInt ≤ 3) ∧ ((-1 : Int) ≤ u.2.2.2.2.2.1.toInt ∧ u.2.2.2.2.2.1.toInt ≤ 900) ∧ AI 14 u.2.2.2.2.2.2 ∧ (PIk u.1 u.2.1 u.2.2.1 ∧ (F 9).toInt ≤ u.2.1.toInt ∧ MOk u.2.2.2.2.1 (F 12) ∧ WGk u.2.2.2.2.1 u.2.2.2.2.2.2)) (fun u : Int32 × Int32 × Int32 × Int32 × Int32 × Int32 × (Nat → Int32) => (mS cs h q (upd (upd (upd (upd (upd (upd F 8 u.1) 9 u.2.1) 10 u.2.2.1) 11 u.2.2.2.1) 12 u.2.2.2.2.1) 13 u.2.2.2.2.2.1) (vA A 14 u.2.2.2.2.2.2) D B))) A0) args s 0 0 A0) (F0 m 51 ls []) := by
      intro f12_51 f13_51 H locs ls hf12_51 hf13_51 h51 hP hD hS hl
      refine lv_aload_n hx hb dX11_readNext_51 rfl (lv_at hl 0 rfl) ?_
      refine va_ldcS hx hb hown (hQ.2.2.2 _ (List.mem_of_getElem? (i := 5) rfl)) dX11_readNext_52 ?_
      refine behR (runVPS (As := [.ref ((sd 5).1)]) (rest := []) ⟨hx, hb, hml, hown, ht⟩ (sX11_is l G cs sd h q (upd (upd F 12 f12_51) 13 f13_51) A D B (IM_put (k := 13) (IM_put (k := 12) hI (show (0 : Int) ≤ f12_51.toInt ∧ f12_51.toInt ≤ 3 by omega)) (show (-1 : Int) ≤ f13_51.toInt ∧ f13_51.toInt ≤ 900 by omega)) 5 (by decide) ) okV_RX11_146 ⟨by decide, by decide⟩ hK hP hQ hS hA [0, 1, 2, 3, 4, 5, 6, 7, 8, 9, 10, 11, 12, 13, 14, 15, 16, 17, 18, 19] rfl 0 rfl rfl hl.1 rfl (Nat.le_of_ble_eq_true rfl) dX11_readNext_54 ⟨by decide, by decide⟩) hP hS hA (fun r26001 H locs hr26001 hP hS => ?_)
      have hr26001 : ISP r26001 f12_51 (F 8) (F 9) (F 10) (A 4) 5 ∧ (0 : Int) ≤ r26001.toInt ∧ r26001.toInt ≤ 1 := hr26001
      have B96 : ∀ (f12_96 : Int32) (f13_96 : Int32) (H : Heap) (locs : List Loc) (ls : Array Slot), (0 : Int) ≤ f12_96.toInt ∧ f12_96.toInt ≤ 3 → (-1 : Int) ≤ f13_96.toInt ∧ f13_96.toInt ≤ 900 → (MOk f12_96 (F 12)) → (NOT7 f12_96 (F 8) (F 9) (F 10) (A 4) 5 (A 14 4) 7) → (NOT7 f12_96 (F 8) (F 9) (F 10) (A 4) 10 (A 14 5) 6) → va_P G vwCl (mS cs h q (upd (upd F 12 f12_96) 13 f13_96) A D B) H → va_D A0 (mS cs h q (upd (upd F 12 f12_96) 13 f13_96) A D B) → va_S A0 s.heap H locs → lv_has ls 2 [(0, .ref h)] → W p l e (rmk 9 0 0) s m args below meth c H locs 0 0 (MQ below ((QDw G (fun u : Int32 × Int32 × Int32 × Int32 × Int32 × Int32 × (Nat → Int32) => ((0 : Int) ≤ u.1.toInt ∧ u.1.toInt ≤ 900) ∧ ((0 : Int) ≤ u.2.1.toInt ∧ u.2.1.toInt ≤ 900) ∧ ((0 : Int) ≤ u.2.2.1.toInt ∧ u.2.2.1.toInt ≤ 4) ∧ ((0 : Int) ≤ u.2.2.2.1.toInt ∧ u.2.2.2.1.toInt ≤ 99999) ∧ ((0 : Int) ≤ u.2.2.2.2.1.toInt ∧ u.2.2.2.2.1.toInt ≤ 3) ∧ ((-1 : Int) ≤ u.2.2.2.2.2.1.toInt ∧ u.2.2.2.2.2.1.toInt ≤ 900) ∧ AI 14 u.2.2.2.2.2.2 ∧ (PIk u.1 u.2.1 u.2.2.1 ∧ (F 9).toInt ≤ u.2.1.toInt ∧ MOk u.2.2.2.2.1 (F 12) ∧ WGk u.2.2.2.2.1 u.2.2.2.2.2.2)) (fun u : Int32 × Int32 × Int32 × Int32 × Int32 × Int32 × (Nat → Int32) => (mS cs h q (upd (upd (upd (upd (upd (upd F 8 u.1) 9 u.2.1) 10 u.2.2.1) 11 u.2.2.2.1) 12 u.2.2.2.2.1) 13 u.2.2.2.2.2.1) (vA A 14 u.2.2.2.2.2.2) D B))) A0) args s 0 0 A0) (F0 m 96 ls []) := by
        intro f12_96 f13_96 H locs ls hf12_96 hf13_96 h96 hrm hmn hP hD hS hl
        refine lv_aload_n hx hb dX11_readNext_96 rfl (lv_at hl 0 rfl) ?_
        refine behR (runVP (As := []) (rest := []) ⟨hx, hb, hml, hown, ht⟩ (sX11_good l G cs h q (upd (upd F 12 f12_96) 13 f13_96) A D B (IM_put (k := 13) (IM_put (k := 12) hI (show (0 : Int) ≤ f12_96.toInt ∧ f12_96.toInt ≤ 3 by omega)) (show (-1 : Int) ≤ f13_96.toInt ∧ f13_96.toInt ≤ 900 by omega))  ) okV_RX11_133 ⟨by decide, by decide⟩ hK hP [0, 1, 2, 3, 4, 5, 6, 7, 8, 9, 10, 11, 12, 13, 14, 15, 16, 17, 18, 19] rfl 0 rfl rfl hl.1 rfl (Nat.le_of_ble_eq_true rfl) dX11_readNext_97 ⟨by decide, by decide⟩) hP hS hA (fun r49001 H locs hr49001 hP hS => ?_)
        have hr49001 : (r49001.toInt = 1 ∧ f12_96.toInt = 0) ∨ (r49001.toInt = 0 ∧ ¬ f12_96.toInt = 0) := hr49001
        refine lv_if_ne (tgt := 104) hx hb dX11_readNext_100 (by decide) (fun c49002 => ?_) (fun c49002 => ?_)
        · have zc49002 := neK rfl (show (0 : Int32).toInt = 0 by decide) c49002
          refine lv_aload_n hx hb dX11_readNext_104 rfl (lv_at hl 0 rfl) ?_
          refine va_ldcS hx hb hown (hQ.2.2.2 _ (List.mem_of_getElem? (i := 5) rfl)) dX11_readNext_105 ?_
          refine behDi (wr := []) (runVDS (As := [.ref ((sd 5).1)]) (rest := []) ⟨hx, hb, hml, hown, ht⟩ (sX11_takes l G cs sd h q (upd (upd F 12 f12_96) 13 f13_96) A D B (IM_put (k := 13) (IM_put (k := 12) hI (show (0 : Int) ≤ f12_96.toInt ∧ f12_96.toInt ≤ 3 by omega)) (show (-1 : Int) ≤ f13_96.toInt ∧ f13_96.toInt ≤ 900 by omega)) 5 (by decide)  (show PIk (F 8) (F 9) (F 10) from hPI)) okV_RX11_153 ⟨by decide, by decide⟩ hK hP hD hQ hS hA [0, 1, 2, 3, 4, 5, 6, 7, 8, 9, 10, 11, 12, 13, 14, 15, 16, 17, 18, 19] rfl (by decide) rfl 0 rfl rfl hl.1 rfl (Nat.le_of_ble_eq_true rfl) dX11_readNext_107 ⟨(Nat.le_of_ble_eq_true rfl), (Nat.le_of_ble_eq_true rfl)⟩) hP hD hS hA [0, 1, 2, 3, 4, 5, 6, 7, 8, 9, 10, 11, 12, 13, 14, 15, 16, 17, 18, 19] [] rfl rfl (by decide) (by decide) (fun r9 u H locs hu hP hD hS => ?_)
          obtain ⟨x49003, x49004, x49005, x49006⟩ := u
          obtain ⟨r49007, rfl⟩ : ∃ z, z = r9 := ⟨_, rfl⟩
          obtain ⟨hbx49003, hbx49004, hbx49005, hbx49006, hr49007⟩ := hu
          have hbx49003 : (0 : Int) ≤ x49003.toInt ∧ x49003.toInt ≤ 900 := hbx49003
          have hbx49004 : (0 : Int) ≤ x49004.toInt ∧ x49004.toInt ≤ 900 := hbx49004
          have hbx49005 : (0 : Int) ≤ x49005.toInt ∧ x49005.toInt ≤ 4 := hbx49005
          have hbx49006 : (0 : Int) ≤ x49006.toInt ∧ x49006.toInt ≤ 99999 := hbx49006
          have hr49007 : ((0 : Int) ≤ r49007.toInt ∧ r49007.toInt ≤ 1 ∧ (F 9).toInt ≤ x49004.toInt) ∧ (r49007.toInt = 0 ∨ (f12_96.toInt = 0 ∧ (F 9).toInt < x49004.toInt)) ∧ PIk x49003 x49004 x49005 ∧ TKP r49007 f12_96 (F 8) (F 9) (F 10) x49003 x49004 x49005 (A 4) 5 := hr49007
          have hP : va_P G vwCl (mS cs h q (upd (upd (upd (upd (upd (upd F 8 x49003) 9 x49004) 10 x49005) 11 x49006) 12 f12_96) 13 f13_96) A D B) H := hP
          have hD : va_D A0 (mS cs h q (upd (upd (upd (upd (upd (upd F 8 x49003) 9 x49004) 10 x49005) 11 x49006) 12 f12_96) 13 f13_96) A D B) := hD
          refine lv_if_eq (tgt := 120) hx hb dX11_readNext_110 (by decide) (fun c49008 => ?_) (fun c49008 => ?_)
          · have zc49008 := eqK rfl (show (0 : Int32).toInt = 0 by decide) c49008
            refine lv_aload_n hx hb dX11_readNext_120 rfl (lv_at hl 0 rfl) ?_
            refine va_ldcS hx hb hown (hQ.2.2.2 _ (List.mem_of_getElem? (i := 6) rfl)) dX11_readNext_121 ?_
            refine behDi (wr := []) (runVDS (As := [.ref ((sd 9).1)]) (rest := []) ⟨hx, hb, hml, hown, ht⟩ (sX11_takes l G cs sd h q (upd (upd (upd (upd (upd (upd F 8 x49003) 9 x49004) 10 x49005) 11 x49006) 12 f12_96) 13 f13_96) A D B (IM_put (k := 13) (IM_put (k := 12) (IM_put (k := 11) (IM_put (k := 10) (IM_put (k := 9) (IM_put (k := 8) hI (show (0 : Int) ≤ x49003.toInt ∧ x49003.toInt ≤ 900 by omega)) (show (0 : Int) ≤ x49004.toInt ∧ x49004.toInt ≤ 900 by omega)) (show (0 : Int) ≤ x49005.toInt ∧ x49005.toInt ≤ 4 by omega)) (show (0 : Int) ≤ x49006.toInt ∧ x49006.toInt ≤ 99999 by omega)) (show (0 : Int) ≤ f12_96.toInt ∧ f12_96.toInt ≤ 3 by omega)) (show (-1 : Int) ≤ f13_96.toInt ∧ f13_96.toInt ≤ 900 by omega)) 9 (by decide)  (show PIk x49003 x49004 x49005 from hr49007.2.2.1)) okV_RX11_153 ⟨by decide, by decide⟩ hK hP hD hQ hS hA [0, 1, 2, 3, 4, 5, 6, 7, 8, 9, 10, 11, 12, 13, 14, 15, 16, 17, 18, 19] rfl (by decide) rfl 0 rfl rfl hl.1 rfl (Nat.le_of_ble_eq_true rfl) dX11_readNext_123 ⟨(Nat.le_of_ble_eq_true rfl), (Nat.le_of_ble_eq_true rfl)⟩) hP hD hS hA [0, 1, 2, 3, 4, 5, 6, 7, 8, 9, 10, 11, 12, 13, 14, 15, 16, 17, 18, 19] [] rfl rfl (by decide) (by decide) (fun r9 u H locs hu hP hD hS => ?_)
            obtain ⟨x49009, x49010, x49011, x49012⟩ := u
            obtain ⟨r49013, rfl⟩ : ∃ z, z = r9 := ⟨_, rfl⟩
            obtain ⟨hbx49009, hbx49010, hbx49011, hbx49012, hr49013⟩ := hu
            have hbx49009 : (0 : Int) ≤ x49009.toInt ∧ x49009.toInt ≤ 900 := hbx49009
            have hbx49010 : (0 : Int) ≤ x49010.toInt ∧ x49010.toInt ≤ 900 := hbx49010
            have hbx49011 : (0 : Int) ≤ x49011.toInt ∧ x49011.toInt ≤ 4 := hbx49011
            have hbx49012 : (0 : Int) ≤ x49012.toInt ∧ x49012.toInt ≤ 99999 := hbx49012
            have hr49013 : ((0 : Int) ≤ r49013.toInt ∧ r49013.toInt ≤ 1 ∧ x49004.toInt ≤ x49010.toInt) ∧ (r49013.toInt = 0 ∨ (f12_96.toInt = 0 ∧ x49004.toInt < x49010.toInt)) ∧ PIk x49009 x49010 x49011 ∧ TKP r49013 f12_96 x49003 x49004 x49005 x49009 x49010 x49011 (A 4) 9 := hr49013
            have hP : va_P G vwCl (mS cs h q (upd (upd (upd (upd (upd (upd F 8 x49009) 9 x49010) 10 x49011) 11 x49012) 12 f12_96) 13 f13_96) A D B) H := hP
            have hD : va_D A0 (mS cs h q (upd (upd (upd (upd (upd (upd F 8 x49009) 9 x49010) 10 x49011) 11 x49012) 12 f12_96) 13 f13_96) A D B) := hD
            refine lv_if_eq (tgt := 136) hx hb dX11_readNext_126 (by decide) (fun c49014 => ?_) (fun c49014 => ?_)
            · have zc49014 := eqK rfl (show (0 : Int32).toInt = 0 by decide) c49014
              refine lv_aload_n hx hb dX11_readNext_136 rfl (lv_at hl 0 rfl) ?_
              refine va_ldcS hx hb hown (hQ.2.2.2 _ (List.mem_of_getElem? (i := 7) rfl)) dX11_readNext_137 ?_
              refine behDi (wr := []) (runVDS (As := [.ref ((sd 10).1)]) (rest := []) ⟨hx, hb, hml, hown, ht⟩ (sX11_takes l G cs sd h q (upd (upd (upd (upd (upd (upd F 8 x49009) 9 x49010) 10 x49011) 11 x49012) 12 f12_96) 13 f13_96) A D B (IM_put (k := 13) (IM_put (k := 12) (IM_put (k := 11) (IM_put (k := 10) (IM_put (k := 9) (IM_put (k := 8) hI (show (0 : Int) ≤ x49009.toInt ∧ x49009.toInt ≤ 900 by omega)) (show (0 : Int) ≤ x49010.toInt ∧ x49010.toInt ≤ 900 by omega)) (show (0 : Int) ≤ x49011.toInt ∧ x49011.toInt ≤ 4 by omega)) (show (0 : Int) ≤ x49012.toInt ∧ x49012.toInt ≤ 99999 by omega)) (show (0 : Int) ≤ f12_96.toInt ∧ f12_96.toInt ≤ 3 by omega)) (show (-1 : Int) ≤ f13_96.toInt ∧ f13_96.toInt ≤ 900 by omega)) 10 (by decide)  (show PIk x49009 x49010 x49011 from hr49013.2.2.1)) okV_RX11_153 ⟨by decide, by decide⟩ hK hP hD hQ hS hA [0, 1, 2, 3, 4, 5, 6, 7, 8, 9, 10, 11, 12, 13, 14, 15, 16, 17, 18, 19] rfl (by decide) rfl 0 rfl rfl hl.1 rfl (Nat.le_of_ble_eq_true rfl) dX11_readNext_139 ⟨(Nat.le_of_ble_eq_true rfl), (Nat.le_of_ble_eq_true rfl)⟩) hP hD hS hA [0, 1, 2, 3, 4, 5, 6, 7, 8, 9, 10, 11, 12, 13, 14, 15, 16, 17, 18, 19] [] rfl rfl (by decide) (by decide) (fun r9 u H locs hu hP hD hS => ?_)
              obtain ⟨x49015, x49016, x49017, x49018⟩ := u
              obtain ⟨r49019, rfl⟩ : ∃ z, z = r9 := ⟨_, rfl⟩
              obtain ⟨hbx49015, hbx49016, hbx49017, hbx49018, hr49019⟩ := hu
              have hbx49015 : (0 : Int) ≤ x49015.toInt ∧ x49015.toInt ≤ 900 := hbx49015
              have hbx49016 : (0 : Int) ≤ x49016.toInt ∧ x49016.toInt ≤ 900 := hbx49016
              have hbx49017 : (0 : Int) ≤ x49017.toInt ∧ x49017.toInt ≤ 4 := hbx49017
              have hbx49018 : (0 : Int) ≤ x49018.toInt ∧ x49018.toInt ≤ 99999 := hbx49018
              have hr49019 : ((0 : Int) ≤ r49019.toInt ∧ r49019.toInt ≤ 1 ∧ x49010.toInt ≤ x49016.toInt) ∧ (r49019.toInt = 0 ∨ (f12_96.toInt = 0 ∧ x49010.toInt < x49016.toInt)) ∧ PIk x49015 x49016 x49017 ∧ TKP r49019 f12_96 x49009 x49010 x49011 x49015 x49016 x49017 (A 4) 10 := hr49019
              have hP : va_P G vwCl (mS cs h q (upd (upd (upd (upd (upd (upd F 8 x49015) 9 x49016) 10 x49017) 11 x49018) 12 f12_96) 13 f13_96) A D B) H := hP
              have hD : va_D A0 (mS cs h q (upd (upd (upd (upd (upd (upd F 8 x49015) 9 x49016) 10 x49017) 11 x49018) 12 f12_96) 13 f13_96) A D B) := hD
              refine lv_if_eq (tgt := 152) hx hb dX11_readNext_142 (by decide) (fun c49020 => ?_) (fun c49020 => ?_)
              · have zc49020 := eqK rfl (show (0 : Int32).toInt = 0 by decide) c49020
                have hp152 : (x49017.toInt = 0 ∨ x49016.toInt < x49015.toInt) ∧ x49016.toInt ≤ x49015.toInt := hr49019.2.2.1
                refine lv_aload_n hx hb dX11_readNext_152 rfl (lv_at hl 0 rfl) ?_
                refine behDw (wr := []) (runVD (As := []) (rest := []) ⟨hx, hb, hml, hown, ht⟩ (sX11_advance l G cs h q (upd (upd (upd (upd (upd (upd F 8 x49015) 9 x49016) 10 x49017) 11 x49018) 12 f12_96) 13 f13_96) A D B (IM_put (k := 13) (IM_put (k := 12) (IM_put (k := 11) (IM_put (k := 10) (IM_put (k := 9) (IM_put (k := 8) hI (show (0 : Int) ≤ x49015.toInt ∧ x49015.toInt ≤ 900 by omega)) (show (0 : Int) ≤ x49016.toInt ∧ x49016.toInt ≤ 900 by omega)) (show (0 : Int) ≤ x49017.toInt ∧ x49017.toInt ≤ 4 by omega)) (show (0 : Int) ≤ x49018.toInt ∧ x49018.toInt ≤ 99999 by omega)) (show (0 : Int) ≤ f12_96.toInt ∧ f12_96.toInt ≤ 3 by omega)) (show (-1 : Int) ≤ f13_96.toInt ∧ f13_96.toInt ≤ 900 by omega))  ) okV_RX11_150 ⟨by decide, by decide⟩ hK hP hD [0, 1, 2, 3, 4, 5, 6, 7, 8, 9, 10, 11, 12, 13, 14, 15, 16, 17, 18, 19] rfl (by decide) rfl 0 rfl rfl hl.1 rfl (Nat.le_of_ble_eq_true rfl) dX11_readNext_153 ⟨(Nat.le_of_ble_eq_true rfl), (Nat.le_of_ble_eq_true rfl)⟩) hP hD hS hA [0, 1, 2, 3, 4, 5, 6, 7, 8, 9, 10, 11, 12, 13, 14, 15, 16, 17, 18, 19] [] rfl rfl (by decide) (by decide) (fun u H locs hu hP hD hS => ?_)
                obtain ⟨x49021, x49022, x49023, x49024⟩ := u
                obtain ⟨hbx49021, hbx49022, hbx49023, hbx49024, hr49025⟩ := hu
                have hbx49021 : (0 : Int) ≤ x49021.toInt ∧ x49021.toInt ≤ 900 := hbx49021
                have hbx49022 : (0 : Int) ≤ x49022.toInt ∧ x49022.toInt ≤ 900 := hbx49022
                have hbx49023 : (0 : Int) ≤ x49023.toInt ∧ x49023.toInt ≤ 4 := hbx49023
                have hbx49024 : (0 : Int) ≤ x49024.toInt ∧ x49024.toInt ≤ 99999 := hbx49024
                have hr49025 : x49015.toInt ≤ x49022.toInt ∧ PIk x49021 x49022 x49023 := hr49025
                have hP : va_P G vwCl (mS cs h q (upd (upd (upd (upd (upd (upd F 8 x49021) 9 x49022) 10 x49023) 11 x49024) 12 f12_96) 13 f13_96) A D B) H := hP
                have hD : va_D A0 (mS cs h q (upd (upd (upd (upd (upd (upd F 8 x49021) 9 x49022) 10 x49023) 11 x49024) 12 f12_96) 13 f13_96) A D B) := hD
                refine lv_aload_n hx hb dX11_readNext_156 rfl (lv_at hl 0 rfl) ?_
                refine behDw (wr := []) (runVDS (As := []) (rest := []) ⟨hx, hb, hml, hown, ht⟩ (sX11_readSlate l G cs sd h q (upd (upd (upd (upd (upd (upd F 8 x49021) 9 x49022) 10 x49023) 11 x49024) 12 f12_96) 13 f13_96) A D B (IM_put (k := 13) (IM_put (k := 12) (IM_put (k := 11) (IM_put (k := 10) (IM_put (k := 9) (IM_put (k := 8) hI (show (0 : Int) ≤ x49021.toInt ∧ x49021.toInt ≤ 900 by omega)) (show (0 : Int) ≤ x49022.toInt ∧ x49022.toInt ≤ 900 by omega)) (show (0 : Int) ≤ x49023.toInt ∧ x49023.toInt ≤ 4 by omega)) (show (0 : Int) ≤ x49024.toInt ∧ x49024.toInt ≤ 99999 by omega)) (show (0 : Int) ≤ f12_96.toInt ∧ f12_96.toInt ≤ 3 by omega)) (show (-1 : Int) ≤ f13_96.toInt ∧ f13_96.toInt ≤ 900 by omega))   (show PIk x49021 x49022 x49023 from hr49025.2) (show WGk f12_96 (A 14) from (fun q9 => (hWG (h96 q9))))) okV_RX11_206 ⟨by decide, by decide⟩ hK hP hD hQ hS hA [0, 1, 2, 3, 4, 5, 6, 7, 8, 9, 10, 11, 12, 13, 14, 15, 16, 17, 18, 19] rfl (by decide) rfl 0 rfl rfl hl.1 rfl (Nat.le_of_ble_eq_true rfl) dX11_readNext_157 ⟨(Nat.le_of_ble_eq_true rfl), (Nat.le_of_ble_eq_true rfl)⟩) hP hD hS hA [0, 1, 2, 3, 4, 5, 6, 7, 8, 9, 10, 11, 12, 13, 14, 15, 16, 17, 18, 19] [] rfl rfl (by decide) (by decide) (fun u H locs hu hP hD hS => ?_)
                obtain ⟨x49026, x49027, x49028, x49029, x49030, x49031, g49032⟩ := u
                obtain ⟨hbx49026, hbx49027, hbx49028, hbx49029, hbx49030, hbx49031, hg49032, hr49033⟩ := hu
                have hbx49026 : (0 : Int) ≤ x49026.toInt ∧ x49026.toInt ≤ 900 := hbx49026
                have hbx49027 : (0 : Int) ≤ x49027.toInt ∧ x49027.toInt ≤ 900 := hbx49027
                have hbx49028 : (0 : Int) ≤ x49028.toInt ∧ x49028.toInt ≤ 4 := hbx49028
                have hbx49029 : (0 : Int) ≤ x49029.toInt ∧ x49029.toInt ≤ 99999 := hbx49029
                have hbx49030 : (0 : Int) ≤ x49030.toInt ∧ x49030.toInt ≤ 3 := hbx49030
                have hbx49031 : (-1 : Int) ≤ x49031.toInt ∧ x49031.toInt ≤ 900 := hbx49031
                have hr49033 : PIk x49026 x49027 x49028 ∧ x49022.toInt ≤ x49027.toInt ∧ MOk x49030 f12_96 ∧ WGk x49030 g49032 := hr49033
                have hP : va_P G vwCl (mS cs h q (upd (upd (upd (upd (upd (upd F 8 x49026) 9 x49027) 10 x49028) 11 x49029) 12 x49030) 13 x49031) (vA A 14 g49032) D B) H := hP
                have hD : va_D A0 (mS cs h q (upd (upd (upd (upd (upd (upd F 8 x49026) 9 x49027) 10 x49028) 11 x49029) 12 x49030) 13 x49031) (vA A 14 g49032) D B) := hD
                exact retDw (x49026, x49027, x49028, x49029, x49030, x49031, g49032) hx hb hr hlk hP hD hS dX11_readNext_160 (⟨show (0 : Int) ≤ x49026.toInt ∧ x49026.toInt ≤ 900 by omega, show (0 : Int) ≤ x49027.toInt ∧ x49027.toInt ≤ 900 by omega, show (0 : Int) ≤ x49028.toInt ∧ x49028.toInt ≤ 4 by omega, show (0 : Int) ≤ x49029.toInt ∧ x49029.toInt ≤ 99999 by omega, show (0 : Int) ≤ x49030.toInt ∧ x49030.toInt ≤ 3 by omega, show (-1 : Int) ≤ x49031.toInt ∧ x49031.toInt ≤ 900 by omega, hg49032, ⟨hr49033.1, (show (F 9).toInt ≤ x49027.toInt by omega), fun q9 => (h96 (hr49033.2.2.1 q9)), (fun q9 => (hr49033.2.2.2 q9))⟩⟩) (Nat.le_of_ble_eq_true rfl) (Nat.le_of_ble_eq_true rfl)
              · have zc49020 := neK rfl (show (0 : Int32).toInt = 0 by decide) c49020
                have hb15 : (0 : Int) ≤ (A 14 5).toInt ∧ (A 14 5).toInt ≤ 6 := hI.2 14 5
                have e91 := TKP0 hr49007.2.2.2 (by omega)
                have e92 := TKP0 hr49013.2.2.2 (by omega)
                have e93 := (TKP1 hr49019.2.2.2 (by omega)).2
                rw [e92.1, e92.2.1, e92.2.2, e91.1, e91.2.1, e91.2.2] at e93
                have hx6 := hmn (by omega) e93
                refine lv_aload_n hx hb dX11_readNext_145 rfl (lv_at hl 0 rfl) ?_
                refine behDw (wr := []) (runVDS (As := []) (rest := []) ⟨hx, hb, hml, hown, ht⟩ (sX11_readMan l G cs sd h q (upd (upd (upd (upd (upd (upd F 8 x49015) 9 x49016) 10 x49017) 11 x49018) 12 f12_96) 13 f13_96) A D B (IM_put (k := 13) (IM_put (k := 12) (IM_put (k := 11) (IM_put (k := 10) (IM_put (k := 9) (IM_put (k := 8) hI (show (0 : Int) ≤ x49015.toInt ∧ x49015.toInt ≤ 900 by omega)) (show (0 : Int) ≤ x49016.toInt ∧ x49016.toInt ≤ 900 by omega)) (show (0 : Int) ≤ x49017.toInt ∧ x49017.toInt ≤ 4 by omega)) (show (0 : Int) ≤ x49018.toInt ∧ x49018.toInt ≤ 99999 by omega)) (show (0 : Int) ≤ f12_96.toInt ∧ f12_96.toInt ≤ 3 by omega)) (show (-1 : Int) ≤ f13_96.toInt ∧ f13_96.toInt ≤ 900 by omega))   (show PIk x49015 x49016 x49017 from hr49019.2.2.1) (show ((A 14) 5).toInt ≤ 5 from (by omega)) (show WGk f12_96 (A 14) from (fun q9 => (hWG (h96 q9))))) okV_RX11_203 ⟨by decide, by decide⟩ hK hP hD hQ hS hA [0, 1, 2, 3, 4, 5, 6, 7, 8, 9, 10, 11, 12, 13, 14, 15, 16, 17, 18, 19] rfl (by decide) rfl 0 rfl rfl hl.1 rfl (Nat.le_of_ble_eq_true rfl) dX11_readNext_146 ⟨(Nat.le_of_ble_eq_true rfl), (Nat.le_of_ble_eq_true rfl)⟩) hP hD hS hA [0, 1, 2, 3, 4, 5, 6, 7, 8, 9, 10, 11, 12, 13, 14, 15, 16, 17, 18, 19] [] rfl rfl (by decide) (by decide) (fun u H locs hu hP hD hS => ?_)
                obtain ⟨x49034, x49035, x49036, x49037, x49038, x49039, g49040⟩ := u
                obtain ⟨hbx49034, hbx49035, hbx49036, hbx49037, hbx49038, hbx49039, hg49040, hr49041⟩ := hu
                have hbx49034 : (0 : Int) ≤ x49034.toInt ∧ x49034.toInt ≤ 900 := hbx49034
                have hbx49035 : (0 : Int) ≤ x49035.toInt ∧ x49035.toInt ≤ 900 := hbx49035
                have hbx49036 : (0 : Int) ≤ x49036.toInt ∧ x49036.toInt ≤ 4 := hbx49036
                have hbx49037 : (0 : Int) ≤ x49037.toInt ∧ x49037.toInt ≤ 99999 := hbx49037
                have hbx49038 : (0 : Int) ≤ x49038.toInt ∧ x49038.toInt ≤ 3 := hbx49038
                have hbx49039 : (-1 : Int) ≤ x49039.toInt ∧ x49039.toInt ≤ 900 := hbx49039
                have hr49041 : PIk x49034 x49035 x49036 ∧ x49016.toInt ≤ x49035.toInt ∧ MOk x49038 f12_96 ∧ WGk x49038 g49040 := hr49041
                have hP : va_P G vwCl (mS cs h q (upd (upd (upd (upd (upd (upd F 8 x49034) 9 x49035) 10 x49036) 11 x49037) 12 x49038) 13 x49039) (vA A 14 g49040) D B) H := hP
                have hD : va_D A0 (mS cs h q (upd (upd (upd (upd (upd (upd F 8 x49034) 9 x49035) 10 x49036) 11 x49037) 12 x49038) 13 x49039) (vA A 14 g49040) D B) := hD
                refine lv_goto (tgt := 160) hx hb dX11_readNext_149 (by decide) ?_
                exact retDw (x49034, x49035, x49036, x49037, x49038, x49039, g49040) hx hb hr hlk hP hD hS dX11_readNext_160 (⟨show (0 : Int) ≤ x49034.toInt ∧ x49034.toInt ≤ 900 by omega, show (0 : Int) ≤ x49035.toInt ∧ x49035.toInt ≤ 900 by omega, show (0 : Int) ≤ x49036.toInt ∧ x49036.toInt ≤ 4 by omega, show (0 : Int) ≤ x49037.toInt ∧ x49037.toInt ≤ 99999 by omega, show (0 : Int) ≤ x49038.toInt ∧ x49038.toInt ≤ 3 by omega, show (-1 : Int) ≤ x49039.toInt ∧ x49039.toInt ≤ 900 by omega, hg49040, ⟨hr49041.1, (show (F 9).toInt ≤ x49035.toInt by omega), fun q9 => (h96 (hr49041.2.2.1 q9)), (fun q9 => (hr49041.2.2.2 q9))⟩⟩) (Nat.le_of_ble_eq_true rfl) (Nat.le_of_ble_eq_true rfl)
            · have zc49014 := neK rfl (show (0 : Int32).toInt = 0 by decide) c49014
              refine lv_aload_n hx hb dX11_readNext_129 rfl (lv_at hl 0 rfl) ?_
              refine behDw (wr := []) (runVD (As := []) (rest := []) ⟨hx, hb, hml, hown, ht⟩ (sX11_readDoor l G cs h q (upd (upd (upd (upd (upd (upd F 8 x49009) 9 x49010) 10 x49011) 11 x49012) 12 f12_96) 13 f13_96) A D B (IM_put (k := 13) (IM_put (k := 12) (IM_put (k := 11) (IM_put (k := 10) (IM_put (k := 9) (IM_put (k := 8) hI (show (0 : Int) ≤ x49009.toInt ∧ x49009.toInt ≤ 900 by omega)) (show (0 : Int) ≤ x49010.toInt ∧ x49010.toInt ≤ 900 by omega)) (show (0 : Int) ≤ x49011.toInt ∧ x49011.toInt ≤ 4 by omega)) (show (0 : Int) ≤ x49012.toInt ∧ x49012.toInt ≤ 99999 by omega)) (show (0 : Int) ≤ f12_96.toInt ∧ f12_96.toInt ≤ 3 by omega)) (show (-1 : Int) ≤ f13_96.toInt ∧ f13_96.toInt ≤ 900 by omega))   (show PIk x49009 x49010 x49011 from hr49013.2.2.1) (show WGk f12_96 (A 14) from (fun q9 => (hWG (h96 q9))))) okV_RX11_200 ⟨by decide, by decide⟩ hK hP hD [0, 1, 2, 3, 4, 5, 6, 7, 8, 9, 10, 11, 12, 13, 14, 15, 16, 17, 18, 19] rfl (by decide) rfl 0 rfl rfl hl.1 rfl (Nat.le_of_ble_eq_true rfl) dX11_readNext_130 ⟨(Nat.le_of_ble_eq_true rfl), (Nat.le_of_ble_eq_true rfl)⟩) hP hD hS hA [0, 1, 2, 3, 4, 5, 6, 7, 8, 9, 10, 11, 12, 13, 14, 15, 16, 17, 18, 19] [] rfl rfl (by decide) (by decide) (fun u H locs hu hP hD hS => ?_)
              obtain ⟨x49042, x49043, x49044, x49045, x49046, x49047, g49048⟩ := u
              obtain ⟨hbx49042, hbx49043, hbx49044, hbx49045, hbx49046, hbx49047, hg49048, hr49049⟩ := hu
              have hbx49042 : (0 : Int) ≤ x49042.toInt ∧ x49042.toInt ≤ 900 := hbx49042
              have hbx49043 : (0 : Int) ≤ x49043.toInt ∧ x49043.toInt ≤ 900 := hbx49043
              have hbx49044 : (0 : Int) ≤ x49044.toInt ∧ x49044.toInt ≤ 4 := hbx49044
              have hbx49045 : (0 : Int) ≤ x49045.toInt ∧ x49045.toInt ≤ 99999 := hbx49045
              have hbx49046 : (0 : Int) ≤ x49046.toInt ∧ x49046.toInt ≤ 3 := hbx49046
              have hbx49047 : (-1 : Int) ≤ x49047.toInt ∧ x49047.toInt ≤ 900 := hbx49047
              have hr49049 : PIk x49042 x49043 x49044 ∧ x49010.toInt ≤ x49043.toInt ∧ MOk x49046 f12_96 ∧ WGk x49046 g49048 := hr49049
              have hP : va_P G vwCl (mS cs h q (upd (upd (upd (upd (upd (upd F 8 x49042) 9 x49043) 10 x49044) 11 x49045) 12 x49046) 13 x49047) (vA A 14 g49048) D B) H := hP
              have hD : va_D A0 (mS cs h q (upd (upd (upd (upd (upd (upd F 8 x49042) 9 x49043) 10 x49044) 11 x49045) 12 x49046) 13 x49047) (vA A 14 g49048) D B) := hD
              refine lv_goto (tgt := 160) hx hb dX11_readNext_133 (by decide) ?_
              exact retDw (x49042, x49043, x49044, x49045, x49046, x49047, g49048) hx hb hr hlk hP hD hS dX11_readNext_160 (⟨show (0 : Int) ≤ x49042.toInt ∧ x49042.toInt ≤ 900 by omega, show (0 : Int) ≤ x49043.toInt ∧ x49043.toInt ≤ 900 by omega, show (0 : Int) ≤ x49044.toInt ∧ x49044.toInt ≤ 4 by omega, show (0 : Int) ≤ x49045.toInt ∧ x49045.toInt ≤ 99999 by omega, show (0 : Int) ≤ x49046.toInt ∧ x49046.toInt ≤ 3 by omega, show (-1 : Int) ≤ x49047.toInt ∧ x49047.toInt ≤ 900 by omega, hg49048, ⟨hr49049.1, (show (F 9).toInt ≤ x49043.toInt by omega), fun q9 => (h96 (hr49049.2.2.1 q9)), (fun q9 => (hr49049.2.2.2 q9))⟩⟩) (Nat.le_of_ble_eq_true rfl) (Nat.le_of_ble_eq_true rfl)
          · have zc49008 := neK rfl (show (0 : Int32).toInt = 0 by decide) c49008
            have hb14 : (0 : Int) ≤ (A 14 4).toInt ∧ (A 14 4).toInt ≤ 7 := hI.2 14 4
            have hx7 := hrm (by omega) (TKP1 hr49007.2.2.2 (by omega)).2
            refine lv_aload_n hx hb dX11_readNext_113 rfl (lv_at hl 0 rfl) ?_
            refine behDw (wr := []) (runVDS (As := []) (rest := []) ⟨hx, hb, hml, hown, ht⟩ (sX11_readRoom l G cs sd h q (upd (upd (upd (upd (upd (upd F 8 x49003) 9 x49004) 10 x49005) 11 x49006) 12 f12_96) 13 f13_96) A D B (IM_put (k := 13) (IM_put (k := 12) (IM_put (k := 11) (IM_put (k := 10) (IM_put (k := 9) (IM_put (k := 8) hI (show (0 : Int) ≤ x49003.toInt ∧ x49003.toInt ≤ 900 by omega)) (show (0 : Int) ≤ x49004.toInt ∧ x49004.toInt ≤ 900 by omega)) (show (0 : Int) ≤ x49005.toInt ∧ x49005.toInt ≤ 4 by omega)) (show (0 : Int) ≤ x49006.toInt ∧ x49006.toInt ≤ 99999 by omega)) (show (0 : Int) ≤ f12_96.toInt ∧ f12_96.toInt ≤ 3 by omega)) (show (-1 : Int) ≤ f13_96.toInt ∧ f13_96.toInt ≤ 900 by omega))   (show PIk x49003 x49004 x49005 from hr49007.2.2.1) (show ((A 14) 4).toInt ≤ 6 from (by omega)) (show WGk f12_96 (A 14) from (fun q9 => (hWG (h96 q9))))) okV_RX11_197 ⟨by decide, by decide⟩ hK hP hD hQ hS hA [0, 1, 2, 3, 4, 5, 6, 7, 8, 9, 10, 11, 12, 13, 14, 15, 16, 17, 18, 19] rfl (by decide) rfl 0 rfl rfl hl.1 rfl (Nat.le_of_ble_eq_true rfl) dX11_readNext_114 ⟨(Nat.le_of_ble_eq_true rfl), (Nat.le_of_ble_eq_true rfl)⟩) hP hD hS hA [0, 1, 2, 3, 4, 5, 6, 7, 8, 9, 10, 11, 12, 13, 14, 15, 16, 17, 18, 19] [] rfl rfl (by decide) (by decide) (fun u H locs hu hP hD hS => ?_)
            obtain ⟨x49050, x49051, x49052, x49053, x49054, x49055, g49056⟩ := u
            obtain ⟨hbx49050, hbx49051, hbx49052, hbx49053, hbx49054, hbx49055, hg49056, hr49057⟩ := hu
            have hbx49050 : (0 : Int) ≤ x49050.toInt ∧ x49050.toInt ≤ 900 := hbx49050
            have hbx49051 : (0 : Int) ≤ x49051.toInt ∧ x49051.toInt ≤ 900 := hbx49051
            have hbx49052 : (0 : Int) ≤ x49052.toInt ∧ x49052.toInt ≤ 4 := hbx49052
            have hbx49053 : (0 : Int) ≤ x49053.toInt ∧ x49053.toInt ≤ 99999 := hbx49053
            have hbx49054 : (0 : Int) ≤ x49054.toInt ∧ x49054.toInt ≤ 3 := hbx49054
            have hbx49055 : (-1 : Int) ≤ x49055.toInt ∧ x49055.toInt ≤ 900 := hbx49055
            have hr49057 : PIk x49050 x49051 x49052 ∧ x49004.toInt ≤ x49051.toInt ∧ MOk x49054 f12_96 ∧ WGk x49054 g49056 := hr49057
            have hP : va_P G vwCl (mS cs h q (upd (upd (upd (upd (upd (upd F 8 x49050) 9 x49051) 10 x49052) 11 x49053) 12 x49054) 13 x49055) (vA A 14 g49056) D B) H := hP
            have hD : va_D A0 (mS cs h q (upd (upd (upd (upd (upd (upd F 8 x49050) 9 x49051) 10 x49052) 11 x49053) 12 x49054) 13 x49055) (vA A 14 g49056) D B) := hD
            refine lv_goto (tgt := 160) hx hb dX11_readNext_117 (by decide) ?_
            exact retDw (x49050, x49051, x49052, x49053, x49054, x49055, g49056) hx hb hr hlk hP hD hS dX11_readNext_160 (⟨show (0 : Int) ≤ x49050.toInt ∧ x49050.toInt ≤ 900 by omega, show (0 : Int) ≤ x49051.toInt ∧ x49051.toInt ≤ 900 by omega, show (0 : Int) ≤ x49052.toInt ∧ x49052.toInt ≤ 4 by omega, show (0 : Int) ≤ x49053.toInt ∧ x49053.toInt ≤ 99999 by omega, show (0 : Int) ≤ x49054.toInt ∧ x49054.toInt ≤ 3 by omega, show (-1 : Int) ≤ x49055.toInt ∧ x49055.toInt ≤ 900 by omega, hg49056, ⟨hr49057.1, (show (F 9).toInt ≤ x49051.toInt by omega), fun q9 => (h96 (hr49057.2.2.1 q9)), (fun q9 => (hr49057.2.2.2 q9))⟩⟩) (Nat.le_of_ble_eq_true rfl) (Nat.le_of_ble_eq_true rfl)
        · have zc49002 := eqK rfl (show (0 : Int32).toInt = 0 by decide) c49002
          exact retDw ((F 8), (F 9), (F 10), (F 11), f12_96, f13_96, (A 14)) hx hb hr hlk hP hD hS dX11_readNext_103 (⟨hI.1 8, hI.1 9, hI.1 10, hI.1 11, show (0 : Int) ≤ f12_96.toInt ∧ f12_96.toInt ≤ 3 by omega, show (-1 : Int) ≤ f13_96.toInt ∧ f13_96.toInt ≤ 900 by omega, fun j => hI.2 14 j, ⟨hPI, (show (F 9).toInt ≤ (F 9).toInt by omega), fun q9 => absurd (show f12_96.toInt = 0 from q9) (by omega), fun q9 => absurd (show f12_96.toInt = 0 from q9) (by omega)⟩⟩) (Nat.le_of_ble_eq_true rfl) (Nat.le_of_ble_eq_true rfl)
      have B91 : ∀ (H : Heap) (locs : List Loc) (ls : Array Slot), va_P G vwCl (mS cs h q (upd (upd F 12 f12_51) 13 f13_51) A D B) H → va_D A0 (mS cs h q (upd (upd F 12 f12_51) 13 f13_51) A D B) → va_S A0 s.heap H locs → lv_has ls 2 [(0, .ref h)] → W p l e (rmk 9 0 0) s m args below meth c H locs 0 0 (MQ below ((QDw G (fun u : Int32 × Int32 × Int32 × Int32 × Int32 × Int32 × (Nat → Int32) => ((0 : Int) ≤ u.1.toInt ∧ u.1.toInt ≤ 900) ∧ ((0 : Int) ≤ u.2.1.toInt ∧ u.2.1.toInt ≤ 900) ∧ ((0 : Int) ≤ u.2.2.1.toInt ∧ u.2.2.1.toInt ≤ 4) ∧ ((0 : Int) ≤ u.2.2.2.1.toInt ∧ u.2.2.2.1.toInt ≤ 99999) ∧ ((0 : Int) ≤ u.2.2.2.2.1.toInt ∧ u.2.2.2.2.1.toInt ≤ 3) ∧ ((-1 : Int) ≤ u.2.2.2.2.2.1.toInt ∧ u.2.2.2.2.2.1.toInt ≤ 900) ∧ AI 14 u.2.2.2.2.2.2 ∧ (PIk u.1 u.2.1 u.2.2.1 ∧ (F 9).toInt ≤ u.2.1.toInt ∧ MOk u.2.2.2.2.1 (F 12) ∧ WGk u.2.2.2.2.1 u.2.2.2.2.2.2)) (fun u : Int32 × Int32 × Int32 × Int32 × Int32 × Int32 × (Nat → Int32) => (mS cs h q (upd (upd (upd (upd (upd (upd F 8 u.1) 9 u.2.1) 10 u.2.2.1) 11 u.2.2.2.1) 12 u.2.2.2.2.1) 13 u.2.2.2.2.2.1) (vA A 14 u.2.2.2.2.2.2) D B))) A0) args s 0 0 A0) (F0 m 91 ls []) := by
        intro H locs ls hP hD hS hl
        refine lv_aload_n hx hb dX11_readNext_91 rfl (lv_at hl 0 rfl) ?_
        refine lv_iconst (v := 3) hx hb dX11_readNext_92 (by decide) ?_
        refine behDw (wr := []) (runVD (As := [.int 3]) (rest := []) ⟨hx, hb, hml, hown, ht⟩ (sX11_errs l G cs h q (upd (upd F 12 f12_51) 13 f13_51) A D B (IM_put (k := 13) (IM_put (k := 12) hI (show (0 : Int) ≤ f12_51.toInt ∧ f12_51.toInt ≤ 3 by omega)) (show (-1 : Int) ≤ f13_51.toInt ∧ f13_51.toInt ≤ 900 by omega)) 3 (by decide)) okV_RX11_156 ⟨by decide, by decide⟩ hK hP hD [0, 1, 2, 3, 4, 5, 6, 7, 8, 9, 10, 11, 12, 13, 14, 15, 16, 17, 18, 19] rfl (by decide) rfl 0 rfl rfl hl.1 rfl (Nat.le_of_ble_eq_true rfl) dX11_readNext_93 ⟨(Nat.le_of_ble_eq_true rfl), (Nat.le_of_ble_eq_true rfl)⟩) hP hD hS hA [0, 1, 2, 3, 4, 5, 6, 7, 8, 9, 10, 11, 12, 13, 14, 15, 16, 17, 18, 19] [] rfl rfl (by decide) (by decide) (fun u H locs hu hP hD hS => ?_)
        obtain ⟨x46001, x46002⟩ := u
        have kk46004 : (3 : Int32).toInt = 3 := by decide
        obtain ⟨hbx46001, hbx46002, hr46003⟩ := hu
        have hbx46001 : (0 : Int) ≤ x46001.toInt ∧ x46001.toInt ≤ 3 := hbx46001
        have hbx46002 : (-1 : Int) ≤ x46002.toInt ∧ x46002.toInt ≤ 900 := hbx46002
        have hr46003 : ¬ x46001.toInt = 0 := hr46003
        have hP : va_P G vwCl (mS cs h q (upd (upd F 12 x46001) 13 x46002) A D B) H := hP
        have hD : va_D A0 (mS cs h q (upd (upd F 12 x46001) 13 x46002) A D B) := hD
        exact B96 x46001 x46002 H locs ls (by omega) (by omega) (fun q9 => absurd q9 (by omega)) (fun q1 => absurd q1 (by omega)) (fun q1 => absurd q1 (by omega)) hP hD hS (lv_sub hl [0] rfl)
      have B71 : ∀ (H : Heap) (locs : List Loc) (ls : Array Slot), (NOT7 f12_51 (F 8) (F 9) (F 10) (A 4) 5 (A 14 4) 7) → va_P G vwCl (mS cs h q (upd (upd F 12 f12_51) 13 f13_51) A D B) H → va_D A0 (mS cs h q (upd (upd F 12 f12_51) 13 f13_51) A D B) → va_S A0 s.heap H locs → lv_has ls 2 [(0, .ref h)] → W p l e (rmk 9 0 0) s m args below meth c H locs 0 0 (MQ below ((QDw G (fun u : Int32 × Int32 × Int32 × Int32 × Int32 × Int32 × (Nat → Int32) => ((0 : Int) ≤ u.1.toInt ∧ u.1.toInt ≤ 900) ∧ ((0 : Int) ≤ u.2.1.toInt ∧ u.2.1.toInt ≤ 900) ∧ ((0 : Int) ≤ u.2.2.1.toInt ∧ u.2.2.1.toInt ≤ 4) ∧ ((0 : Int) ≤ u.2.2.2.1.toInt ∧ u.2.2.2.1.toInt ≤ 99999) ∧ ((0 : Int) ≤ u.2.2.2.2.1.toInt ∧ u.2.2.2.2.1.toInt ≤ 3) ∧ ((-1 : Int) ≤ u.2.2.2.2.2.1.toInt ∧ u.2.2.2.2.2.1.toInt ≤ 900) ∧ AI 14 u.2.2.2.2.2.2 ∧ (PIk u.1 u.2.1 u.2.2.1 ∧ (F 9).toInt ≤ u.2.1.toInt ∧ MOk u.2.2.2.2.1 (F 12) ∧ WGk u.2.2.2.2.1 u.2.2.2.2.2.2)) (fun u : Int32 × Int32 × Int32 × Int32 × Int32 × Int32 × (Nat → Int32) => (mS cs h q (upd (upd (upd (upd (upd (upd F 8 u.1) 9 u.2.1) 10 u.2.2.1) 11 u.2.2.2.1) 12 u.2.2.2.2.1) 13 u.2.2.2.2.2.1) (vA A 14 u.2.2.2.2.2.2) D B))) A0) args s 0 0 A0) (F0 m 71 ls []) := by
        intro H locs ls hrm hP hD hS hl
        refine lv_aload_n hx hb dX11_readNext_71 rfl (lv_at hl 0 rfl) ?_
        refine va_ldcS hx hb hown (hQ.2.2.2 _ (List.mem_of_getElem? (i := 7) rfl)) dX11_readNext_72 ?_
        refine behR (runVPS (As := [.ref ((sd 10).1)]) (rest := []) ⟨hx, hb, hml, hown, ht⟩ (sX11_is l G cs sd h q (upd (upd F 12 f12_51) 13 f13_51) A D B (IM_put (k := 13) (IM_put (k := 12) hI (show (0 : Int) ≤ f12_51.toInt ∧ f12_51.toInt ≤ 3 by omega)) (show (-1 : Int) ≤ f13_51.toInt ∧ f13_51.toInt ≤ 900 by omega)) 10 (by decide) ) okV_RX11_146 ⟨by decide, by decide⟩ hK hP hQ hS hA [0, 1, 2, 3, 4, 5, 6, 7, 8, 9, 10, 11, 12, 13, 14, 15, 16, 17, 18, 19] rfl 0 rfl rfl hl.1 rfl (Nat.le_of_ble_eq_true rfl) dX11_readNext_74 ⟨by decide, by decide⟩) hP hS hA (fun r36001 H locs hr36001 hP hS => ?_)
        have hr36001 : ISP r36001 f12_51 (F 8) (F 9) (F 10) (A 4) 10 ∧ (0 : Int) ≤ r36001.toInt ∧ r36001.toInt ≤ 1 := hr36001
        refine lv_if_eq (tgt := 96) hx hb dX11_readNext_77 (by decide) (fun c36002 => ?_) (fun c36002 => ?_)
        · have zc36002 := eqK rfl (show (0 : Int32).toInt = 0 by decide) c36002
          exact B96 f12_51 f13_51 H locs ls (by omega) (by omega) (fun q9 => (h51 q9)) hrm (fun q1 q2 => absurd ⟨q1, q2⟩ (ISP0 hr36001.1 (by omega))) hP hD hS (lv_sub hl [0] rfl)
        · have zc36002 := neK rfl (show (0 : Int32).toInt = 0 by decide) c36002
          refine lv_aload_n hx hb dX11_readNext_80 rfl (lv_at hl 0 rfl) ?_
          refine getF (v := .ref (q 14)) hx hb ht hown hK hP iTX11 0 14 rfl rfl (by decide) fl_RX11_31 rfl dX11_readNext_81 ?_
          refine lv_iconst (v := 5) hx hb dX11_readNext_84 (by decide) ?_
          refine va_iald hx hb hK.1 hP 6 0 rfl rfl (show ¬ (_ ∨ _) by decide) dX11_readNext_85 ?_
          refine W.eq (g2 := F0 m 86 ls [.int (A 14 5)]) rfl ?_
          have zf36003 : (0 : Int) ≤ (A 14 5).toInt ∧ (A 14 5).toInt ≤ 6 := (hI.2 14 5)
          refine lv_bipush (v := 6) hx hb dX11_readNext_86 (by decide) ?_
          refine lv_icmp_ne (tgt := 96) hx hb dX11_readNext_88 (by decide) (fun c36004 => ?_) (fun c36004 => ?_)
          · have zc36004 := neK rfl (show (6 : Int32).toInt = 6 by decide) c36004
            exact B96 f12_51 f13_51 H locs ls (by omega) (by omega) (fun q9 => (h51 q9)) hrm (fun _ _ => by omega) hP hD hS (lv_sub hl [0] rfl)
          · have zc36004 := eqK rfl (show (6 : Int32).toInt = 6 by decide) c36004
            exact B91 H locs ls hP hD hS (lv_sub hl [0] rfl)
      refine lv_if_eq (tgt := 71) hx hb dX11_readNext_57 (by decide) (fun c26002 => ?_) (fun c26002 => ?_)
      · have zc26002 := eqK rfl (show (0 : Int32).toInt = 0 by decide) c26002
        exact B71 H locs ls (fun q1 q2 => absurd ⟨q1, q2⟩ (ISP0 hr26001.1 (by omega))) hP hD hS (lv_sub hl [0] rfl)
      · have zc26002 := neK rfl (show (0 : Int32).toInt = 0 by decide) c26002
        refine lv_aload_n hx hb dX11_readNext_60 rfl (lv_at hl 0 rfl) ?_
        refine getF (v := .ref (q 14)) hx hb ht hown hK hP iTX11 0 14 rfl rfl (by decide) fl_RX11_31 rfl dX11_readNext_61 ?_
        refine lv_iconst (v := 4) hx hb dX11_readNext_64 (by decide) ?_
        refine va_iald hx hb hK.1 hP 6 0 rfl rfl (show ¬ (_ ∨ _) by decide) dX11_readNext_65 ?_
        refine W.eq (g2 := F0 m 66 ls [.int (A 14 4)]) rfl ?_
        have zf26003 : (0 : Int) ≤ (A 14 4).toInt ∧ (A 14 4).toInt ≤ 7 := (hI.2 14 4)
        refine lv_bipush (v := 7) hx hb dX11_readNext_66 (by decide) ?_
        refine lv_icmp_eq (tgt := 91) hx hb dX11_readNext_68 (by decide) (fun c26004 => ?_) (fun c26004 => ?_)
        · have zc26004 := eqK rfl (show (7 : Int32).toInt = 7 by decide) c26004
          exact B91 H locs ls hP hD hS (lv_sub hl [0] rfl)
        · have zc26004 := neK rfl (show (7 : Int32).toInt = 7 by decide) c26004
          exact B71 H locs ls (fun _ _ => by omega) hP hD hS (lv_sub hl [0] rfl)
    refine lv_if_ne (tgt := 51) hx hb dX11_readNext_43 (by decide) (fun c20001 => ?_) (fun c20001 => ?_)
    · have zc20001 := neK rfl (show (0 : Int32).toInt = 0 by decide) c20001
      exact B51 (F 12) (F 13) H locs ls (hI.1 12) (hI.1 13) (fun q9 => q9) hP hD hS (lv_sub hl [1] rfl)
    · have zc20001 := eqK rfl (show (0 : Int32).toInt = 0 by decide) c20001
      refine lv_aload_n hx hb dX11_readNext_46 rfl (lv_at hl 1 rfl) ?_
      refine lv_iconst (v := 1) hx hb dX11_readNext_47 (by decide) ?_
      refine behDw (wr := []) (runVD (As := [.int 1]) (rest := []) ⟨hx, hb, hml, hown, ht⟩ (sX11_errs l G cs h q F A D B hI 1 (by decide)) okV_RX11_156 ⟨by decide, by decide⟩ hK hP hD [0, 1, 2, 3, 4, 5, 6, 7, 8, 9, 10, 11, 12, 13, 14, 15, 16, 17, 18, 19] rfl (by decide) rfl 0 rfl rfl hl.1 rfl (Nat.le_of_ble_eq_true rfl) dX11_readNext_48 ⟨(Nat.le_of_ble_eq_true rfl), (Nat.le_of_ble_eq_true rfl)⟩) hP hD hS hA [0, 1, 2, 3, 4, 5, 6, 7, 8, 9, 10, 11, 12, 13, 14, 15, 16, 17, 18, 19] [] rfl rfl (by decide) (by decide) (fun u H locs hu hP hD hS => ?_)
      obtain ⟨x20002, x20003⟩ := u
      have kk20005 : (1 : Int32).toInt = 1 := by decide
      obtain ⟨hbx20002, hbx20003, hr20004⟩ := hu
      have hbx20002 : (0 : Int) ≤ x20002.toInt ∧ x20002.toInt ≤ 3 := hbx20002
      have hbx20003 : (-1 : Int) ≤ x20003.toInt ∧ x20003.toInt ≤ 900 := hbx20003
      have hr20004 : ¬ x20002.toInt = 0 := hr20004
      have hP : va_P G vwCl (mS cs h q (upd (upd F 12 x20002) 13 x20003) A D B) H := hP
      have hD : va_D A0 (mS cs h q (upd (upd F 12 x20002) 13 x20003) A D B) := hD
      exact B51 x20002 x20003 H locs ls (by omega) (by omega) (fun q9 => absurd q9 (by omega)) hP hD hS (lv_sub hl [1] rfl)
  have B36 : ∀ (H : Heap) (locs : List Loc) (ls : Array Slot), va_P G vwCl (mS cs h q F A D B) H → va_D A0 (mS cs h q F A D B) → va_S A0 s.heap H locs → lv_has ls 2 [(0, .ref h)] → W p l e (rmk 9 0 0) s m args below meth c H locs 0 0 (MQ below ((QDw G (fun u : Int32 × Int32 × Int32 × Int32 × Int32 × Int32 × (Nat → Int32) => ((0 : Int) ≤ u.1.toInt ∧ u.1.toInt ≤ 900) ∧ ((0 : Int) ≤ u.2.1.toInt ∧ u.2.1.toInt ≤ 900) ∧ ((0 : Int) ≤ u.2.2.1.toInt ∧ u.2.2.1.toInt ≤ 4) ∧ ((0 : Int) ≤ u.2.2.2.1.toInt ∧ u.2.2.2.1.toInt ≤ 99999) ∧ ((0 : Int) ≤ u.2.2.2.2.1.toInt ∧ u.2.2.2.2.1.toInt ≤ 3) ∧ ((-1 : Int) ≤ u.2.2.2.2.2.1.toInt ∧ u.2.2.2.2.2.1.toInt ≤ 900) ∧ AI 14 u.2.2.2.2.2.2 ∧ (PIk u.1 u.2.1 u.2.2.1 ∧ (F 9).toInt ≤ u.2.1.toInt ∧ MOk u.2.2.2.2.1 (F 12) ∧ WGk u.2.2.2.2.1 u.2.2.2.2.2.2)) (fun u : Int32 × Int32 × Int32 × Int32 × Int32 × Int32 × (Nat → Int32) => (mS cs h q (upd (upd (upd (upd (upd (upd F 8 u.1) 9 u.2.1) 10 u.2.2.1) 11 u.2.2.2.1) 12 u.2.2.2.2.1) 13 u.2.2.2.2.2.1) (vA A 14 u.2.2.2.2.2.2) D B))) A0) args s 0 0 A0) (F0 m 36 ls []) := by
    intro H locs ls hP hD hS hl
    refine lv_iconst (v := 1) hx hb dX11_readNext_36 (by decide) ?_
    refine lv_goto (tgt := 41) hx hb dX11_readNext_37 (by decide) ?_
    exact B41 1 H locs ls (by decide) hP hD hS (lv_sub hl [0] rfl)
  refine lv_if_ne (tgt := 36) hx hb dX11_readNext_6 (by decide) (fun c2 => ?_) (fun c2 => ?_)
  · have zc2 := neK rfl (show (0 : Int32).toInt = 0 by decide) c2
    exact B36 H locs ls hP hD hS (lv_sub hl [0] rfl)
  · have zc2 := eqK rfl (show (0 : Int32).toInt = 0 by decide) c2
    refine lv_aload_n hx hb dX11_readNext_9 rfl (lv_at hl 0 rfl) ?_
    refine va_ldcS hx hb hown (hQ.2.2.2 _ (List.mem_of_getElem? (i := 6) rfl)) dX11_readNext_10 ?_
    refine behR (runVPS (As := [.ref ((sd 9).1)]) (rest := []) ⟨hx, hb, hml, hown, ht⟩ (sX11_is l G cs sd h q F A D B hI 9 (by decide) ) okV_RX11_146 ⟨by decide, by decide⟩ hK hP hQ hS hA [0, 1, 2, 3, 4, 5, 6, 7, 8, 9, 10, 11, 12, 13, 14, 15, 16, 17, 18, 19] rfl 0 rfl rfl hl.1 rfl (Nat.le_of_ble_eq_true rfl) dX11_readNext_12 ⟨by decide, by decide⟩) hP hS hA (fun r3 H locs hr3 hP hS => ?_)
    have hr3 : ISP r3 (F 12) (F 8) (F 9) (F 10) (A 4) 9 ∧ (0 : Int) ≤ r3.toInt ∧ r3.toInt ≤ 1 := hr3
    refine lv_if_ne (tgt := 36) hx hb dX11_readNext_15 (by decide) (fun c4 => ?_) (fun c4 => ?_)
    · have zc4 := neK rfl (show (0 : Int32).toInt = 0 by decide) c4
      exact B36 H locs ls hP hD hS (lv_sub hl [0] rfl)
    · have zc4 := eqK rfl (show (0 : Int32).toInt = 0 by decide) c4
      refine lv_aload_n hx hb dX11_readNext_18 rfl (lv_at hl 0 rfl) ?_
      refine va_ldcS hx hb hown (hQ.2.2.2 _ (List.mem_of_getElem? (i := 7) rfl)) dX11_readNext_19 ?_
      refine behR (runVPS (As := [.ref ((sd 10).1)]) (rest := []) ⟨hx, hb, hml, hown, ht⟩ (sX11_is l G cs sd h q F A D B hI 10 (by decide) ) okV_RX11_146 ⟨by decide, by decide⟩ hK hP hQ hS hA [0, 1, 2, 3, 4, 5, 6, 7, 8, 9, 10, 11, 12, 13, 14, 15, 16, 17, 18, 19] rfl 0 rfl rfl hl.1 rfl (Nat.le_of_ble_eq_true rfl) dX11_readNext_21 ⟨by decide, by decide⟩) hP hS hA (fun r5 H locs hr5 hP hS => ?_)
      have hr5 : ISP r5 (F 12) (F 8) (F 9) (F 10) (A 4) 10 ∧ (0 : Int) ≤ r5.toInt ∧ r5.toInt ≤ 1 := hr5
      refine lv_if_ne (tgt := 36) hx hb dX11_readNext_24 (by decide) (fun c6 => ?_) (fun c6 => ?_)
      · have zc6 := neK rfl (show (0 : Int32).toInt = 0 by decide) c6
        exact B36 H locs ls hP hD hS (lv_sub hl [0] rfl)
      · have zc6 := eqK rfl (show (0 : Int32).toInt = 0 by decide) c6
        refine lv_aload_n hx hb dX11_readNext_27 rfl (lv_at hl 0 rfl) ?_
        refine va_ldcS hx hb hown (hQ.2.2.2 _ (List.mem_of_getElem? (i := 8) rfl)) dX11_readNext_28 ?_
        refine behR (runVPS (As := [.ref ((sd 13).1)]) (rest := []) ⟨hx, hb, hml, hown, ht⟩ (sX11_is l G cs sd h q F A D B hI 13 (by decide) ) okV_RX11_146 ⟨by decide, by decide⟩ hK hP hQ hS hA [0, 1, 2, 3, 4, 5, 6, 7, 8, 9, 10, 11, 12, 13, 14, 15, 16, 17, 18, 19] rfl 0 rfl rfl hl.1 rfl (Nat.le_of_ble_eq_true rfl) dX11_readNext_30 ⟨by decide, by decide⟩) hP hS hA (fun r7 H locs hr7 hP hS => ?_)
        have hr7 : ISP r7 (F 12) (F 8) (F 9) (F 10) (A 4) 13 ∧ (0 : Int) ≤ r7.toInt ∧ r7.toInt ≤ 1 := hr7
        refine lv_if_eq (tgt := 40) hx hb dX11_readNext_33 (by decide) (fun c8 => ?_) (fun c8 => ?_)
        · have zc8 := eqK rfl (show (0 : Int32).toInt = 0 by decide) c8
          refine lv_iconst (v := 0) hx hb dX11_readNext_40 (by decide) ?_
          exact B41 0 H locs ls (by decide) hP hD hS (lv_sub hl [0] rfl)
        · have zc8 := neK rfl (show (0 : Int32).toInt = 0 by decide) c8
          exact B36 H locs ls hP hD hS (lv_sub hl [0] rfl)

set_option maxRecDepth 100000 in
set_option maxHeartbeats 8000000 in
theorem sX11_readLine (l : Launch) (G : va_G) (cs : Nat → ClassId) (sd : Nat → Nat × Nat) (h : Nat) (q : Nat → Nat) (F : Nat → Int32) (A : Nat → Nat → Int32) (D : Int64) (B : Nat → Nat → Int64) (hI : IM F A) (hPI : PIk (F 8) (F 9) (F 10)) (hWG : WGk (F 12) (A 14)) : ∀ sz : Nat, Met l yX11_readLine (wk yX11_readLine cX11_readLine 1 none) (rmk 10 0 0) (PreDS SRM sd G (TY cs) [.ref h] (mS cs h q F A D B) sz) ((QDw G (fun u : Int32 × Int32 × Int32 × Int32 × Int32 × Int32 × (Nat → Int32) => ((0 : Int) ≤ u.1.toInt ∧ u.1.toInt ≤ 900) ∧ ((0 : Int) ≤ u.2.1.toInt ∧ u.2.1.toInt ≤ 900) ∧ ((0 : Int) ≤ u.2.2.1.toInt ∧ u.2.2.1.toInt ≤ 4) ∧ ((0 : Int) ≤ u.2.2.2.1.toInt ∧ u.2.2.2.1.toInt ≤ 99999) ∧ ((0 : Int) ≤ u.2.2.2.2.1.toInt ∧ u.2.2.2.2.1.toInt ≤ 3) ∧ ((-1 : Int) ≤ u.2.2.2.2.2.1.toInt ∧ u.2.2.2.2.2.1.toInt ≤ 900) ∧ AI 14 u.2.2.2.2.2.2 ∧ (PIk u.1 u.2.1 u.2.2.1 ∧ (F 9).toInt ≤ u.2.1.toInt ∧ NDk u.2.2.2.2.1 (F 12) (F 9) u.2.1 ∧ WGk u.2.2.2.2.1 u.2.2.2.2.2.2)) (fun u : Int32 × Int32 × Int32 × Int32 × Int32 × Int32 × (Nat → Int32) => (mS cs h q (upd (upd (upd (upd (upd (upd F 8 u.1) 9 u.2.1) 10 u.2.2.1) 11 u.2.2.2.1) 12 u.2.2.2.2.1) 13 u.2.2.2.2.2.1) (vA A 14 u.2.2.2.2.2.2) D B))) (va_A (mS cs h q F A D B) sz)) 0 0 (va_A (mS cs h q F A D B) sz) := by
  refine mkDS (Qc := (QDw G (fun u : Int32 × Int32 × Int32 × Int32 × Int32 × Int32 × (Nat → Int32) => ((0 : Int) ≤ u.1.toInt ∧ u.1.toInt ≤ 900) ∧ ((0 : Int) ≤ u.2.1.toInt ∧ u.2.1.toInt ≤ 900) ∧ ((0 : Int) ≤ u.2.2.1.toInt ∧ u.2.2.1.toInt ≤ 4) ∧ ((0 : Int) ≤ u.2.2.2.1.toInt ∧ u.2.2.2.1.toInt ≤ 99999) ∧ ((0 : Int) ≤ u.2.2.2.2.1.toInt ∧ u.2.2.2.2.1.toInt ≤ 3) ∧ ((-1 : Int) ≤ u.2.2.2.2.2.1.toInt ∧ u.2.2.2.2.2.1.toInt ≤ 900) ∧ AI 14 u.2.2.2.2.2.2 ∧ (PIk u.1 u.2.1 u.2.2.1 ∧ (F 9).toInt ≤ u.2.1.toInt ∧ NDk u.2.2.2.2.1 (F 12) (F 9) u.2.1 ∧ WGk u.2.2.2.2.1 u.2.2.2.2.2.2)) (fun u : Int32 × Int32 × Int32 × Int32 × Int32 × Int32 × (Nat → Int32) => (mS cs h q (upd (upd (upd (upd (upd (upd F 8 u.1) 9 u.2.1) 10 u.2.2.1) 11 u.2.2.2.1) 12 u.2.2.2.2.1) 13 u.2.2.2.2.2.1) (vA A 14 u.2.2.2.2.2.2) D B)))) (by decide) (by simp [lg_sl, Value.category]) ?_
  intro p e s m args below meth c ls A0 hx hb hml hr hlk hown hmn ht hK hP hD hS hA hQ hl
  have hl : lv_has ls 1 [(0, .ref h)] := hl
  refine lv_aload_n hx hb dX11_readLine_0 rfl (lv_at hl 0 rfl) ?_
  refine getF (v := .ref (q 14)) hx hb ht hown hK hP iTX11 0 14 rfl rfl (by decide) fl_RX11_31 rfl dX11_readLine_1 ?_
  refine lv_bipush (v := 6) hx hb dX11_readLine_4 (by decide) ?_
  refine va_iald hx hb hK.1 hP 6 0 rfl rfl (show ¬ (_ ∨ _) by decide) dX11_readLine_6 ?_
  refine W.eq (g2 := F0 m 7 ls [.int (A 14 6)]) rfl ?_
  have B85 : ∀ (f8_85 : Int32) (f9_85 : Int32) (f10_85 : Int32) (f11_85 : Int32) (f12_85 : Int32) (f13_85 : Int32) (a14_85 : (Nat → Int32)) (H : Heap) (locs : List Loc) (ls : Array Slot), (0 : Int) ≤ f8_85.toInt ∧ f8_85.toInt ≤ 900 → (0 : Int) ≤ f9_85.toInt ∧ f9_85.toInt ≤ 900 → (0 : Int) ≤ f10_85.toInt ∧ f10_85.toInt ≤ 4 → (0 : Int) ≤ f11_85.toInt ∧ f11_85.toInt ≤ 99999 → (0 : Int) ≤ f12_85.toInt ∧ f12_85.toInt ≤ 3 → (-1 : Int) ≤ f13_85.toInt ∧ f13_85.toInt ≤ 900 → AI 14 a14_85 → (PIk f8_85 f9_85 f10_85) → ((F 9).toInt ≤ f9_85.toInt) → (MOk f12_85 (F 12)) → (WGk f12_85 a14_85) → va_P G vwCl (mS cs h q (upd (upd (upd (upd (upd (upd F 8 f8_85) 9 f9_85) 10 f10_85) 11 f11_85) 12 f12_85) 13 f13_85) (vA A 14 a14_85) D B) H → va_D A0 (mS cs h q (upd (upd (upd (upd (upd (upd F 8 f8_85) 9 f9_85) 10 f10_85) 11 f11_85) 12 f12_85) 13 f13_85) (vA A 14 a14_85) D B) → va_S A0 s.heap H locs → lv_has ls 1 [(0, .ref h)] → W p l e (rmk 10 0 0) s m args below meth c H locs 0 0 (MQ below ((QDw G (fun u : Int32 × Int32 × Int32 × Int32 × Int32 × Int32 × (Nat → Int32) => ((0 : Int) ≤ u.1.toInt ∧ u.1.toInt ≤ 900) ∧ ((0 : Int) ≤ u.2.1.toInt ∧ u.2.1.toInt ≤ 900) ∧ ((0 : Int) ≤ u.2.2.1.toInt ∧ u.2.2.1.toInt ≤ 4) ∧ ((0 : Int) ≤ u.2.2.2.1.toInt ∧ u.2.2.2.1.toInt ≤ 99999) ∧ ((0 : Int) ≤ u.2.2.2.2.1.toInt ∧ u.2.2.2.2.1.toInt ≤ 3) ∧ ((-1 : Int) ≤ u.2.2.2.2.2.1.toInt ∧ u.2.2.2.2.2.1.toInt ≤ 900) ∧ AI 14 u.2.2.2.2.2.2 ∧ (PIk u.1 u.2.1 u.2.2.1 ∧ (F 9).toInt ≤ u.2.1.toInt ∧ NDk u.2.2.2.2.1 (F 12) (F 9) u.2.1 ∧ WGk u.2.2.2.2.1 u.2.2.2.2.2.2)) (fun u : Int32 × Int32 × Int32 × Int32 × Int32 × Int32 × (Nat → Int32) => (mS cs h q (upd (upd (upd (upd (upd (upd F 8 u.1) 9 u.2.1) 10 u.2.2.1) 11 u.2.2.2.1) 12 u.2.2.2.2.1) 13 u.2.2.2.2.2.1) (vA A 14 u.2.2.2.2.2.2) D B))) A0) args s 0 0 A0) (F0 m 85 ls []) := by
    intro f8_85 f9_85 f10_85 f11_85 f12_85 f13_85 a14_85 H locs ls hf8_85 hf9_85 hf10_85 hf11_85 hf12_85 hf13_85 ha14_85 hpi85 h85 hm85 hwk hP hD hS hl
    have hp85 : (f10_85.toInt = 0 ∨ f9_85.toInt < f8_85.toInt) ∧ f9_85.toInt ≤ f8_85.toInt := hpi85
    refine lv_aload_n hx hb dX11_readLine_85 rfl (lv_at hl 0 rfl) ?_
    refine behR (runVP (As := []) (rest := []) ⟨hx, hb, hml, hown, ht⟩ (sX11_good l G cs h q (upd (upd (upd (upd (upd (upd F 8 f8_85) 9 f9_85) 10 f10_85) 11 f11_85) 12 f12_85) 13 f13_85) (vA A 14 a14_85) D B (IM_arr (k := 14) (IM_put (k := 13) (IM_put (k := 12) (IM_put (k := 11) (IM_put (k := 10) (IM_put (k := 9) (IM_put (k := 8) hI (show (0 : Int) ≤ f8_85.toInt ∧ f8_85.toInt ≤ 900 by omega)) (show (0 : Int) ≤ f9_85.toInt ∧ f9_85.toInt ≤ 900 by omega)) (show (0 : Int) ≤ f10_85.toInt ∧ f10_85.toInt ≤ 4 by omega)) (show (0 : Int) ≤ f11_85.toInt ∧ f11_85.toInt ≤ 99999 by omega)) (show (0 : Int) ≤ f12_85.toInt ∧ f12_85.toInt ≤ 3 by omega)) (show (-1 : Int) ≤ f13_85.toInt ∧ f13_85.toInt ≤ 900 by omega)) ha14_85)  ) okV_RX11_133 ⟨by decide, by decide⟩ hK hP [0, 1, 2, 3, 4, 5, 6, 7, 8, 9, 10, 11, 12, 13, 14, 15, 16, 17, 18, 19] rfl 0 rfl rfl hl.1 rfl (Nat.le_of_ble_eq_true rfl) dX11_readLine_86 ⟨by decide, by decide⟩) hP hS hA (fun r48001 H locs hr48001 hP hS => ?_)
    have hr48001 : (r48001.toInt = 1 ∧ f12_85.toInt = 0) ∨ (r48001.toInt = 0 ∧ ¬ f12_85.toInt = 0) := hr48001
    have B105 : ∀ (f12_105 : Int32) (f13_105 : Int32) (H : Heap) (locs : List Loc) (ls : Array Slot), (0 : Int) ≤ f12_105.toInt ∧ f12_105.toInt ≤ 3 → (-1 : Int) ≤ f13_105.toInt ∧ f13_105.toInt ≤ 900 → (f12_105.toInt = 0 → (f12_85.toInt = 0 ∧ f10_85.toInt = 3)) → va_P G vwCl (mS cs h q (upd (upd (upd (upd (upd (upd F 8 f8_85) 9 f9_85) 10 f10_85) 11 f11_85) 12 f12_105) 13 f13_105) (vA A 14 a14_85) D B) H → va_D A0 (mS cs h q (upd (upd (upd (upd (upd (upd F 8 f8_85) 9 f9_85) 10 f10_85) 11 f11_85) 12 f12_105) 13 f13_105) (vA A 14 a14_85) D B) → va_S A0 s.heap H locs → lv_has ls 1 [(0, .ref h)] → W p l e (rmk 10 0 0) s m args below meth c H locs 0 0 (MQ below ((QDw G (fun u : Int32 × Int32 × Int32 × Int32 × Int32 × Int32 × (Nat → Int32) => ((0 : Int) ≤ u.1.toInt ∧ u.1.toInt ≤ 900) ∧ ((0 : Int) ≤ u.2.1.toInt ∧ u.2.1.toInt ≤ 900) ∧ ((0 : Int) ≤ u.2.2.1.toInt ∧ u.2.2.1.toInt ≤ 4) ∧ ((0 : Int) ≤ u.2.2.2.1.toInt ∧ u.2.2.2.1.toInt ≤ 99999) ∧ ((0 : Int) ≤ u.2.2.2.2.1.toInt ∧ u.2.2.2.2.1.toInt ≤ 3) ∧ ((-1 : Int) ≤ u.2.2.2.2.2.1.toInt ∧ u.2.2.2.2.2.1.toInt ≤ 900) ∧ AI 14 u.2.2.2.2.2.2 ∧ (PIk u.1 u.2.1 u.2.2.1 ∧ (F 9).toInt ≤ u.2.1.toInt ∧ NDk u.2.2.2.2.1 (F 12) (F 9) u.2.1 ∧ WGk u.2.2.2.2.1 u.2.2.2.2.2.2)) (fun u : Int32 × Int32 × Int32 × Int32 × Int32 × Int32 × (Nat → Int32) => (mS cs h q (upd (upd (upd (upd (upd (upd F 8 u.1) 9 u.2.1) 10 u.2.2.1) 11 u.2.2.2.1) 12 u.2.2.2.2.1) 13 u.2.2.2.2.2.1) (vA A 14 u.2.2.2.2.2.2) D B))) A0) args s 0 0 A0) (F0 m 105 ls []) := by
      intro f12_105 f13_105 H locs ls hf12_105 hf13_105 h105 hP hD hS hl
      refine lv_aload_n hx hb dX11_readLine_105 rfl (lv_at hl 0 rfl) ?_
      refine behR (runVP (As := []) (rest := []) ⟨hx, hb, hml, hown, ht⟩ (sX11_good l G cs h q (upd (upd (upd (upd (upd (upd F 8 f8_85) 9 f9_85) 10 f10_85) 11 f11_85) 12 f12_105) 13 f13_105) (vA A 14 a14_85) D B (IM_arr (k := 14) (IM_put (k := 13) (IM_put (k := 12) (IM_put (k := 11) (IM_put (k := 10) (IM_put (k := 9) (IM_put (k := 8) hI (show (0 : Int) ≤ f8_85.toInt ∧ f8_85.toInt ≤ 900 by omega)) (show (0 : Int) ≤ f9_85.toInt ∧ f9_85.toInt ≤ 900 by omega)) (show (0 : Int) ≤ f10_85.toInt ∧ f10_85.toInt ≤ 4 by omega)) (show (0 : Int) ≤ f11_85.toInt ∧ f11_85.toInt ≤ 99999 by omega)) (show (0 : Int) ≤ f12_105.toInt ∧ f12_105.toInt ≤ 3 by omega)) (show (-1 : Int) ≤ f13_105.toInt ∧ f13_105.toInt ≤ 900 by omega)) ha14_85)  ) okV_RX11_133 ⟨by decide, by decide⟩ hK hP [0, 1, 2, 3, 4, 5, 6, 7, 8, 9, 10, 11, 12, 13, 14, 15, 16, 17, 18, 19] rfl 0 rfl rfl hl.1 rfl (Nat.le_of_ble_eq_true rfl) dX11_readLine_106 ⟨by decide, by decide⟩) hP hS hA (fun r58001 H locs hr58001 hP hS => ?_)
      have hr58001 : (r58001.toInt = 1 ∧ f12_105.toInt = 0) ∨ (r58001.toInt = 0 ∧ ¬ f12_105.toInt = 0) := hr58001
      have B116 : ∀ (f8_116 : Int32) (f9_116 : Int32) (f10_116 : Int32) (f11_116 : Int32) (H : Heap) (locs : List Loc) (ls : Array Slot), (0 : Int) ≤ f8_116.toInt ∧ f8_116.toInt ≤ 900 → (0 : Int) ≤ f9_116.toInt ∧ f9_116.toInt ≤ 900 → (0 : Int) ≤ f10_116.toInt ∧ f10_116.toInt ≤ 4 → (0 : Int) ≤ f11_116.toInt ∧ f11_116.toInt ≤ 99999 → (PIk f8_116 f9_116 f10_116) → (f9_85.toInt ≤ f9_116.toInt) → (f12_105.toInt = 0 → f9_85.toInt < f9_116.toInt) → va_P G vwCl (mS cs h q (upd (upd (upd (upd (upd (upd F 8 f8_116) 9 f9_116) 10 f10_116) 11 f11_116) 12 f12_105) 13 f13_105) (vA A 14 a14_85) D B) H → va_D A0 (mS cs h q (upd (upd (upd (upd (upd (upd F 8 f8_116) 9 f9_116) 10 f10_116) 11 f11_116) 12 f12_105) 13 f13_105) (vA A 14 a14_85) D B) → va_S A0 s.heap H locs → lv_has ls 1 [(0, .ref h)] → W p l e (rmk 10 0 0) s m args below meth c H locs 0 0 (MQ below ((QDw G (fun u : Int32 × Int32 × Int32 × Int32 × Int32 × Int32 × (Nat → Int32) => ((0 : Int) ≤ u.1.toInt ∧ u.1.toInt ≤ 900) ∧ ((0 : Int) ≤ u.2.1.toInt ∧ u.2.1.toInt ≤ 900) ∧ ((0 : Int) ≤ u.2.2.1.toInt ∧ u.2.2.1.toInt ≤ 4) ∧ ((0 : Int) ≤ u.2.2.2.1.toInt ∧ u.2.2.2.1.toInt ≤ 99999) ∧ ((0 : Int) ≤ u.2.2.2.2.1.toInt ∧ u.2.2.2.2.1.toInt ≤ 3) ∧ ((-1 : Int) ≤ u.2.2.2.2.2.1.toInt ∧ u.2.2.2.2.2.1.toInt ≤ 900) ∧ AI 14 u.2.2.2.2.2.2 ∧ (PIk u.1 u.2.1 u.2.2.1 ∧ (F 9).toInt ≤ u.2.1.toInt ∧ NDk u.2.2.2.2.1 (F 12) (F 9) u.2.1 ∧ WGk u.2.2.2.2.1 u.2.2.2.2.2.2)) (fun u : Int32 × Int32 × Int32 × Int32 × Int32 × Int32 × (Nat → Int32) => (mS cs h q (upd (upd (upd (upd (upd (upd F 8 u.1) 9 u.2.1) 10 u.2.2.1) 11 u.2.2.2.1) 12 u.2.2.2.2.1) 13 u.2.2.2.2.2.1) (vA A 14 u.2.2.2.2.2.2) D B))) A0) args s 0 0 A0) (F0 m 116 ls []) := by
        intro f8_116 f9_116 f10_116 f11_116 H locs ls hf8_116 hf9_116 hf10_116 hf11_116 hpi116 hf116 h116 hP hD hS hl
        refine lv_aload_n hx hb dX11_readLine_116 rfl (lv_at hl 0 rfl) ?_
        refine getF (v := .ref (q 14)) hx hb ht hown hK hP iTX11 0 14 rfl rfl (by decide) fl_RX11_31 rfl dX11_readLine_117 ?_
        refine lv_bipush (v := 6) hx hb dX11_readLine_120 (by decide) ?_
        refine lv_dup2_11 hx hb dX11_readLine_122 rfl rfl ?_
        refine va_iald hx hb hK.1 hP 6 0 rfl rfl (show ¬ (_ ∨ _) by decide) dX11_readLine_123 ?_
        refine W.eq (g2 := F0 m 124 ls [.int (a14_85 6), .int 6, .ref (q 14)]) rfl ?_
        refine lv_iconst (v := 1) hx hb dX11_readLine_124 (by decide) ?_
        refine lv_iadd hx hb dX11_readLine_125 ?_
        refine lv_topi (fun v63001 ev63001 => ?_)
        refine va_iast hx hb hK.1 hP hD hS 6 0 rfl rfl (show ¬ (_ ∨ _) by decide) dX11_readLine_126 (fun H locs hP hD hS => ?_)
        have hP : va_P G vwCl (mS cs h q (upd (upd (upd (upd (upd (upd F 8 f8_116) 9 f9_116) 10 f10_116) 11 f11_116) 12 f12_105) 13 f13_105) (vA A 14 (upd a14_85 (6 : Int32).toNatClampNeg v63001)) D B) H := hP
        have hD : va_D A0 (mS cs h q (upd (upd (upd (upd (upd (upd F 8 f8_116) 9 f9_116) 10 f10_116) 11 f11_116) 12 f12_105) 13 f13_105) (vA A 14 (upd a14_85 (6 : Int32).toNatClampNeg v63001)) D B) := hD
        obtain ⟨g63002, eg63002⟩ : ∃ z : Nat → Int32, z = upd a14_85 (6 : Int32).toNatClampNeg v63001 := ⟨_, rfl⟩
        rw [← eg63002] at hP hD
        have hg63002 : AI 14 g63002 := by rw [eg63002]; exact AI_upd (fun j => ha14_85 j) (i32b _)
        exact retDw (f8_116, f9_116, f10_116, f11_116, f12_105, f13_105, g63002) hx hb hr hlk hP hD hS dX11_readLine_127 (⟨show (0 : Int) ≤ f8_116.toInt ∧ f8_116.toInt ≤ 900 by omega, show (0 : Int) ≤ f9_116.toInt ∧ f9_116.toInt ≤ 900 by omega, show (0 : Int) ≤ f10_116.toInt ∧ f10_116.toInt ≤ 4 by omega, show (0 : Int) ≤ f11_116.toInt ∧ f11_116.toInt ≤ 99999 by omega, show (0 : Int) ≤ f12_105.toInt ∧ f12_105.toInt ≤ 3 by omega, show (-1 : Int) ≤ f13_105.toInt ∧ f13_105.toInt ≤ 900 by omega, hg63002, ⟨hpi116, (show (F 9).toInt ≤ f9_116.toInt by omega), fun q9 => ⟨(hm85 (h105 q9).1), (show (F 9).toInt < f9_116.toInt by have q8 := h116 q9; omega)⟩, (fun q9 => (WGe ((fun q8 => hwk (h105 q8).1) q9) eg63002 (ha14_85 5).2 (by decide)))⟩⟩) (Nat.le_of_ble_eq_true rfl) (Nat.le_of_ble_eq_true rfl)
      refine lv_if_eq (tgt := 116) hx hb dX11_readLine_109 (by decide) (fun c58002 => ?_) (fun c58002 => ?_)
      · have zc58002 := eqK rfl (show (0 : Int32).toInt = 0 by decide) c58002
        exact B116 f8_85 f9_85 f10_85 f11_85 H locs ls (by omega) (by omega) (by omega) (by omega) hpi85 (by have k0 : (0 : Int32).toInt = 0 := (by decide); have k1 : (1 : Int32).toInt = 1 := (by decide); omega) (fun q9 => absurd q9 (by omega)) hP hD hS (lv_sub hl [0] rfl)
      · have zc58002 := neK rfl (show (0 : Int32).toInt = 0 by decide) c58002
        refine lv_aload_n hx hb dX11_readLine_112 rfl (lv_at hl 0 rfl) ?_
        refine behDw (wr := []) (runVD (As := []) (rest := []) ⟨hx, hb, hml, hown, ht⟩ (sX11_advance l G cs h q (upd (upd (upd (upd (upd (upd F 8 f8_85) 9 f9_85) 10 f10_85) 11 f11_85) 12 f12_105) 13 f13_105) (vA A 14 a14_85) D B (IM_arr (k := 14) (IM_put (k := 13) (IM_put (k := 12) (IM_put (k := 11) (IM_put (k := 10) (IM_put (k := 9) (IM_put (k := 8) hI (show (0 : Int) ≤ f8_85.toInt ∧ f8_85.toInt ≤ 900 by omega)) (show (0 : Int) ≤ f9_85.toInt ∧ f9_85.toInt ≤ 900 by omega)) (show (0 : Int) ≤ f10_85.toInt ∧ f10_85.toInt ≤ 4 by omega)) (show (0 : Int) ≤ f11_85.toInt ∧ f11_85.toInt ≤ 99999 by omega)) (show (0 : Int) ≤ f12_105.toInt ∧ f12_105.toInt ≤ 3 by omega)) (show (-1 : Int) ≤ f13_105.toInt ∧ f13_105.toInt ≤ 900 by omega)) ha14_85)  ) okV_RX11_150 ⟨by decide, by decide⟩ hK hP hD [0, 1, 2, 3, 4, 5, 6, 7, 8, 9, 10, 11, 12, 13, 14, 15, 16, 17, 18, 19] rfl (by decide) rfl 0 rfl rfl hl.1 rfl (Nat.le_of_ble_eq_true rfl) dX11_readLine_113 ⟨(Nat.le_of_ble_eq_true rfl), (Nat.le_of_ble_eq_true rfl)⟩) hP hD hS hA [0, 1, 2, 3, 4, 5, 6, 7, 8, 9, 10, 11, 12, 13, 14, 15, 16, 17, 18, 19] [] rfl rfl (by decide) (by decide) (fun u H locs hu hP hD hS => ?_)
        obtain ⟨x58003, x58004, x58005, x58006⟩ := u
        obtain ⟨hbx58003, hbx58004, hbx58005, hbx58006, hr58007⟩ := hu
        have hbx58003 : (0 : Int) ≤ x58003.toInt ∧ x58003.toInt ≤ 900 := hbx58003
        have hbx58004 : (0 : Int) ≤ x58004.toInt ∧ x58004.toInt ≤ 900 := hbx58004
        have hbx58005 : (0 : Int) ≤ x58005.toInt ∧ x58005.toInt ≤ 4 := hbx58005
        have hbx58006 : (0 : Int) ≤ x58006.toInt ∧ x58006.toInt ≤ 99999 := hbx58006
        have hr58007 : f8_85.toInt ≤ x58004.toInt ∧ PIk x58003 x58004 x58005 := hr58007
        have hP : va_P G vwCl (mS cs h q (upd (upd (upd (upd (upd (upd F 8 x58003) 9 x58004) 10 x58005) 11 x58006) 12 f12_105) 13 f13_105) (vA A 14 a14_85) D B) H := hP
        have hD : va_D A0 (mS cs h q (upd (upd (upd (upd (upd (upd F 8 x58003) 9 x58004) 10 x58005) 11 x58006) 12 f12_105) 13 f13_105) (vA A 14 a14_85) D B) := hD
        exact B116 x58003 x58004 x58005 x58006 H locs ls (by omega) (by omega) (by omega) (by omega) hr58007.2 (by have k0 : (0 : Int32).toInt = 0 := (by decide); have k1 : (1 : Int32).toInt = 1 := (by decide); omega) (fun q9 => by have q8 := h105 q9; omega) hP hD hS (lv_sub hl [0] rfl)
    refine lv_if_eq (tgt := 105) hx hb dX11_readLine_89 (by decide) (fun c48002 => ?_) (fun c48002 => ?_)
    · have zc48002 := eqK rfl (show (0 : Int32).toInt = 0 by decide) c48002
      exact B105 f12_85 f13_85 H locs ls (by omega) (by omega) (fun q9 => ⟨q9, by omega⟩) hP hD hS (lv_sub hl [0] rfl)
    · have zc48002 := neK rfl (show (0 : Int32).toInt = 0 by decide) c48002
      refine lv_aload_n hx hb dX11_readLine_92 rfl (lv_at hl 0 rfl) ?_
      refine getF (v := .int f10_85) hx hb ht hown hK hP iTX11 0 10 rfl rfl (by decide) fl_RX11_109 rfl dX11_readLine_93 ?_
      refine lv_iconst (v := 3) hx hb dX11_readLine_96 (by decide) ?_
      refine lv_icmp_eq (tgt := 105) hx hb dX11_readLine_97 (by decide) (fun c48003 => ?_) (fun c48003 => ?_)
      · have zc48003 := eqK rfl (show (3 : Int32).toInt = 3 by decide) c48003
        exact B105 f12_85 f13_85 H locs ls (by omega) (by omega) (fun q9 => ⟨q9, by omega⟩) hP hD hS (lv_sub hl [0] rfl)
      · have zc48003 := neK rfl (show (3 : Int32).toInt = 3 by decide) c48003
        refine lv_aload_n hx hb dX11_readLine_100 rfl (lv_at hl 0 rfl) ?_
        refine lv_iconst (v := 1) hx hb dX11_readLine_101 (by decide) ?_
        refine behDw (wr := []) (runVD (As := [.int 1]) (rest := []) ⟨hx, hb, hml, hown, ht⟩ (sX11_errs l G cs h q (upd (upd (upd (upd (upd (upd F 8 f8_85) 9 f9_85) 10 f10_85) 11 f11_85) 12 f12_85) 13 f13_85) (vA A 14 a14_85) D B (IM_arr (k := 14) (IM_put (k := 13) (IM_put (k := 12) (IM_put (k := 11) (IM_put (k := 10) (IM_put (k := 9) (IM_put (k := 8) hI (show (0 : Int) ≤ f8_85.toInt ∧ f8_85.toInt ≤ 900 by omega)) (show (0 : Int) ≤ f9_85.toInt ∧ f9_85.toInt ≤ 900 by omega)) (show (0 : Int) ≤ f10_85.toInt ∧ f10_85.toInt ≤ 4 by omega)) (show (0 : Int) ≤ f11_85.toInt ∧ f11_85.toInt ≤ 99999 by omega)) (show (0 : Int) ≤ f12_85.toInt ∧ f12_85.toInt ≤ 3 by omega)) (show (-1 : Int) ≤ f13_85.toInt ∧ f13_85.toInt ≤ 900 by omega)) ha14_85) 1 (by decide)) okV_RX11_156 ⟨by decide, by decide⟩ hK hP hD [0, 1, 2, 3, 4, 5, 6, 7, 8, 9, 10, 11, 12, 13, 14, 15, 16, 17, 18, 19] rfl (by decide) rfl 0 rfl rfl hl.1 rfl (Nat.le_of_ble_eq_true rfl) dX11_readLine_102 ⟨(Nat.le_of_ble_eq_true rfl), (Nat.le_of_ble_eq_true rfl)⟩) hP hD hS hA [0, 1, 2, 3, 4, 5, 6, 7, 8, 9, 10, 11, 12, 13, 14, 15, 16, 17, 18, 19] [] rfl rfl (by decide) (by decide) (fun u H locs hu hP hD hS => ?_)
        obtain ⟨x48004, x48005⟩ := u
        have kk48007 : (1 : Int32).toInt = 1 := by decide
        obtain ⟨hbx48004, hbx48005, hr48006⟩ := hu
        have hbx48004 : (0 : Int) ≤ x48004.toInt ∧ x48004.toInt ≤ 3 := hbx48004
        have hbx48005 : (-1 : Int) ≤ x48005.toInt ∧ x48005.toInt ≤ 900 := hbx48005
        have hr48006 : ¬ x48004.toInt = 0 := hr48006
        have hP : va_P G vwCl (mS cs h q (upd (upd (upd (upd (upd (upd F 8 f8_85) 9 f9_85) 10 f10_85) 11 f11_85) 12 x48004) 13 x48005) (vA A 14 a14_85) D B) H := hP
        have hD : va_D A0 (mS cs h q (upd (upd (upd (upd (upd (upd F 8 f8_85) 9 f9_85) 10 f10_85) 11 f11_85) 12 x48004) 13 x48005) (vA A 14 a14_85) D B) := hD
        exact B105 x48004 x48005 H locs ls (by omega) (by omega) (fun q9 => absurd q9 (by omega)) hP hD hS (lv_sub hl [0] rfl)
  refine lv_if_ne (tgt := 81) hx hb dX11_readLine_7 (by decide) (fun c1 => ?_) (fun c1 => ?_)
  · have zc1 := neK rfl (show (0 : Int32).toInt = 0 by decide) c1
    refine lv_aload_n hx hb dX11_readLine_81 rfl (lv_at hl 0 rfl) ?_
    refine behDw (wr := []) (runVDS (As := []) (rest := []) ⟨hx, hb, hml, hown, ht⟩ (sX11_readNext l G cs sd h q F A D B hI   (show PIk (F 8) (F 9) (F 10) from hPI) (show WGk (F 12) (A 14) from (fun q9 => (hWG q9)))) okV_RX11_219 ⟨by decide, by decide⟩ hK hP hD hQ hS hA [0, 1, 2, 3, 4, 5, 6, 7, 8, 9, 10, 11, 12, 13, 14, 15, 16, 17, 18, 19] rfl (by decide) rfl 0 rfl rfl hl.1 rfl (Nat.le_of_ble_eq_true rfl) dX11_readLine_82 ⟨(Nat.le_of_ble_eq_true rfl), (Nat.le_of_ble_eq_true rfl)⟩) hP hD hS hA [0, 1, 2, 3, 4, 5, 6, 7, 8, 9, 10, 11, 12, 13, 14, 15, 16, 17, 18, 19] [] rfl rfl (by decide) (by decide) (fun u H locs hu hP hD hS => ?_)
    obtain ⟨x2, x3, x4, x5, x6, x7, g8⟩ := u
    obtain ⟨hbx2, hbx3, hbx4, hbx5, hbx6, hbx7, hg8, hr9⟩ := hu
    have hbx2 : (0 : Int) ≤ x2.toInt ∧ x2.toInt ≤ 900 := hbx2
    have hbx3 : (0 : Int) ≤ x3.toInt ∧ x3.toInt ≤ 900 := hbx3
    have hbx4 : (0 : Int) ≤ x4.toInt ∧ x4.toInt ≤ 4 := hbx4
    have hbx5 : (0 : Int) ≤ x5.toInt ∧ x5.toInt ≤ 99999 := hbx5
    have hbx6 : (0 : Int) ≤ x6.toInt ∧ x6.toInt ≤ 3 := hbx6
    have hbx7 : (-1 : Int) ≤ x7.toInt ∧ x7.toInt ≤ 900 := hbx7
    have hr9 : PIk x2 x3 x4 ∧ (F 9).toInt ≤ x3.toInt ∧ MOk x6 (F 12) ∧ WGk x6 g8 := hr9
    have hP : va_P G vwCl (mS cs h q (upd (upd (upd (upd (upd (upd F 8 x2) 9 x3) 10 x4) 11 x5) 12 x6) 13 x7) (vA A 14 g8) D B) H := hP
    have hD : va_D A0 (mS cs h q (upd (upd (upd (upd (upd (upd F 8 x2) 9 x3) 10 x4) 11 x5) 12 x6) 13 x7) (vA A 14 g8) D B) := hD
    exact B85 x2 x3 x4 x5 x6 x7 g8 H locs ls (by omega) (by omega) (by omega) (by omega) (by omega) (by omega) hg8 hr9.1 (by have k0 : (0 : Int32).toInt = 0 := (by decide); have k1 : (1 : Int32).toInt = 1 := (by decide); omega) (fun q9 => (hr9.2.2.1 q9)) (fun q9 => (hr9.2.2.2 q9)) hP hD hS (lv_sub hl [0] rfl)
  · have zc1 := eqK rfl (show (0 : Int32).toInt = 0 by decide) c1
    refine lv_aload_n hx hb dX11_readLine_10 rfl (lv_at hl 0 rfl) ?_
    refine va_ldcS hx hb hown (hQ.2.2.2 _ (List.mem_of_getElem? (i := 0) rfl)) dX11_readLine_11 ?_
    refine behDw (wr := []) (runVDS (As := [.ref ((sd 0).1)]) (rest := []) ⟨hx, hb, hml, hown, ht⟩ (sX11_needs l G cs sd h q F A D B hI 0 (by decide)  (show PIk (F 8) (F 9) (F 10) from hPI)) okV_RX11_160 ⟨by decide, by decide⟩ hK hP hD hQ hS hA [0, 1, 2, 3, 4, 5, 6, 7, 8, 9, 10, 11, 12, 13, 14, 15, 16, 17, 18, 19] rfl (by decide) rfl 0 rfl rfl hl.1 rfl (Nat.le_of_ble_eq_true rfl) dX11_readLine_13 ⟨(Nat.le_of_ble_eq_true rfl), (Nat.le_of_ble_eq_true rfl)⟩) hP hD hS hA [0, 1, 2, 3, 4, 5, 6, 7, 8, 9, 10, 11, 12, 13, 14, 15, 16, 17, 18, 19] [] rfl rfl (by decide) (by decide) (fun u H locs hu hP hD hS => ?_)
    obtain ⟨x10, x11, x12, x13, x14, x15⟩ := u
    obtain ⟨hbx10, hbx11, hbx12, hbx13, hbx14, hbx15, hr16⟩ := hu
    have hbx10 : (0 : Int) ≤ x10.toInt ∧ x10.toInt ≤ 900 := hbx10
    have hbx11 : (0 : Int) ≤ x11.toInt ∧ x11.toInt ≤ 900 := hbx11
    have hbx12 : (0 : Int) ≤ x12.toInt ∧ x12.toInt ≤ 4 := hbx12
    have hbx13 : (0 : Int) ≤ x13.toInt ∧ x13.toInt ≤ 99999 := hbx13
    have hbx14 : (0 : Int) ≤ x14.toInt ∧ x14.toInt ≤ 3 := hbx14
    have hbx15 : (-1 : Int) ≤ x15.toInt ∧ x15.toInt ≤ 900 := hbx15
    have hr16 : PIk x10 x11 x12 ∧ (F 9).toInt ≤ x11.toInt ∧ NDk x14 (F 12) (F 9) x11 := hr16
    have hP : va_P G vwCl (mS cs h q (upd (upd (upd (upd (upd (upd F 8 x10) 9 x11) 10 x12) 11 x13) 12 x14) 13 x15) A D B) H := hP
    have hD : va_D A0 (mS cs h q (upd (upd (upd (upd (upd (upd F 8 x10) 9 x11) 10 x12) 11 x13) 12 x14) 13 x15) A D B) := hD
    refine lv_aload_n hx hb dX11_readLine_16 rfl (lv_at hl 0 rfl) ?_
    refine getF (v := .ref (q 14)) hx hb ht hown hK hP iTX11 0 14 rfl rfl (by decide) fl_RX11_31 rfl dX11_readLine_17 ?_
    refine lv_iconst (v := 0) hx hb dX11_readLine_20 (by decide) ?_
    refine lv_aload_n hx hb dX11_readLine_21 rfl (lv_at hl 0 rfl) ?_
    refine va_ldcS hx hb hown (hQ.2.2.2 _ (List.mem_of_getElem? (i := 1) rfl)) dX11_readLine_22 ?_
    refine lv_iconst (v := 0) hx hb dX11_readLine_24 (by decide) ?_
    refine lv_bipush (v := 100) hx hb dX11_readLine_25 (by decide) ?_
    refine behDi (wr := []) (runVDS (As := [.ref ((sd 1).1), .int 0, .int 100]) (rest := [.int 0, .ref (q 14)]) ⟨hx, hb, hml, hown, ht⟩ (sX11_told l G cs sd h q (upd (upd (upd (upd (upd (upd F 8 x10) 9 x11) 10 x12) 11 x13) 12 x14) 13 x15) A D B (IM_put (k := 13) (IM_put (k := 12) (IM_put (k := 11) (IM_put (k := 10) (IM_put (k := 9) (IM_put (k := 8) hI (show (0 : Int) ≤ x10.toInt ∧ x10.toInt ≤ 900 by omega)) (show (0 : Int) ≤ x11.toInt ∧ x11.toInt ≤ 900 by omega)) (show (0 : Int) ≤ x12.toInt ∧ x12.toInt ≤ 4 by omega)) (show (0 : Int) ≤ x13.toInt ∧ x13.toInt ≤ 99999 by omega)) (show (0 : Int) ≤ x14.toInt ∧ x14.toInt ≤ 3 by omega)) (show (-1 : Int) ≤ x15.toInt ∧ x15.toInt ≤ 900 by omega)) 1 (by decide) 0 100  (show PIk x10 x11 x12 from hr16.1)) okV_RX11_169 ⟨by decide, by decide⟩ hK hP hD hQ hS hA [0, 1, 2, 3, 4, 5, 6, 7, 8, 9, 10, 11, 12, 13, 14, 15, 16, 17, 18, 19] rfl (by decide) rfl 0 rfl rfl hl.1 rfl (Nat.le_of_ble_eq_true rfl) dX11_readLine_27 ⟨(Nat.le_of_ble_eq_true rfl), (Nat.le_of_ble_eq_true rfl)⟩) hP hD hS hA [0, 1, 2, 3, 4, 5, 6, 7, 8, 9, 10, 11, 12, 13, 14, 15, 16, 17, 18, 19] [] rfl rfl (by decide) (by decide) (fun r9 u H locs hu hP hD hS => ?_)
    obtain ⟨x17, x18, x19, x20, x21, x22⟩ := u
    have kk24 : (0 : Int32).toInt = 0 := by decide
    have kk25 : (100 : Int32).toInt = 100 := by decide
    obtain ⟨r23, rfl⟩ : ∃ z, z = r9 := ⟨_, rfl⟩
    obtain ⟨hbx17, hbx18, hbx19, hbx20, hbx21, hbx22, hr23⟩ := hu
    have hbx17 : (0 : Int) ≤ x17.toInt ∧ x17.toInt ≤ 900 := hbx17
    have hbx18 : (0 : Int) ≤ x18.toInt ∧ x18.toInt ≤ 900 := hbx18
    have hbx19 : (0 : Int) ≤ x19.toInt ∧ x19.toInt ≤ 4 := hbx19
    have hbx20 : (0 : Int) ≤ x20.toInt ∧ x20.toInt ≤ 99999 := hbx20
    have hbx21 : (0 : Int) ≤ x21.toInt ∧ x21.toInt ≤ 3 := hbx21
    have hbx22 : (-1 : Int) ≤ x22.toInt ∧ x22.toInt ≤ 900 := hbx22
    have hr23 : PIk x17 x18 x19 ∧ (x11.toInt ≤ x18.toInt) ∧ NMk x21 x14 x11 x18 r23 ((0 : Int32).toInt) ((100 : Int32).toInt) ∧ RBk r23 ((0 : Int32).toInt) ((100 : Int32).toInt) := hr23
    have hP : va_P G vwCl (mS cs h q (upd (upd (upd (upd (upd (upd F 8 x17) 9 x18) 10 x19) 11 x20) 12 x21) 13 x22) A D B) H := hP
    have hD : va_D A0 (mS cs h q (upd (upd (upd (upd (upd (upd F 8 x17) 9 x18) 10 x19) 11 x20) 12 x21) 13 x22) A D B) := hD
    have hbr23 := RBb (A := 0) (B := 100) hr23.2.2.2 (by omega) (by omega)
    refine va_iast hx hb hK.1 hP hD hS 6 0 rfl rfl (show ¬ (_ ∨ _) by decide) dX11_readLine_30 (fun H locs hP hD hS => ?_)
    have hP : va_P G vwCl (mS cs h q (upd (upd (upd (upd (upd (upd F 8 x17) 9 x18) 10 x19) 11 x20) 12 x21) 13 x22) (vA A 14 (upd (A 14) (0 : Int32).toNatClampNeg r23)) D B) H := hP
    have hD : va_D A0 (mS cs h q (upd (upd (upd (upd (upd (upd F 8 x17) 9 x18) 10 x19) 11 x20) 12 x21) 13 x22) (vA A 14 (upd (A 14) (0 : Int32).toNatClampNeg r23)) D B) := hD
    obtain ⟨g26, eg26⟩ : ∃ z : Nat → Int32, z = upd (A 14) (0 : Int32).toNatClampNeg r23 := ⟨_, rfl⟩
    rw [← eg26] at hP hD
    have hg26 : AI 14 g26 := by rw [eg26]; exact AI_upd (fun j => hI.2 14 j) (i32b _)
    refine lv_aload_n hx hb dX11_readLine_31 rfl (lv_at hl 0 rfl) ?_
    refine getF (v := .ref (q 14)) hx hb ht hown hK hP iTX11 0 14 rfl rfl (by decide) fl_RX11_31 rfl dX11_readLine_32 ?_
    refine lv_iconst (v := 1) hx hb dX11_readLine_35 (by decide) ?_
    refine lv_aload_n hx hb dX11_readLine_36 rfl (lv_at hl 0 rfl) ?_
    refine va_ldcS hx hb hown (hQ.2.2.2 _ (List.mem_of_getElem? (i := 2) rfl)) dX11_readLine_37 ?_
    refine lv_iconst (v := 0) hx hb dX11_readLine_39 (by decide) ?_
    refine lv_bipush (v := 100) hx hb dX11_readLine_40 (by decide) ?_
    refine behDi (wr := []) (runVDS (As := [.ref ((sd 2).1), .int 0, .int 100]) (rest := [.int 1, .ref (q 14)]) ⟨hx, hb, hml, hown, ht⟩ (sX11_told l G cs sd h q (upd (upd (upd (upd (upd (upd F 8 x17) 9 x18) 10 x19) 11 x20) 12 x21) 13 x22) (vA A 14 g26) D B (IM_arr (k := 14) (IM_put (k := 13) (IM_put (k := 12) (IM_put (k := 11) (IM_put (k := 10) (IM_put (k := 9) (IM_put (k := 8) hI (show (0 : Int) ≤ x17.toInt ∧ x17.toInt ≤ 900 by omega)) (show (0 : Int) ≤ x18.toInt ∧ x18.toInt ≤ 900 by omega)) (show (0 : Int) ≤ x19.toInt ∧ x19.toInt ≤ 4 by omega)) (show (0 : Int) ≤ x20.toInt ∧ x20.toInt ≤ 99999 by omega)) (show (0 : Int) ≤ x21.toInt ∧ x21.toInt ≤ 3 by omega)) (show (-1 : Int) ≤ x22.toInt ∧ x22.toInt ≤ 900 by omega)) hg26) 2 (by decide) 0 100  (show PIk x17 x18 x19 from hr23.1)) okV_RX11_169 ⟨by decide, by decide⟩ hK hP hD hQ hS hA [0, 1, 2, 3, 4, 5, 6, 7, 8, 9, 10, 11, 12, 13, 14, 15, 16, 17, 18, 19] rfl (by decide) rfl 0 rfl rfl hl.1 rfl (Nat.le_of_ble_eq_true rfl) dX11_readLine_42 ⟨(Nat.le_of_ble_eq_true rfl), (Nat.le_of_ble_eq_true rfl)⟩) hP hD hS hA [0, 1, 2, 3, 4, 5, 6, 7, 8, 9, 10, 11, 12, 13, 14, 15, 16, 17, 18, 19] [] rfl rfl (by decide) (by decide) (fun r9 u H locs hu hP hD hS => ?_)
    obtain ⟨x27, x28, x29, x30, x31, x32⟩ := u
    have kk34 : (0 : Int32).toInt = 0 := by decide
    have kk35 : (100 : Int32).toInt = 100 := by decide
    obtain ⟨r33, rfl⟩ : ∃ z, z = r9 := ⟨_, rfl⟩
    obtain ⟨hbx27, hbx28, hbx29, hbx30, hbx31, hbx32, hr33⟩ := hu
    have hbx27 : (0 : Int) ≤ x27.toInt ∧ x27.toInt ≤ 900 := hbx27
    have hbx28 : (0 : Int) ≤ x28.toInt ∧ x28.toInt ≤ 900 := hbx28
    have hbx29 : (0 : Int) ≤ x29.toInt ∧ x29.toInt ≤ 4 := hbx29
    have hbx30 : (0 : Int) ≤ x30.toInt ∧ x30.toInt ≤ 99999 := hbx30
    have hbx31 : (0 : Int) ≤ x31.toInt ∧ x31.toInt ≤ 3 := hbx31
    have hbx32 : (-1 : Int) ≤ x32.toInt ∧ x32.toInt ≤ 900 := hbx32
    have hr33 : PIk x27 x28 x29 ∧ (x18.toInt ≤ x28.toInt) ∧ NMk x31 x21 x18 x28 r33 ((0 : Int32).toInt) ((100 : Int32).toInt) ∧ RBk r33 ((0 : Int32).toInt) ((100 : Int32).toInt) := hr33
    have hP : va_P G vwCl (mS cs h q (upd (upd (upd (upd (upd (upd F 8 x27) 9 x28) 10 x29) 11 x30) 12 x31) 13 x32) (vA A 14 g26) D B) H := hP
    have hD : va_D A0 (mS cs h q (upd (upd (upd (upd (upd (upd F 8 x27) 9 x28) 10 x29) 11 x30) 12 x31) 13 x32) (vA A 14 g26) D B) := hD
    have hbr33 := RBb (A := 0) (B := 100) hr33.2.2.2 (by omega) (by omega)
    refine va_iast hx hb hK.1 hP hD hS 6 0 rfl rfl (show ¬ (_ ∨ _) by decide) dX11_readLine_45 (fun H locs hP hD hS => ?_)
    have hP : va_P G vwCl (mS cs h q (upd (upd (upd (upd (upd (upd F 8 x27) 9 x28) 10 x29) 11 x30) 12 x31) 13 x32) (vA A 14 (upd g26 (1 : Int32).toNatClampNeg r33)) D B) H := hP
    have hD : va_D A0 (mS cs h q (upd (upd (upd (upd (upd (upd F 8 x27) 9 x28) 10 x29) 11 x30) 12 x31) 13 x32) (vA A 14 (upd g26 (1 : Int32).toNatClampNeg r33)) D B) := hD
    obtain ⟨g36, eg36⟩ : ∃ z : Nat → Int32, z = upd g26 (1 : Int32).toNatClampNeg r33 := ⟨_, rfl⟩
    rw [← eg36] at hP hD
    have hg36 : AI 14 g36 := by rw [eg36]; exact AI_upd (fun j => hg26 j) (i32b _)
    refine lv_aload_n hx hb dX11_readLine_46 rfl (lv_at hl 0 rfl) ?_
    refine getF (v := .ref (q 14)) hx hb ht hown hK hP iTX11 0 14 rfl rfl (by decide) fl_RX11_31 rfl dX11_readLine_47 ?_
    refine lv_iconst (v := 2) hx hb dX11_readLine_50 (by decide) ?_
    refine lv_aload_n hx hb dX11_readLine_51 rfl (lv_at hl 0 rfl) ?_
    refine va_ldcS hx hb hown (hQ.2.2.2 _ (List.mem_of_getElem? (i := 3) rfl)) dX11_readLine_52 ?_
    refine lv_iconst (v := 0) hx hb dX11_readLine_54 (by decide) ?_
    refine lv_sipush (v := 999) hx hb dX11_readLine_55 (by decide) ?_
    refine behDi (wr := []) (runVDS (As := [.ref ((sd 3).1), .int 0, .int 999]) (rest := [.int 2, .ref (q 14)]) ⟨hx, hb, hml, hown, ht⟩ (sX11_told l G cs sd h q (upd (upd (upd (upd (upd (upd F 8 x27) 9 x28) 10 x29) 11 x30) 12 x31) 13 x32) (vA A 14 g36) D B (IM_arr (k := 14) (IM_put (k := 13) (IM_put (k := 12) (IM_put (k := 11) (IM_put (k := 10) (IM_put (k := 9) (IM_put (k := 8) hI (show (0 : Int) ≤ x27.toInt ∧ x27.toInt ≤ 900 by omega)) (show (0 : Int) ≤ x28.toInt ∧ x28.toInt ≤ 900 by omega)) (show (0 : Int) ≤ x29.toInt ∧ x29.toInt ≤ 4 by omega)) (show (0 : Int) ≤ x30.toInt ∧ x30.toInt ≤ 99999 by omega)) (show (0 : Int) ≤ x31.toInt ∧ x31.toInt ≤ 3 by omega)) (show (-1 : Int) ≤ x32.toInt ∧ x32.toInt ≤ 900 by omega)) hg36) 3 (by decide) 0 999  (show PIk x27 x28 x29 from hr33.1)) okV_RX11_169 ⟨by decide, by decide⟩ hK hP hD hQ hS hA [0, 1, 2, 3, 4, 5, 6, 7, 8, 9, 10, 11, 12, 13, 14, 15, 16, 17, 18, 19] rfl (by decide) rfl 0 rfl rfl hl.1 rfl (Nat.le_of_ble_eq_true rfl) dX11_readLine_58 ⟨(Nat.le_of_ble_eq_true rfl), (Nat.le_of_ble_eq_true rfl)⟩) hP hD hS hA [0, 1, 2, 3, 4, 5, 6, 7, 8, 9, 10, 11, 12, 13, 14, 15, 16, 17, 18, 19] [] rfl rfl (by decide) (by decide) (fun r9 u H locs hu hP hD hS => ?_)
    obtain ⟨x37, x38, x39, x40, x41, x42⟩ := u
    have kk44 : (0 : Int32).toInt = 0 := by decide
    have kk45 : (999 : Int32).toInt = 999 := by decide
    obtain ⟨r43, rfl⟩ : ∃ z, z = r9 := ⟨_, rfl⟩
    obtain ⟨hbx37, hbx38, hbx39, hbx40, hbx41, hbx42, hr43⟩ := hu
    have hbx37 : (0 : Int) ≤ x37.toInt ∧ x37.toInt ≤ 900 := hbx37
    have hbx38 : (0 : Int) ≤ x38.toInt ∧ x38.toInt ≤ 900 := hbx38
    have hbx39 : (0 : Int) ≤ x39.toInt ∧ x39.toInt ≤ 4 := hbx39
    have hbx40 : (0 : Int) ≤ x40.toInt ∧ x40.toInt ≤ 99999 := hbx40
    have hbx41 : (0 : Int) ≤ x41.toInt ∧ x41.toInt ≤ 3 := hbx41
    have hbx42 : (-1 : Int) ≤ x42.toInt ∧ x42.toInt ≤ 900 := hbx42
    have hr43 : PIk x37 x38 x39 ∧ (x28.toInt ≤ x38.toInt) ∧ NMk x41 x31 x28 x38 r43 ((0 : Int32).toInt) ((999 : Int32).toInt) ∧ RBk r43 ((0 : Int32).toInt) ((999 : Int32).toInt) := hr43
    have hP : va_P G vwCl (mS cs h q (upd (upd (upd (upd (upd (upd F 8 x37) 9 x38) 10 x39) 11 x40) 12 x41) 13 x42) (vA A 14 g36) D B) H := hP
    have hD : va_D A0 (mS cs h q (upd (upd (upd (upd (upd (upd F 8 x37) 9 x38) 10 x39) 11 x40) 12 x41) 13 x42) (vA A 14 g36) D B) := hD
    have hbr43 := RBb (A := 0) (B := 999) hr43.2.2.2 (by omega) (by omega)
    refine va_iast hx hb hK.1 hP hD hS 6 0 rfl rfl (show ¬ (_ ∨ _) by decide) dX11_readLine_61 (fun H locs hP hD hS => ?_)
    have hP : va_P G vwCl (mS cs h q (upd (upd (upd (upd (upd (upd F 8 x37) 9 x38) 10 x39) 11 x40) 12 x41) 13 x42) (vA A 14 (upd g36 (2 : Int32).toNatClampNeg r43)) D B) H := hP
    have hD : va_D A0 (mS cs h q (upd (upd (upd (upd (upd (upd F 8 x37) 9 x38) 10 x39) 11 x40) 12 x41) 13 x42) (vA A 14 (upd g36 (2 : Int32).toNatClampNeg r43)) D B) := hD
    obtain ⟨g46, eg46⟩ : ∃ z : Nat → Int32, z = upd g36 (2 : Int32).toNatClampNeg r43 := ⟨_, rfl⟩
    rw [← eg46] at hP hD
    have hg46 : AI 14 g46 := by rw [eg46]; exact AI_upd (fun j => hg36 j) (i32b _)
    refine lv_aload_n hx hb dX11_readLine_62 rfl (lv_at hl 0 rfl) ?_
    refine getF (v := .ref (q 14)) hx hb ht hown hK hP iTX11 0 14 rfl rfl (by decide) fl_RX11_31 rfl dX11_readLine_63 ?_
    refine lv_iconst (v := 3) hx hb dX11_readLine_66 (by decide) ?_
    refine lv_aload_n hx hb dX11_readLine_67 rfl (lv_at hl 0 rfl) ?_
    refine va_ldcS hx hb hown (hQ.2.2.2 _ (List.mem_of_getElem? (i := 4) rfl)) dX11_readLine_68 ?_
    refine lv_iconst (v := 0) hx hb dX11_readLine_70 (by decide) ?_
    refine lv_sipush (v := 999) hx hb dX11_readLine_71 (by decide) ?_
    refine behDi (wr := []) (runVDS (As := [.ref ((sd 4).1), .int 0, .int 999]) (rest := [.int 3, .ref (q 14)]) ⟨hx, hb, hml, hown, ht⟩ (sX11_told l G cs sd h q (upd (upd (upd (upd (upd (upd F 8 x37) 9 x38) 10 x39) 11 x40) 12 x41) 13 x42) (vA A 14 g46) D B (IM_arr (k := 14) (IM_put (k := 13) (IM_put (k := 12) (IM_put (k := 11) (IM_put (k := 10) (IM_put (k := 9) (IM_put (k := 8) hI (show (0 : Int) ≤ x37.toInt ∧ x37.toInt ≤ 900 by omega)) (show (0 : Int) ≤ x38.toInt ∧ x38.toInt ≤ 900 by omega)) (show (0 : Int) ≤ x39.toInt ∧ x39.toInt ≤ 4 by omega)) (show (0 : Int) ≤ x40.toInt ∧ x40.toInt ≤ 99999 by omega)) (show (0 : Int) ≤ x41.toInt ∧ x41.toInt ≤ 3 by omega)) (show (-1 : Int) ≤ x42.toInt ∧ x42.toInt ≤ 900 by omega)) hg46) 4 (by decide) 0 999  (show PIk x37 x38 x39 from hr43.1)) okV_RX11_169 ⟨by decide, by decide⟩ hK hP hD hQ hS hA [0, 1, 2, 3, 4, 5, 6, 7, 8, 9, 10, 11, 12, 13, 14, 15, 16, 17, 18, 19] rfl (by decide) rfl 0 rfl rfl hl.1 rfl (Nat.le_of_ble_eq_true rfl) dX11_readLine_74 ⟨(Nat.le_of_ble_eq_true rfl), (Nat.le_of_ble_eq_true rfl)⟩) hP hD hS hA [0, 1, 2, 3, 4, 5, 6, 7, 8, 9, 10, 11, 12, 13, 14, 15, 16, 17, 18, 19] [] rfl rfl (by decide) (by decide) (fun r9 u H locs hu hP hD hS => ?_)
    obtain ⟨x47, x48, x49, x50, x51, x52⟩ := u
    have kk54 : (0 : Int32).toInt = 0 := by decide
    have kk55 : (999 : Int32).toInt = 999 := by decide
    obtain ⟨r53, rfl⟩ : ∃ z, z = r9 := ⟨_, rfl⟩
    obtain ⟨hbx47, hbx48, hbx49, hbx50, hbx51, hbx52, hr53⟩ := hu
    have hbx47 : (0 : Int) ≤ x47.toInt ∧ x47.toInt ≤ 900 := hbx47
    have hbx48 : (0 : Int) ≤ x48.toInt ∧ x48.toInt ≤ 900 := hbx48
    have hbx49 : (0 : Int) ≤ x49.toInt ∧ x49.toInt ≤ 4 := hbx49
    have hbx50 : (0 : Int) ≤ x50.toInt ∧ x50.toInt ≤ 99999 := hbx50
    have hbx51 : (0 : Int) ≤ x51.toInt ∧ x51.toInt ≤ 3 := hbx51
    have hbx52 : (-1 : Int) ≤ x52.toInt ∧ x52.toInt ≤ 900 := hbx52
    have hr53 : PIk x47 x48 x49 ∧ (x38.toInt ≤ x48.toInt) ∧ NMk x51 x41 x38 x48 r53 ((0 : Int32).toInt) ((999 : Int32).toInt) ∧ RBk r53 ((0 : Int32).toInt) ((999 : Int32).toInt) := hr53
    have hP : va_P G vwCl (mS cs h q (upd (upd (upd (upd (upd (upd F 8 x47) 9 x48) 10 x49) 11 x50) 12 x51) 13 x52) (vA A 14 g46) D B) H := hP
    have hD : va_D A0 (mS cs h q (upd (upd (upd (upd (upd (upd F 8 x47) 9 x48) 10 x49) 11 x50) 12 x51) 13 x52) (vA A 14 g46) D B) := hD
    have hbr53 := RBb (A := 0) (B := 999) hr53.2.2.2 (by omega) (by omega)
    refine va_iast hx hb hK.1 hP hD hS 6 0 rfl rfl (show ¬ (_ ∨ _) by decide) dX11_readLine_77 (fun H locs hP hD hS => ?_)
    have hP : va_P G vwCl (mS cs h q (upd (upd (upd (upd (upd (upd F 8 x47) 9 x48) 10 x49) 11 x50) 12 x51) 13 x52) (vA A 14 (upd g46 (3 : Int32).toNatClampNeg r53)) D B) H := hP
    have hD : va_D A0 (mS cs h q (upd (upd (upd (upd (upd (upd F 8 x47) 9 x48) 10 x49) 11 x50) 12 x51) 13 x52) (vA A 14 (upd g46 (3 : Int32).toNatClampNeg r53)) D B) := hD
    obtain ⟨g56, eg56⟩ : ∃ z : Nat → Int32, z = upd g46 (3 : Int32).toNatClampNeg r53 := ⟨_, rfl⟩
    rw [← eg56] at hP hD
    have hg56 : AI 14 g56 := by rw [eg56]; exact AI_upd (fun j => hg46 j) (i32b _)
    refine lv_goto (tgt := 85) hx hb dX11_readLine_78 (by decide) ?_
    exact B85 x47 x48 x49 x50 x51 x52 g56 H locs ls (by omega) (by omega) (by omega) (by omega) (by omega) (by omega) hg56 hr53.1 (by have k0 : (0 : Int32).toInt = 0 := (by decide); have k1 : (1 : Int32).toInt = 1 := (by decide); omega) (fun q9 => (hr16.2.2 (hr23.2.2.1 (hr33.2.2.1 (hr43.2.2.1 (hr53.2.2.1 q9).1).1).1).1).1) (fun q9 => (WGe (WGe (WGe (WGe (hWG (hr16.2.2 (hr23.2.2.1 (hr33.2.2.1 (hr43.2.2.1 (hr53.2.2.1 q9).1).1).1).1).1) eg26 ((fun j => hI.2 14 j) 5).2 (by decide)) eg36 (hg26 5).2 (by decide)) eg46 (hg36 5).2 (by decide)) eg56 (hg46 5).2 (by decide))) hP hD hS (lv_sub hl [0] rfl)

set_option maxRecDepth 100000 in
set_option maxHeartbeats 8000000 in
theorem sX11_house (l : Launch) (G : va_G) (cs : Nat → ClassId) (sd : Nat → Nat × Nat) (h : Nat) (q : Nat → Nat) (F : Nat → Int32) (A : Nat → Nat → Int32) (D : Int64) (B : Nat → Nat → Int64) (hI : IM F A) (hWG1 : WG (A 1)) : ∀ sz : Nat, Met l yX11_house (wk yX11_house cX11_house 2 (some .int)) (rmk 11 0 0) (PreDS SRM sd G (TY cs) [.ref h] (mS cs h q F A D B) sz) ((QDi G (fun (r : Int32) (u : Int32 × Int32 × Int32 × Int32 × Int32 × Int32 × Int32 × Int32 × (Nat → Int32) × (Nat → Int32)) => ((0 : Int) ≤ u.1.toInt ∧ u.1.toInt ≤ 900) ∧ ((0 : Int) ≤ u.2.1.toInt ∧ u.2.1.toInt ≤ 900) ∧ ((0 : Int) ≤ u.2.2.1.toInt ∧ u.2.2.1.toInt ≤ 900) ∧ ((0 : Int) ≤ u.2.2.2.1.toInt ∧ u.2.2.2.1.toInt ≤ 900) ∧ ((0 : Int) ≤ u.2.2.2.2.1.toInt ∧ u.2.2.2.2.1.toInt ≤ 4) ∧ ((0 : Int) ≤ u.2.2.2.2.2.1.toInt ∧ u.2.2.2.2.2.1.toInt ≤ 99999) ∧ ((0 : Int) ≤ u.2.2.2.2.2.2.1.toInt ∧ u.2.2.2.2.2.2.1.toInt ≤ 3) ∧ ((-1 : Int) ≤ u.2.2.2.2.2.2.2.1.toInt ∧ u.2.2.2.2.2.2.2.1.toInt ≤ 900) ∧ AI 1 u.2.2.2.2.2.2.2.2.1 ∧ AI 14 u.2.2.2.2.2.2.2.2.2 ∧ (WG u.2.2.2.2.2.2.2.2.1)) (fun u : Int32 × Int32 × Int32 × Int32 × Int32 × Int32 × Int32 × Int32 × (Nat → Int32) × (Nat → Int32) => (mS cs h q (upd (upd (upd (upd (upd (upd (upd (upd F 5 u.1) 7 u.2.1) 8 u.2.2.1) 9 u.2.2.2.1) 10 u.2.2.2.2.1) 11 u.2.2.2.2.2.1) 12 u.2.2.2.2.2.2.1) 13 u.2.2.2.2.2.2.2.1) (vA (vA A 1 u.2.2.2.2.2.2.2.2.1) 14 u.2.2.2.2.2.2.2.2.2) D B))) (va_A (mS cs h q F A D B) sz)) 0 0 (va_A (mS cs h q F A D B) sz) := by
  refine mkDS (Qc := (QDi G (fun (r : Int32) (u : Int32 × Int32 × Int32 × Int32 × Int32 × Int32 × Int32 × Int32 × (Nat → Int32) × (Nat → Int32)) => ((0 : Int) ≤ u.1.toInt ∧ u.1.toInt ≤ 900) ∧ ((0 : Int) ≤ u.2.1.toInt ∧ u.2.1.toInt ≤ 900) ∧ ((0 : Int) ≤ u.2.2.1.toInt ∧ u.2.2.1.toInt ≤ 900) ∧ ((0 : Int) ≤ u.2.2.2.1.toInt ∧ u.2.2.2.1.toInt ≤ 900) ∧ ((0 : Int) ≤ u.2.2.2.2.1.toInt ∧ u.2.2.2.2.1.toInt ≤ 4) ∧ ((0 : Int) ≤ u.2.2.2.2.2.1.toInt ∧ u.2.2.2.2.2.1.toInt ≤ 99999) ∧ ((0 : Int) ≤ u.2.2.2.2.2.2.1.toInt ∧ u.2.2.2.2.2.2.1.toInt ≤ 3) ∧ ((-1 : Int) ≤ u.2.2.2.2.2.2.2.1.toInt ∧ u.2.2.2.2.2.2.2.1.toInt ≤ 900) ∧ AI 1 u.2.2.2.2.2.2.2.2.1 ∧ AI 14 u.2.2.2.2.2.2.2.2.2 ∧ (WG u.2.2.2.2.2.2.2.2.1)) (fun u : Int32 × Int32 × Int32 × Int32 × Int32 × Int32 × Int32 × Int32 × (Nat → Int32) × (Nat → Int32) => (mS cs h q (upd (upd (upd (upd (upd (upd (upd (upd F 5 u.1) 7 u.2.1) 8 u.2.2.1) 9 u.2.2.2.1) 10 u.2.2.2.2.1) 11 u.2.2.2.2.2.1) 12 u.2.2.2.2.2.2.1) 13 u.2.2.2.2.2.2.2.1) (vA (vA A 1 u.2.2.2.2.2.2.2.2.1) 14 u.2.2.2.2.2.2.2.2.2) D B)))) (by decide) (by simp [lg_sl, Value.category]) ?_
  intro p e s m args below meth c ls A0 hx hb hml hr hlk hown hmn ht hK hP hD hS hA hQ hl
  have hl : lv_has ls 2 [(0, .ref h)] := hl
  refine lv_aload_n hx hb dX11_house_0 rfl (lv_at hl 0 rfl) ?_
  refine lv_aload_n hx hb dX11_house_1 rfl (lv_at hl 0 rfl) ?_
  refine getF (v := .int (F 5)) hx hb ht hown hK hP iTX11 0 5 rfl rfl (by decide) fl_RX11_93 rfl dX11_house_2 ?_
  have zf1 : (0 : Int) ≤ (F 5).toInt ∧ (F 5).toInt ≤ 900 := hI.1 5
  refine putD hx hb ht hown hK hP hD hS iTX11 tyX11 tyX11_ok nmX11 0 7 rfl rfl (by decide) fl_RX11_96 rfl rfl rfl (Nat.le_of_ble_eq_true rfl) dX11_house_5 (fun H locs hP hD hS => ?_)
  have hP : va_P G vwCl (mS cs h q (upd F 7 (F 5)) A D B) H := hP
  have hD : va_D A0 (mS cs h q (upd F 7 (F 5)) A D B) := hD
  refine lv_aload_n hx hb dX11_house_8 rfl (lv_at hl 0 rfl) ?_
  refine lv_iconst (v := 0) hx hb dX11_house_9 (by decide) ?_
  refine putD hx hb ht hown hK hP hD hS iTX11 tyX11 tyX11_ok nmX11 0 5 rfl rfl (by decide) fl_RX11_93 rfl rfl rfl (Nat.le_of_ble_eq_true rfl) dX11_house_10 (fun H locs hP hD hS => ?_)
  have hP : va_P G vwCl (mS cs h q (upd (upd F 5 0) 7 (F 5)) A D B) H := hP
  have hD : va_D A0 (mS cs h q (upd (upd F 5 0) 7 (F 5)) A D B) := hD
  refine lv_aload_n hx hb dX11_house_13 rfl (lv_at hl 0 rfl) ?_
  refine lv_iconst (v := 0) hx hb dX11_house_14 (by decide) ?_
  refine putD hx hb ht hown hK hP hD hS iTX11 tyX11 tyX11_ok nmX11 0 8 rfl rfl (by decide) fl_RX11_99 rfl rfl rfl (Nat.le_of_ble_eq_true rfl) dX11_house_15 (fun H locs hP hD hS => ?_)
  have hP : va_P G vwCl (mS cs h q (upd (upd (upd F 5 0) 7 (F 5)) 8 0) A D B) H := hP
  have hD : va_D A0 (mS cs h q (upd (upd (upd F 5 0) 7 (F 5)) 8 0) A D B) := hD
  refine lv_aload_n hx hb dX11_house_18 rfl (lv_at hl 0 rfl) ?_
  refine lv_iconst (v := 0) hx hb dX11_house_19 (by decide) ?_
  refine putD hx hb ht hown hK hP hD hS iTX11 tyX11 tyX11_ok nmX11 0 12 rfl rfl (by decide) fl_RX11_130 rfl rfl rfl (Nat.le_of_ble_eq_true rfl) dX11_house_20 (fun H locs hP hD hS => ?_)
  have hP : va_P G vwCl (mS cs h q (upd (upd (upd (upd F 5 0) 7 (F 5)) 8 0) 12 0) A D B) H := hP
  have hD : va_D A0 (mS cs h q (upd (upd (upd (upd F 5 0) 7 (F 5)) 8 0) 12 0) A D B) := hD
  refine lv_aload_n hx hb dX11_house_23 rfl (lv_at hl 0 rfl) ?_
  refine lv_iconst (v := (-1)) hx hb dX11_house_24 (by decide) ?_
  refine putD hx hb ht hown hK hP hD hS iTX11 tyX11 tyX11_ok nmX11 0 13 rfl rfl (by decide) fl_RX11_27 rfl rfl rfl (Nat.le_of_ble_eq_true rfl) dX11_house_25 (fun H locs hP hD hS => ?_)
  have hP : va_P G vwCl (mS cs h q (upd (upd (upd (upd (upd F 5 0) 7 (F 5)) 8 0) 12 0) 13 (-1)) A D B) H := hP
  have hD : va_D A0 (mS cs h q (upd (upd (upd (upd (upd F 5 0) 7 (F 5)) 8 0) 12 0) 13 (-1)) A D B) := hD
  refine lv_iconst (v := 0) hx hb dX11_house_28 (by decide) ?_
  refine lv_istore_n (lv' := [(1, .int 0), (0, .ref h)]) hx hb dX11_house_29 rfl hl (by decide) rfl (fun ls hl => ?_)
  have B30 : ∀ (n : Nat) (x30_1 : Int32) (a14_30 : (Nat → Int32)) (H : Heap) (locs : List Loc) (ls : Array Slot), (144 - x30_1.toInt).toNat < n → (0 : Int) ≤ x30_1.toInt ∧ x30_1.toInt ≤ 144 → AI 14 a14_30 → (ZR0 a14_30 x30_1.toInt) → va_P G vwCl (mS cs h q (upd (upd (upd (upd (upd F 5 0) 7 (F 5)) 8 0) 12 0) 13 (-1)) (vA A 14 a14_30) D B) H → va_D A0 (mS cs h q (upd (upd (upd (upd (upd F 5 0) 7 (F 5)) 8 0) 12 0) 13 (-1)) (vA A 14 a14_30) D B) → va_S A0 s.heap H locs → lv_has ls 2 [(0, .ref h), (1, .int x30_1)] → W p l e (rmk 11 0 0) s m args below meth c H locs 0 0 (MQ below ((QDi G (fun (r : Int32) (u : Int32 × Int32 × Int32 × Int32 × Int32 × Int32 × Int32 × Int32 × (Nat → Int32) × (Nat → Int32)) => ((0 : Int) ≤ u.1.toInt ∧ u.1.toInt ≤ 900) ∧ ((0 : Int) ≤ u.2.1.toInt ∧ u.2.1.toInt ≤ 900) ∧ ((0 : Int) ≤ u.2.2.1.toInt ∧ u.2.2.1.toInt ≤ 900) ∧ ((0 : Int) ≤ u.2.2.2.1.toInt ∧ u.2.2.2.1.toInt ≤ 900) ∧ ((0 : Int) ≤ u.2.2.2.2.1.toInt ∧ u.2.2.2.2.1.toInt ≤ 4) ∧ ((0 : Int) ≤ u.2.2.2.2.2.1.toInt ∧ u.2.2.2.2.2.1.toInt ≤ 99999) ∧ ((0 : Int) ≤ u.2.2.2.2.2.2.1.toInt ∧ u.2.2.2.2.2.2.1.toInt ≤ 3) ∧ ((-1 : Int) ≤ u.2.2.2.2.2.2.2.1.toInt ∧ u.2.2.2.2.2.2.2.1.toInt ≤ 900) ∧ AI 1 u.2.2.2.2.2.2.2.2.1 ∧ AI 14 u.2.2.2.2.2.2.2.2.2 ∧ (WG u.2.2.2.2.2.2.2.2.1)) (fun u : Int32 × Int32 × Int32 × Int32 × Int32 × Int32 × Int32 × Int32 × (Nat → Int32) × (Nat → Int32) => (mS cs h q (upd (upd (upd (upd (upd (upd (upd (upd F 5 u.1) 7 u.2.1) 8 u.2.2.1) 9 u.2.2.2.1) 10 u.2.2.2.2.1) 11 u.2.2.2.2.2.1) 12 u.2.2.2.2.2.2.1) 13 u.2.2.2.2.2.2.2.1) (vA (vA A 1 u.2.2.2.2.2.2.2.2.1) 14 u.2.2.2.2.2.2.2.2.2) D B))) A0) args s 0 0 A0) (F0 m 30 ls []) := by
    intro n
    induction n with
    | zero => intro x30_1 a14_30 H locs ls hmeas hx30_1 ha14_30 hz hP hD hS hl; exact absurd hmeas (Nat.not_lt_zero _)
    | succ n ih30 =>
      intro x30_1 a14_30 H locs ls hmeas hx30_1 ha14_30 hz hP hD hS hl
      refine lv_iload_n hx hb dX11_house_30 rfl (lv_at hl 1 rfl) ?_
      refine lv_sipush (v := 144) hx hb dX11_house_31 (by decide) ?_
      refine lv_icmp_ge (tgt := 50) hx hb dX11_house_34 (by decide) (fun c19001 => ?_) (fun c19001 => ?_)
      · have zc19001 := leK (show (144 : Int32).toInt = 144 by decide) rfl c19001
        refine lv_aload_n hx hb dX11_house_50 rfl (lv_at hl 0 rfl) ?_
        refine behDw (wr := []) (runVD (As := []) (rest := []) ⟨hx, hb, hml, hown, ht⟩ (sX11_advance l G cs h q (upd (upd (upd (upd (upd F 5 0) 7 (F 5)) 8 0) 12 0) 13 (-1)) (vA A 14 a14_30) D B (IM_arr (k := 14) (IM_put (k := 13) (IM_put (k := 12) (IM_put (k := 8) (IM_put (k := 7) (IM_put (k := 5) hI (by decide)) (show (0 : Int) ≤ (F 5).toInt ∧ (F 5).toInt ≤ 900 by omega)) (by decide)) (by decide)) (by decide)) ha14_30)  ) okV_RX11_150 ⟨by decide, by decide⟩ hK hP hD [0, 1, 2, 3, 4, 5, 6, 7, 8, 9, 10, 11, 12, 13, 14, 15, 16, 17, 18, 19] rfl (by decide) rfl 0 rfl rfl hl.1 rfl (Nat.le_of_ble_eq_true rfl) dX11_house_51 ⟨(Nat.le_of_ble_eq_true rfl), (Nat.le_of_ble_eq_true rfl)⟩) hP hD hS hA [0, 1, 2, 3, 4, 5, 6, 7, 8, 9, 10, 11, 12, 13, 14, 15, 16, 17, 18, 19] [] rfl rfl (by decide) (by decide) (fun u H locs hu hP hD hS => ?_)
        obtain ⟨x19002, x19003, x19004, x19005⟩ := u
        obtain ⟨hbx19002, hbx19003, hbx19004, hbx19005, hr19006⟩ := hu
        have hbx19002 : (0 : Int) ≤ x19002.toInt ∧ x19002.toInt ≤ 900 := hbx19002
        have hbx19003 : (0 : Int) ≤ x19003.toInt ∧ x19003.toInt ≤ 900 := hbx19003
        have hbx19004 : (0 : Int) ≤ x19004.toInt ∧ x19004.toInt ≤ 4 := hbx19004
        have hbx19005 : (0 : Int) ≤ x19005.toInt ∧ x19005.toInt ≤ 99999 := hbx19005
        have hr19006 : (0 : Int32).toInt ≤ x19003.toInt ∧ PIk x19002 x19003 x19004 := hr19006
        have hP : va_P G vwCl (mS cs h q (upd (upd (upd (upd (upd (upd (upd (upd F 5 0) 7 (F 5)) 8 x19002) 9 x19003) 10 x19004) 11 x19005) 12 0) 13 (-1)) (vA A 14 a14_30) D B) H := hP
        have hD : va_D A0 (mS cs h q (upd (upd (upd (upd (upd (upd (upd (upd F 5 0) 7 (F 5)) 8 x19002) 9 x19003) 10 x19004) 11 x19005) 12 0) 13 (-1)) (vA A 14 a14_30) D B) := hD
        have B54 : ∀ (n : Nat) (f8_54 : Int32) (f9_54 : Int32) (f10_54 : Int32) (f11_54 : Int32) (f12_54 : Int32) (f13_54 : Int32) (a14_54 : (Nat → Int32)) (H : Heap) (locs : List Loc) (ls : Array Slot), (902 - f9_54.toInt - min f12_54.toInt 1).toNat < n → (0 : Int) ≤ f8_54.toInt ∧ f8_54.toInt ≤ 900 → (0 : Int) ≤ f9_54.toInt ∧ f9_54.toInt ≤ 900 → (0 : Int) ≤ f10_54.toInt ∧ f10_54.toInt ≤ 4 → (0 : Int) ≤ f11_54.toInt ∧ f11_54.toInt ≤ 99999 → (0 : Int) ≤ f12_54.toInt ∧ f12_54.toInt ≤ 3 → (-1 : Int) ≤ f13_54.toInt ∧ f13_54.toInt ≤ 900 → AI 14 a14_54 → (PIk f8_54 f9_54 f10_54) → (WGk f12_54 a14_54) → va_P G vwCl (mS cs h q (upd (upd (upd (upd (upd (upd (upd (upd F 5 0) 7 (F 5)) 8 f8_54) 9 f9_54) 10 f10_54) 11 f11_54) 12 f12_54) 13 f13_54) (vA A 14 a14_54) D B) H → va_D A0 (mS cs h q (upd (upd (upd (upd (upd (upd (upd (upd F 5 0) 7 (F 5)) 8 f8_54) 9 f9_54) 10 f10_54) 11 f11_54) 12 f12_54) 13 f13_54) (vA A 14 a14_54) D B) → va_S A0 s.heap H locs → lv_has ls 2 [(0, .ref h)] → W p l e (rmk 11 0 0) s m args below meth c H locs 0 0 (MQ below ((QDi G (fun (r : Int32) (u : Int32 × Int32 × Int32 × Int32 × Int32 × Int32 × Int32 × Int32 × (Nat → Int32) × (Nat → Int32)) => ((0 : Int) ≤ u.1.toInt ∧ u.1.toInt ≤ 900) ∧ ((0 : Int) ≤ u.2.1.toInt ∧ u.2.1.toInt ≤ 900) ∧ ((0 : Int) ≤ u.2.2.1.toInt ∧ u.2.2.1.toInt ≤ 900) ∧ ((0 : Int) ≤ u.2.2.2.1.toInt ∧ u.2.2.2.1.toInt ≤ 900) ∧ ((0 : Int) ≤ u.2.2.2.2.1.toInt ∧ u.2.2.2.2.1.toInt ≤ 4) ∧ ((0 : Int) ≤ u.2.2.2.2.2.1.toInt ∧ u.2.2.2.2.2.1.toInt ≤ 99999) ∧ ((0 : Int) ≤ u.2.2.2.2.2.2.1.toInt ∧ u.2.2.2.2.2.2.1.toInt ≤ 3) ∧ ((-1 : Int) ≤ u.2.2.2.2.2.2.2.1.toInt ∧ u.2.2.2.2.2.2.2.1.toInt ≤ 900) ∧ AI 1 u.2.2.2.2.2.2.2.2.1 ∧ AI 14 u.2.2.2.2.2.2.2.2.2 ∧ (WG u.2.2.2.2.2.2.2.2.1)) (fun u : Int32 × Int32 × Int32 × Int32 × Int32 × Int32 × Int32 × Int32 × (Nat → Int32) × (Nat → Int32) => (mS cs h q (upd (upd (upd (upd (upd (upd (upd (upd F 5 u.1) 7 u.2.1) 8 u.2.2.1) 9 u.2.2.2.1) 10 u.2.2.2.2.1) 11 u.2.2.2.2.2.1) 12 u.2.2.2.2.2.2.1) 13 u.2.2.2.2.2.2.2.1) (vA (vA A 1 u.2.2.2.2.2.2.2.2.1) 14 u.2.2.2.2.2.2.2.2.2) D B))) A0) args s 0 0 A0) (F0 m 54 ls []) := by
          intro n
          induction n with
          | zero => intro f8_54 f9_54 f10_54 f11_54 f12_54 f13_54 a14_54 H locs ls hmeas hf8_54 hf9_54 hf10_54 hf11_54 hf12_54 hf13_54 ha14_54 hp hwk hP hD hS hl; exact absurd hmeas (Nat.not_lt_zero _)
          | succ n ih54 =>
            intro f8_54 f9_54 f10_54 f11_54 f12_54 f13_54 a14_54 H locs ls hmeas hf8_54 hf9_54 hf10_54 hf11_54 hf12_54 hf13_54 ha14_54 hp hwk hP hD hS hl
            refine lv_aload_n hx hb dX11_house_54 rfl (lv_at hl 0 rfl) ?_
            refine behR (runVP (As := []) (rest := []) ⟨hx, hb, hml, hown, ht⟩ (sX11_good l G cs h q (upd (upd (upd (upd (upd (upd (upd (upd F 5 0) 7 (F 5)) 8 f8_54) 9 f9_54) 10 f10_54) 11 f11_54) 12 f12_54) 13 f13_54) (vA A 14 a14_54) D B (IM_arr (k := 14) (IM_put (k := 13) (IM_put (k := 12) (IM_put (k := 11) (IM_put (k := 10) (IM_put (k := 9) (IM_put (k := 8) (IM_put (k := 7) (IM_put (k := 5) hI (by decide)) (show (0 : Int) ≤ (F 5).toInt ∧ (F 5).toInt ≤ 900 by omega)) (show (0 : Int) ≤ f8_54.toInt ∧ f8_54.toInt ≤ 900 by omega)) (show (0 : Int) ≤ f9_54.toInt ∧ f9_54.toInt ≤ 900 by omega)) (show (0 : Int) ≤ f10_54.toInt ∧ f10_54.toInt ≤ 4 by omega)) (show (0 : Int) ≤ f11_54.toInt ∧ f11_54.toInt ≤ 99999 by omega)) (show (0 : Int) ≤ f12_54.toInt ∧ f12_54.toInt ≤ 3 by omega)) (show (-1 : Int) ≤ f13_54.toInt ∧ f13_54.toInt ≤ 900 by omega)) ha14_54)  ) okV_RX11_133 ⟨by decide, by decide⟩ hK hP [0, 1, 2, 3, 4, 5, 6, 7, 8, 9, 10, 11, 12, 13, 14, 15, 16, 17, 18, 19] rfl 0 rfl rfl hl.1 rfl (Nat.le_of_ble_eq_true rfl) dX11_house_55 ⟨by decide, by decide⟩) hP hS hA (fun r31001 H locs hr31001 hP hS => ?_)
            have hr31001 : (r31001.toInt = 1 ∧ f12_54.toInt = 0) ∨ (r31001.toInt = 0 ∧ ¬ f12_54.toInt = 0) := hr31001
            have B75 : ∀ (H : Heap) (locs : List Loc) (ls : Array Slot), va_P G vwCl (mS cs h q (upd (upd (upd (upd (upd (upd (upd (upd F 5 0) 7 (F 5)) 8 f8_54) 9 f9_54) 10 f10_54) 11 f11_54) 12 f12_54) 13 f13_54) (vA A 14 a14_54) D B) H → va_D A0 (mS cs h q (upd (upd (upd (upd (upd (upd (upd (upd F 5 0) 7 (F 5)) 8 f8_54) 9 f9_54) 10 f10_54) 11 f11_54) 12 f12_54) 13 f13_54) (vA A 14 a14_54) D B) → va_S A0 s.heap H locs → lv_has ls 2 [(0, .ref h)] → W p l e (rmk 11 0 0) s m args below meth c H locs 0 0 (MQ below ((QDi G (fun (r : Int32) (u : Int32 × Int32 × Int32 × Int32 × Int32 × Int32 × Int32 × Int32 × (Nat → Int32) × (Nat → Int32)) => ((0 : Int) ≤ u.1.toInt ∧ u.1.toInt ≤ 900) ∧ ((0 : Int) ≤ u.2.1.toInt ∧ u.2.1.toInt ≤ 900) ∧ ((0 : Int) ≤ u.2.2.1.toInt ∧ u.2.2.1.toInt ≤ 900) ∧ ((0 : Int) ≤ u.2.2.2.1.toInt ∧ u.2.2.2.1.toInt ≤ 900) ∧ ((0 : Int) ≤ u.2.2.2.2.1.toInt ∧ u.2.2.2.2.1.toInt ≤ 4) ∧ ((0 : Int) ≤ u.2.2.2.2.2.1.toInt ∧ u.2.2.2.2.2.1.toInt ≤ 99999) ∧ ((0 : Int) ≤ u.2.2.2.2.2.2.1.toInt ∧ u.2.2.2.2.2.2.1.toInt ≤ 3) ∧ ((-1 : Int) ≤ u.2.2.2.2.2.2.2.1.toInt ∧ u.2.2.2.2.2.2.2.1.toInt ≤ 900) ∧ AI 1 u.2.2.2.2.2.2.2.2.1 ∧ AI 14 u.2.2.2.2.2.2.2.2.2 ∧ (WG u.2.2.2.2.2.2.2.2.1)) (fun u : Int32 × Int32 × Int32 × Int32 × Int32 × Int32 × Int32 × Int32 × (Nat → Int32) × (Nat → Int32) => (mS cs h q (upd (upd (upd (upd (upd (upd (upd (upd F 5 u.1) 7 u.2.1) 8 u.2.2.1) 9 u.2.2.2.1) 10 u.2.2.2.2.1) 11 u.2.2.2.2.2.1) 12 u.2.2.2.2.2.2.1) 13 u.2.2.2.2.2.2.2.1) (vA (vA A 1 u.2.2.2.2.2.2.2.2.1) 14 u.2.2.2.2.2.2.2.2.2) D B))) A0) args s 0 0 A0) (F0 m 75 ls []) := by
              intro H locs ls hP hD hS hl
              refine lv_aload_n hx hb dX11_house_75 rfl (lv_at hl 0 rfl) ?_
              refine behR (runVP (As := []) (rest := []) ⟨hx, hb, hml, hown, ht⟩ (sX11_good l G cs h q (upd (upd (upd (upd (upd (upd (upd (upd F 5 0) 7 (F 5)) 8 f8_54) 9 f9_54) 10 f10_54) 11 f11_54) 12 f12_54) 13 f13_54) (vA A 14 a14_54) D B (IM_arr (k := 14) (IM_put (k := 13) (IM_put (k := 12) (IM_put (k := 11) (IM_put (k := 10) (IM_put (k := 9) (IM_put (k := 8) (IM_put (k := 7) (IM_put (k := 5) hI (by decide)) (show (0 : Int) ≤ (F 5).toInt ∧ (F 5).toInt ≤ 900 by omega)) (show (0 : Int) ≤ f8_54.toInt ∧ f8_54.toInt ≤ 900 by omega)) (show (0 : Int) ≤ f9_54.toInt ∧ f9_54.toInt ≤ 900 by omega)) (show (0 : Int) ≤ f10_54.toInt ∧ f10_54.toInt ≤ 4 by omega)) (show (0 : Int) ≤ f11_54.toInt ∧ f11_54.toInt ≤ 99999 by omega)) (show (0 : Int) ≤ f12_54.toInt ∧ f12_54.toInt ≤ 3 by omega)) (show (-1 : Int) ≤ f13_54.toInt ∧ f13_54.toInt ≤ 900 by omega)) ha14_54)  ) okV_RX11_133 ⟨by decide, by decide⟩ hK hP [0, 1, 2, 3, 4, 5, 6, 7, 8, 9, 10, 11, 12, 13, 14, 15, 16, 17, 18, 19] rfl 0 rfl rfl hl.1 rfl (Nat.le_of_ble_eq_true rfl) dX11_house_76 ⟨by decide, by decide⟩) hP hS hA (fun r40001 H locs hr40001 hP hS => ?_)
              have hr40001 : (r40001.toInt = 1 ∧ f12_54.toInt = 0) ∨ (r40001.toInt = 0 ∧ ¬ f12_54.toInt = 0) := hr40001
              refine lv_if_ne (tgt := 85) hx hb dX11_house_79 (by decide) (fun c40002 => ?_) (fun c40002 => ?_)
              · have zc40002 := neK rfl (show (0 : Int32).toInt = 0 by decide) c40002
                refine lv_iconst (v := 0) hx hb dX11_house_85 (by decide) ?_
                refine lv_istore_n (lv' := [(1, .int 0), (0, .ref h)]) hx hb dX11_house_86 rfl hl (by decide) rfl (fun ls hl => ?_)
                have B87 : ∀ (n : Nat) (x87_1 : Int32) (a1_87 : (Nat → Int32)) (H : Heap) (locs : List Loc) (ls : Array Slot), (144 - x87_1.toInt).toNat < n → (0 : Int) ≤ x87_1.toInt ∧ x87_1.toInt ≤ 144 → AI 1 a1_87 → (CPY a14_54 a1_87 x87_1.toInt) → va_P G vwCl (mS cs h q (upd (upd (upd (upd (upd (upd (upd (upd F 5 0) 7 (F 5)) 8 f8_54) 9 f9_54) 10 f10_54) 11 f11_54) 12 f12_54) 13 f13_54) (vA (vA A 1 a1_87) 14 a14_54) D B) H → va_D A0 (mS cs h q (upd (upd (upd (upd (upd (upd (upd (upd F 5 0) 7 (F 5)) 8 f8_54) 9 f9_54) 10 f10_54) 11 f11_54) 12 f12_54) 13 f13_54) (vA (vA A 1 a1_87) 14 a14_54) D B) → va_S A0 s.heap H locs → lv_has ls 2 [(0, .ref h), (1, .int x87_1)] → W p l e (rmk 11 0 0) s m args below meth c H locs 0 0 (MQ below ((QDi G (fun (r : Int32) (u : Int32 × Int32 × Int32 × Int32 × Int32 × Int32 × Int32 × Int32 × (Nat → Int32) × (Nat → Int32)) => ((0 : Int) ≤ u.1.toInt ∧ u.1.toInt ≤ 900) ∧ ((0 : Int) ≤ u.2.1.toInt ∧ u.2.1.toInt ≤ 900) ∧ ((0 : Int) ≤ u.2.2.1.toInt ∧ u.2.2.1.toInt ≤ 900) ∧ ((0 : Int) ≤ u.2.2.2.1.toInt ∧ u.2.2.2.1.toInt ≤ 900) ∧ ((0 : Int) ≤ u.2.2.2.2.1.toInt ∧ u.2.2.2.2.1.toInt ≤ 4) ∧ ((0 : Int) ≤ u.2.2.2.2.2.1.toInt ∧ u.2.2.2.2.2.1.toInt ≤ 99999) ∧ ((0 : Int) ≤ u.2.2.2.2.2.2.1.toInt ∧ u.2.2.2.2.2.2.1.toInt ≤ 3) ∧ ((-1 : Int) ≤ u.2.2.2.2.2.2.2.1.toInt ∧ u.2.2.2.2.2.2.2.1.toInt ≤ 900) ∧ AI 1 u.2.2.2.2.2.2.2.2.1 ∧ AI 14 u.2.2.2.2.2.2.2.2.2 ∧ (WG u.2.2.2.2.2.2.2.2.1)) (fun u : Int32 × Int32 × Int32 × Int32 × Int32 × Int32 × Int32 × Int32 × (Nat → Int32) × (Nat → Int32) => (mS cs h q (upd (upd (upd (upd (upd (upd (upd (upd F 5 u.1) 7 u.2.1) 8 u.2.2.1) 9 u.2.2.2.1) 10 u.2.2.2.2.1) 11 u.2.2.2.2.2.1) 12 u.2.2.2.2.2.2.1) 13 u.2.2.2.2.2.2.2.1) (vA (vA A 1 u.2.2.2.2.2.2.2.2.1) 14 u.2.2.2.2.2.2.2.2.2) D B))) A0) args s 0 0 A0) (F0 m 87 ls []) := by
                  intro n
                  induction n with
                  | zero => intro x87_1 a1_87 H locs ls hmeas hx87_1 ha1_87 hcp hP hD hS hl; exact absurd hmeas (Nat.not_lt_zero _)
                  | succ n ih87 =>
                    intro x87_1 a1_87 H locs ls hmeas hx87_1 ha1_87 hcp hP hD hS hl
                    refine lv_iload_n hx hb dX11_house_87 rfl (lv_at hl 1 rfl) ?_
                    refine lv_sipush (v := 144) hx hb dX11_house_88 (by decide) ?_
                    refine lv_icmp_ge (tgt := 112) hx hb dX11_house_91 (by decide) (fun c47001 => ?_) (fun c47001 => ?_)
                    · have zc47001 := leK (show (144 : Int32).toInt = 144 by decide) rfl c47001
                      refine lv_aload_n hx hb dX11_house_112 rfl (lv_at hl 0 rfl) ?_
                      refine getF (v := .ref (q 1)) hx hb ht hown hK hP iTX11 0 1 rfl rfl (by decide) fl_RX11_9 rfl dX11_house_113 ?_
                      refine lv_bipush (v := 6) hx hb dX11_house_116 (by decide) ?_
                      refine va_iald hx hb hK.1 hP 1 0 rfl rfl (show ¬ (_ ∨ _) by decide) dX11_house_118 ?_
                      refine W.eq (g2 := F0 m 119 ls [.int (a1_87 6)]) rfl ?_
                      exact retDi (0, (F 5), f8_54, f9_54, f10_54, f11_54, f12_54, f13_54, a1_87, a14_54) hx hb hr hlk hP hD hS dX11_house_119 (⟨show (0 : Int) ≤ (0 : Int32).toInt ∧ (0 : Int32).toInt ≤ 900 by decide, show (0 : Int) ≤ (F 5).toInt ∧ (F 5).toInt ≤ 900 by omega, show (0 : Int) ≤ f8_54.toInt ∧ f8_54.toInt ≤ 900 by omega, show (0 : Int) ≤ f9_54.toInt ∧ f9_54.toInt ≤ 900 by omega, show (0 : Int) ≤ f10_54.toInt ∧ f10_54.toInt ≤ 4 by omega, show (0 : Int) ≤ f11_54.toInt ∧ f11_54.toInt ≤ 99999 by omega, show (0 : Int) ≤ f12_54.toInt ∧ f12_54.toInt ≤ 3 by omega, show (-1 : Int) ≤ f13_54.toInt ∧ f13_54.toInt ≤ 900 by omega, ha1_87, ha14_54, WGcp hcp (by omega) (ha14_54 5).2 (hwk (by omega))⟩) (Nat.le_of_ble_eq_true rfl) (Nat.le_of_ble_eq_true rfl)
                    · have zc47001 := nleK (show (144 : Int32).toInt = 144 by decide) rfl c47001
                      refine lv_aload_n hx hb dX11_house_94 rfl (lv_at hl 0 rfl) ?_
                      refine getF (v := .ref (q 1)) hx hb ht hown hK hP iTX11 0 1 rfl rfl (by decide) fl_RX11_9 rfl dX11_house_95 ?_
                      refine lv_iload_n hx hb dX11_house_98 rfl (lv_at hl 1 rfl) ?_
                      refine lv_aload_n hx hb dX11_house_99 rfl (lv_at hl 0 rfl) ?_
                      refine getF (v := .ref (q 14)) hx hb ht hown hK hP iTX11 0 14 rfl rfl (by decide) fl_RX11_31 rfl dX11_house_100 ?_
                      refine lv_iload_n hx hb dX11_house_103 rfl (lv_at hl 1 rfl) ?_
                      refine va_iald hx hb hK.1 hP 6 0 rfl rfl (inK rfl (by omega) (by decide)) dX11_house_104 ?_
                      refine lv_topi (fun v47002 ev47002 => ?_)
                      have ev47002 : v47002 = a14_54 x87_1.toNatClampNeg := ev47002
                      refine va_iast hx hb hK.1 hP hD hS 1 0 rfl rfl (inK rfl (by omega) (by decide)) dX11_house_105 (fun H locs hP hD hS => ?_)
                      have hP : va_P G vwCl (mS cs h q (upd (upd (upd (upd (upd (upd (upd (upd F 5 0) 7 (F 5)) 8 f8_54) 9 f9_54) 10 f10_54) 11 f11_54) 12 f12_54) 13 f13_54) (vA (vA A 1 (upd a1_87 x87_1.toNatClampNeg v47002)) 14 a14_54) D B) H := hP
                      have hD : va_D A0 (mS cs h q (upd (upd (upd (upd (upd (upd (upd (upd F 5 0) 7 (F 5)) 8 f8_54) 9 f9_54) 10 f10_54) 11 f11_54) 12 f12_54) 13 f13_54) (vA (vA A 1 (upd a1_87 x87_1.toNatClampNeg v47002)) 14 a14_54) D B) := hD
                      obtain ⟨g47003, eg47003⟩ : ∃ z : Nat → Int32, z = upd a1_87 x87_1.toNatClampNeg v47002 := ⟨_, rfl⟩
                      rw [← eg47003] at hP hD
                      have hg47003 : AI 1 g47003 := by rw [eg47003]; exact AI_upd (fun j => ha1_87 j) (by rw [ev47002]; exact ha14_54 _)
                      obtain ⟨v47004, ev47004⟩ : ∃ z : Int32, z = x87_1 + 1 := ⟨_, rfl⟩
                      have tv47004 : v47004.toInt = x87_1.toInt + 1 := by rw [ev47004]; exact addT rfl (by decide) (by omega)
                      refine lv_iinc (v := v47004) (lv' := [(1, .int v47004), (0, .ref h)]) hx hb dX11_house_106 hl (k := 1) rfl (by rw [ev47004]; rfl) (by decide) rfl (fun ls hl => ?_)
                      refine lv_goto (tgt := 87) hx hb dX11_house_109 (by decide) ?_
                      exact ih87 v47004 g47003 H locs ls (by omega) (by omega) hg47003 (CPYs hcp eg47003 ev47002 (clK rfl (by omega)) tv47004) hP hD hS (lv_sub hl [1, 0] rfl)
                exact B87 _ 0 (A 1) H locs ls (Nat.lt_succ_self _) (by decide) (fun j => hI.2 1 j) (CPY0 (by decide)) hP hD hS (lv_sub hl [1, 0] rfl)
              · have zc40002 := eqK rfl (show (0 : Int32).toInt = 0 by decide) c40002
                refine lv_bipush (v := (-4)) hx hb dX11_house_82 (by decide) ?_
                exact retDi (0, (F 5), f8_54, f9_54, f10_54, f11_54, f12_54, f13_54, (A 1), a14_54) hx hb hr hlk hP hD hS dX11_house_84 (⟨show (0 : Int) ≤ (0 : Int32).toInt ∧ (0 : Int32).toInt ≤ 900 by decide, show (0 : Int) ≤ (F 5).toInt ∧ (F 5).toInt ≤ 900 by omega, show (0 : Int) ≤ f8_54.toInt ∧ f8_54.toInt ≤ 900 by omega, show (0 : Int) ≤ f9_54.toInt ∧ f9_54.toInt ≤ 900 by omega, show (0 : Int) ≤ f10_54.toInt ∧ f10_54.toInt ≤ 4 by omega, show (0 : Int) ≤ f11_54.toInt ∧ f11_54.toInt ≤ 99999 by omega, show (0 : Int) ≤ f12_54.toInt ∧ f12_54.toInt ≤ 3 by omega, show (-1 : Int) ≤ f13_54.toInt ∧ f13_54.toInt ≤ 900 by omega, fun j => hI.2 1 j, ha14_54, hWG1⟩) (Nat.le_of_ble_eq_true rfl) (Nat.le_of_ble_eq_true rfl)
            refine lv_if_eq (tgt := 75) hx hb dX11_house_58 (by decide) (fun c31002 => ?_) (fun c31002 => ?_)
            · have zc31002 := eqK rfl (show (0 : Int32).toInt = 0 by decide) c31002
              exact B75 H locs ls hP hD hS (lv_sub hl [0] rfl)
            · have zc31002 := neK rfl (show (0 : Int32).toInt = 0 by decide) c31002
              refine lv_aload_n hx hb dX11_house_61 rfl (lv_at hl 0 rfl) ?_
              refine getF (v := .int f10_54) hx hb ht hown hK hP iTX11 0 10 rfl rfl (by decide) fl_RX11_109 rfl dX11_house_62 ?_
              refine lv_if_eq (tgt := 75) hx hb dX11_house_65 (by decide) (fun c31003 => ?_) (fun c31003 => ?_)
              · have zc31003 := eqK rfl (show (0 : Int32).toInt = 0 by decide) c31003
                exact B75 H locs ls hP hD hS (lv_sub hl [0] rfl)
              · have zc31003 := neK rfl (show (0 : Int32).toInt = 0 by decide) c31003
                refine lv_aload_n hx hb dX11_house_68 rfl (lv_at hl 0 rfl) ?_
                refine behDw (wr := []) (runVDS (As := []) (rest := []) ⟨hx, hb, hml, hown, ht⟩ (sX11_readLine l G cs sd h q (upd (upd (upd (upd (upd (upd (upd (upd F 5 0) 7 (F 5)) 8 f8_54) 9 f9_54) 10 f10_54) 11 f11_54) 12 f12_54) 13 f13_54) (vA A 14 a14_54) D B (IM_arr (k := 14) (IM_put (k := 13) (IM_put (k := 12) (IM_put (k := 11) (IM_put (k := 10) (IM_put (k := 9) (IM_put (k := 8) (IM_put (k := 7) (IM_put (k := 5) hI (by decide)) (show (0 : Int) ≤ (F 5).toInt ∧ (F 5).toInt ≤ 900 by omega)) (show (0 : Int) ≤ f8_54.toInt ∧ f8_54.toInt ≤ 900 by omega)) (show (0 : Int) ≤ f9_54.toInt ∧ f9_54.toInt ≤ 900 by omega)) (show (0 : Int) ≤ f10_54.toInt ∧ f10_54.toInt ≤ 4 by omega)) (show (0 : Int) ≤ f11_54.toInt ∧ f11_54.toInt ≤ 99999 by omega)) (show (0 : Int) ≤ f12_54.toInt ∧ f12_54.toInt ≤ 3 by omega)) (show (-1 : Int) ≤ f13_54.toInt ∧ f13_54.toInt ≤ 900 by omega)) ha14_54)   (show PIk f8_54 f9_54 f10_54 from hp) (show WGk f12_54 a14_54 from (fun q9 => (hwk q9)))) okV_RX11_222 ⟨by decide, by decide⟩ hK hP hD hQ hS hA [0, 1, 2, 3, 4, 5, 6, 7, 8, 9, 10, 11, 12, 13, 14, 15, 16, 17, 18, 19] rfl (by decide) rfl 0 rfl rfl hl.1 rfl (Nat.le_of_ble_eq_true rfl) dX11_house_69 ⟨(Nat.le_of_ble_eq_true rfl), (Nat.le_of_ble_eq_true rfl)⟩) hP hD hS hA [0, 1, 2, 3, 4, 5, 6, 7, 8, 9, 10, 11, 12, 13, 14, 15, 16, 17, 18, 19] [] rfl rfl (by decide) (by decide) (fun u H locs hu hP hD hS => ?_)
                obtain ⟨x31004, x31005, x31006, x31007, x31008, x31009, g31010⟩ := u
                obtain ⟨hbx31004, hbx31005, hbx31006, hbx31007, hbx31008, hbx31009, hg31010, hr31011⟩ := hu
                have hbx31004 : (0 : Int) ≤ x31004.toInt ∧ x31004.toInt ≤ 900 := hbx31004
                have hbx31005 : (0 : Int) ≤ x31005.toInt ∧ x31005.toInt ≤ 900 := hbx31005
                have hbx31006 : (0 : Int) ≤ x31006.toInt ∧ x31006.toInt ≤ 4 := hbx31006
                have hbx31007 : (0 : Int) ≤ x31007.toInt ∧ x31007.toInt ≤ 99999 := hbx31007
                have hbx31008 : (0 : Int) ≤ x31008.toInt ∧ x31008.toInt ≤ 3 := hbx31008
                have hbx31009 : (-1 : Int) ≤ x31009.toInt ∧ x31009.toInt ≤ 900 := hbx31009
                have hr31011 : PIk x31004 x31005 x31006 ∧ f9_54.toInt ≤ x31005.toInt ∧ NDk x31008 f12_54 f9_54 x31005 ∧ WGk x31008 g31010 := hr31011
                have hP : va_P G vwCl (mS cs h q (upd (upd (upd (upd (upd (upd (upd (upd F 5 0) 7 (F 5)) 8 x31004) 9 x31005) 10 x31006) 11 x31007) 12 x31008) 13 x31009) (vA A 14 g31010) D B) H := hP
                have hD : va_D A0 (mS cs h q (upd (upd (upd (upd (upd (upd (upd (upd F 5 0) 7 (F 5)) 8 x31004) 9 x31005) 10 x31006) 11 x31007) 12 x31008) 13 x31009) (vA A 14 g31010) D B) := hD
                have hnd9 : x31008.toInt = 0 → (f12_54.toInt = 0 ∧ f9_54.toInt < x31005.toInt) := hr31011.2.2.1
                refine lv_goto (tgt := 54) hx hb dX11_house_72 (by decide) ?_
                exact ih54 x31004 x31005 x31006 x31007 x31008 x31009 g31010 H locs ls (by omega) (by omega) (by omega) (by omega) (by omega) (by omega) (by omega) hg31010 hr31011.1 hr31011.2.2.2 hP hD hS (lv_sub hl [0] rfl)
        exact B54 _ x19002 x19003 x19004 x19005 0 (-1) a14_30 H locs ls (Nat.lt_succ_self _) (by omega) (by omega) (by omega) (by omega) (by decide) (by decide) ha14_30 hr19006.2 (fun _ => WG0 (hz 5 (by omega))) hP hD hS (lv_sub hl [0] rfl)
      · have zc19001 := nleK (show (144 : Int32).toInt = 144 by decide) rfl c19001
        refine lv_aload_n hx hb dX11_house_37 rfl (lv_at hl 0 rfl) ?_
        refine getF (v := .ref (q 14)) hx hb ht hown hK hP iTX11 0 14 rfl rfl (by decide) fl_RX11_31 rfl dX11_house_38 ?_
        refine lv_iload_n hx hb dX11_house_41 rfl (lv_at hl 1 rfl) ?_
        refine lv_iconst (v := 0) hx hb dX11_house_42 (by decide) ?_
        refine va_iast hx hb hK.1 hP hD hS 6 0 rfl rfl (inK rfl (by omega) (by decide)) dX11_house_43 (fun H locs hP hD hS => ?_)
        have hP : va_P G vwCl (mS cs h q (upd (upd (upd (upd (upd F 5 0) 7 (F 5)) 8 0) 12 0) 13 (-1)) (vA A 14 (upd a14_30 x30_1.toNatClampNeg (0 : Int32))) D B) H := hP
        have hD : va_D A0 (mS cs h q (upd (upd (upd (upd (upd F 5 0) 7 (F 5)) 8 0) 12 0) 13 (-1)) (vA A 14 (upd a14_30 x30_1.toNatClampNeg (0 : Int32))) D B) := hD
        obtain ⟨g19007, eg19007⟩ : ∃ z : Nat → Int32, z = upd a14_30 x30_1.toNatClampNeg (0 : Int32) := ⟨_, rfl⟩
        rw [← eg19007] at hP hD
        have hg19007 : AI 14 g19007 := by rw [eg19007]; exact AI_upd (fun j => ha14_30 j) (by have z9 := w0b x30_1.toNatClampNeg; exact z9)
        obtain ⟨v19008, ev19008⟩ : ∃ z : Int32, z = x30_1 + 1 := ⟨_, rfl⟩
        have tv19008 : v19008.toInt = x30_1.toInt + 1 := by rw [ev19008]; exact addT rfl (by decide) (by omega)
        refine lv_iinc (v := v19008) (lv' := [(1, .int v19008), (0, .ref h)]) hx hb dX11_house_44 hl (k := 1) rfl (by rw [ev19008]; rfl) (by decide) rfl (fun ls hl => ?_)
        refine lv_goto (tgt := 30) hx hb dX11_house_47 (by decide) ?_
        exact ih30 v19008 g19007 H locs ls (by omega) (by omega) hg19007 (ZR0s hz eg19007 (clK rfl (by omega)) (by decide) tv19008) hP hD hS (lv_sub hl [1, 0] rfl)
  exact B30 _ 0 (A 14) H locs ls (Nat.lt_succ_self _) (by decide) (fun j => hI.2 14 j) (ZR00 (by decide)) hP hD hS (lv_sub hl [1, 0] rfl)

