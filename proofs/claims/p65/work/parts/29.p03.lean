set_option maxRecDepth 100000 in
set_option maxHeartbeats 8000000 in
theorem sX11_readNext (l : Launch) (G : va_G) (cs : Nat → ClassId) (sd : Nat → Nat × Nat) (h : Nat) (q : Nat → Nat) (F : Nat → Int32) (A : Nat → Nat → Int32) (D : Int64) (B : Nat → Nat → Int64) (hI : IM F A) (hPI : PIk (F 8) (F 9) (F 10)) (hWG : WGk (F 12) (A 14)) : ∀ sz : Nat, Met l yX11_readNext (wk yX11_readNext cX11_readNext 2 none) (rmk 9 0 0) (PreDS SRM sd G (TY cs) [.ref h] (mS cs h q F A D B) sz) ((QDw G (fun u : Int32 × Int32 × Int32 × Int32 × Int32 × Int32 × (Nat → Int32) => ((0 : Int) ≤ u.1.toInt ∧ u.1.toInt ≤ 900) ∧ ((0 : Int) ≤ u.2.1.toInt ∧ u.2.1.toInt ≤ 900) ∧ ((0 : Int) ≤ u.2.2.1.toInt ∧ u.2.2.1.toInt ≤ 4) ∧ ((0 : Int) ≤ u.2.2.2.1.toInt ∧ u.2.2.2.1.toInt ≤ 99999) ∧ ((0 : Int) ≤ u.2.2.2.2.1.toInt ∧ u.2.2.2.2.1.toInt ≤ 3) ∧ ((-1 : Int) ≤ u.2.2.2.2.2.1.toInt ∧ u.2.2.2.2.2.1.toInt ≤ 900) ∧ AI 14 u.2.2.2.2.2.2 ∧ (PIk u.1 u.2.1 u.2.2.1 ∧ (F 9).toInt ≤ u.2.1.toInt ∧ MOk u.2.2.2.2.1 (F 12) ∧ WGk u.2.2.2.2.1 u.2.2.2.2.2.2)) (fun u : Int32 × Int32 × Int32 × Int32 × Int32 × Int32 × (Nat → Int32) => (mS cs h q (upd (upd (upd (upd (upd (upd F 8 u.1) 9 u.2.1) 10 u.2.2.1) 11 u.2.2.2.1) 12 u.2.2.2.2.1) 13 u.2.2.2.2.2.1) (vA A 14 u.2.2.2.2.2.2) D B))) (va_A (mS cs h q F A D B) sz)) 0 0 (va_A (mS cs h q F A D B) sz) := by
  refine mkDS (Qc := (QDw G (fun u : Int32 × Int32 × Int32 × Int32 × Int32 × Int32 × (Nat → Int32) => ((0 : Int) ≤ u.1.toInt ∧ u.1.toInt ≤ 900) ∧ ((0 : Int) ≤ u.2.1.toInt ∧ u.2.1.toInt ≤ 900) ∧ ((0 : Int) ≤ u.2.2.1.toInt ∧ u.2.2.1.toInt ≤ 4) ∧ ((0 : Int) ≤ u.2.2.2.1.toInt ∧ u.2.2.2.1.toInt ≤ 99999) ∧ ((0 : Int) ≤ u.2.2.2.2.1.toInt ∧ u.2.2.2.2.1.toInt ≤ 3) ∧ ((-1 : Int) ≤ u.2.2.2.2.2.1.toInt ∧ u.2.2.2.2.2.1.toInt ≤ 900) ∧ AI 14 u.2.2.2.2.2.2 ∧ (PIk u.1 u.2.1 u.2.2.1 ∧ (F 9).toInt ≤ u.2.1.toInt ∧ MOk u.2.2.2.2.1 (F 12) ∧ WGk u.2.2.2.2.1 u.2.2.2.2.2.2)) (fun u : Int32 × Int32 × Int32 × Int32 × Int32 × Int32 × (Nat → Int32) => (mS cs h q (upd (upd (upd (upd (upd (upd F 8 u.1) 9 u.2.1) 10 u.2.2.1) 11 u.2.2.2.1) 12 u.2.2.2.2.1) 13 u.2.2.2.2.2.1) (vA A 14 u.2.2.2.2.2.2) D B)))) (by decide) (by simp [lg_sl, Value.category]) ?_
  intro p e s m args below meth c ls A0 hx hb hml hr hlk hown hmn ht hK hP hD hS hA hQ hl
  have hl : lv_has ls 2 [(0, .ref h)] := hl
  refine lv_aload_n hx hb dX11_readNext_0 rfl (lv_at hl 0 rfl) ?_
  have hz1 : vk_R "CallForBrownModel" 189 "room" (sd 5).1 s := hQ.2.2.2 ("CallForBrownModel", 189, "room", 5) (List.mem_of_getElem? (i := 5) rfl)
  refine va_ldcS hx hb hown hz1 dX11_readNext_1 ?_
  refine behR (runVPS (As := [.ref ((sd 5).1)]) (rest := []) ⟨hx, hb, hml, hown, ht⟩ (sX11_is l G cs sd h q F A D B hI 5 (by decide) ) okV_RX11_146 ⟨by decide, by decide⟩ hK hP hQ hS hA [0, 1, 2, 3, 4, 5, 6, 7, 8, 9, 10, 11, 12, 13, 14, 15, 16, 17, 18, 19] rfl 0 rfl rfl hl.1 rfl (Nat.le_of_ble_eq_true rfl) dX11_readNext_3 ⟨by decide, by decide⟩) hP hS hA (fun r2 H locs hr2 hP hS => ?_)
  have hr2 : ISP r2 (F 12) (F 8) (F 9) (F 10) (A 4) 5 ∧ (0 : Int) ≤ r2.toInt ∧ r2.toInt ≤ 1 := hr2
  have B41 : ∀ (s41_0 : Int32) (H : Heap) (locs : List Loc) (ls : Array Slot), (0 : Int) ≤ s41_0.toInt ∧ s41_0.toInt ≤ 1 → va_P G vwCl (mS cs h q F A D B) H → va_D A0 (mS cs h q F A D B) → va_S A0 s.heap H locs → lv_has ls 2 [(0, .ref h)] → W p l e (rmk 9 0 0) s m args below meth c H locs 0 0 (MQ below ((QDw G (fun u : Int32 × Int32 × Int32 × Int32 × Int32 × Int32 × (Nat → Int32) => ((0 : Int) ≤ u.1.toInt ∧ u.1.toInt ≤ 900) ∧ ((0 : Int) ≤ u.2.1.toInt ∧ u.2.1.toInt ≤ 900) ∧ ((0 : Int) ≤ u.2.2.1.toInt ∧ u.2.2.1.toInt ≤ 4) ∧ ((0 : Int) ≤ u.2.2.2.1.toInt ∧ u.2.2.2.1.toInt ≤ 99999) ∧ ((0 : Int) ≤ u.2.2.2.2.1.toInt ∧ u.2.2.2.2.1.toInt ≤ 3) ∧ ((-1 : Int) ≤ u.2.2.2.2.2.1.toInt ∧ u.2.2.2.2.2.1.toInt ≤ 900) ∧ AI 14 u.2.2.2.2.2.2 ∧ (PIk u.1 u.2.1 u.2.2.1 ∧ (F 9).toInt ≤ u.2.1.toInt ∧ MOk u.2.2.2.2.1 (F 12) ∧ WGk u.2.2.2.2.1 u.2.2.2.2.2.2)) (fun u : Int32 × Int32 × Int32 × Int32 × Int32 × Int32 × (Nat → Int32) => (mS cs h q (upd (upd (upd (upd (upd (upd F 8 u.1) 9 u.2.1) 10 u.2.2.1) 11 u.2.2.2.1) 12 u.2.2.2.2.1) 13 u.2.2.2.2.2.1) (vA A 14 u.2.2.2.2.2.2) D B))) A0) args s 0 0 A0) (F0 m 41 ls [.int s41_0]) := by
    intro s41_0 H locs ls hs41_0 hP hD hS hl
    refine lv_istore_n (lv' := [(1, .int s41_0), (0, .ref h)]) hx hb dX11_readNext_41 rfl hl (by decide) rfl (fun ls hl => ?_)
    refine lv_iload_n hx hb dX11_readNext_42 rfl (lv_at hl 0 rfl) ?_
    have B51 : ∀ (f12_51 : Int32) (f13_51 : Int32) (H : Heap) (locs : List Loc) (ls : Array Slot), (0 : Int) ≤ f12_51.toInt ∧ f12_51.toInt ≤ 3 → (-1 : Int) ≤ f13_51.toInt ∧ f13_51.toInt ≤ 900 → (MOk f12_51 (F 12)) → va_P G vwCl (mS cs h q (upd (upd F 12 f12_51) 13 f13_51) A D B) H → va_D A0 (mS cs h q (upd (upd F 12 f12_51) 13 f13_51) A D B) → va_S A0 s.heap H locs → lv_has ls 2 [(0, .ref h)] → W p l e (rmk 9 0 0) s m args below meth c H locs 0 0 (MQ below ((QDw G (fun u : Int32 × Int32 × Int32 × Int32 × Int32 × Int32 × (Nat → Int32) => ((0 : Int) ≤ u.1.toInt ∧ u.1.toInt ≤ 900) ∧ ((0 : Int) ≤ u.2.1.toInt ∧ u.2.1.toInt ≤ 900) ∧ ((0 : Int) ≤ u.2.2.1.toInt ∧ u.2.2.1.toInt ≤ 4) ∧ ((0 : Int) ≤ u.2.2.2.1.toInt ∧ u.2.2.2.1.toInt ≤ 99999) ∧ ((0 : Int) ≤ u.2.2.2.2.1.toInt ∧ u.2.2.2.2.1.toInt ≤ 3) ∧ ((-1 : Int) ≤ u.2.2.2.2.2.1.toInt ∧ u.2.2.2.2.2.1.toInt ≤ 900) ∧ AI 14 u.2.2.2.2.2.2 ∧ (PIk u.1 u.2.1 u.2.2.1 ∧ (F 9).toInt ≤ u.2.1.toInt ∧ MOk u.2.2.2.2.1 (F 12) ∧ WGk u.2.2.2.2.1 u.2.2.2.2.2.2)) (fun u : Int32 × Int32 × Int32 × Int32 × Int32 × Int32 × (Nat → Int32) => (mS cs h q (upd (upd (upd (upd (upd (upd F 8 u.1) 9 u.2.1) 10 u.2.2.1) 11 u.2.2.2.1) 12 u.2.2.2.2.1) 13 u.2.2.2.2.2.1) (vA A 14 u.2.2.2.2.2.2) D B))) A0) args s 0 0 A0) (F0 m 51 ls []) := by
      intro f12_51 f13_51 H locs ls hf12_51 hf13_51 h51 hP hD hS hl
      refine lv_aload_n hx hb dX11_readNext_51 rfl (lv_at hl 0 rfl) ?_
      have hz26001 : vk_R "CallForBrownModel" 189 "room" (sd 5).1 s := hQ.2.2.2 ("CallForBrownModel", 189, "room", 5) (List.mem_of_getElem? (i := 5) rfl)
      refine va_ldcS hx hb hown hz26001 dX11_readNext_52 ?_
      refine behR (runVPS (As := [.ref ((sd 5).1)]) (rest := []) ⟨hx, hb, hml, hown, ht⟩ (sX11_is l G cs sd h q (upd (upd F 12 f12_51) 13 f13_51) A D B (IM_put (k := 13) (IM_put (k := 12) hI (show (0 : Int) ≤ f12_51.toInt ∧ f12_51.toInt ≤ 3 by omega)) (show (-1 : Int) ≤ f13_51.toInt ∧ f13_51.toInt ≤ 900 by omega)) 5 (by decide) ) okV_RX11_146 ⟨by decide, by decide⟩ hK hP hQ hS hA [0, 1, 2, 3, 4, 5, 6, 7, 8, 9, 10, 11, 12, 13, 14, 15, 16, 17, 18, 19] rfl 0 rfl rfl hl.1 rfl (Nat.le_of_ble_eq_true rfl) dX11_readNext_54 ⟨by decide, by decide⟩) hP hS hA (fun r26002 H locs hr26002 hP hS => ?_)
      have hr26002 : ISP r26002 f12_51 (F 8) (F 9) (F 10) (A 4) 5 ∧ (0 : Int) ≤ r26002.toInt ∧ r26002.toInt ≤ 1 := hr26002
      have B96 : ∀ (f12_96 : Int32) (f13_96 : Int32) (H : Heap) (locs : List Loc) (ls : Array Slot), (0 : Int) ≤ f12_96.toInt ∧ f12_96.toInt ≤ 3 → (-1 : Int) ≤ f13_96.toInt ∧ f13_96.toInt ≤ 900 → (MOk f12_96 (F 12)) → (NOT7 f12_96 (F 8) (F 9) (F 10) (A 4) 5 (A 14 4) 7) → (NOT7 f12_96 (F 8) (F 9) (F 10) (A 4) 10 (A 14 5) 6) → va_P G vwCl (mS cs h q (upd (upd F 12 f12_96) 13 f13_96) A D B) H → va_D A0 (mS cs h q (upd (upd F 12 f12_96) 13 f13_96) A D B) → va_S A0 s.heap H locs → lv_has ls 2 [(0, .ref h)] → W p l e (rmk 9 0 0) s m args below meth c H locs 0 0 (MQ below ((QDw G (fun u : Int32 × Int32 × Int32 × Int32 × Int32 × Int32 × (Nat → Int32) => ((0 : Int) ≤ u.1.toInt ∧ u.1.toInt ≤ 900) ∧ ((0 : Int) ≤ u.2.1.toInt ∧ u.2.1.toInt ≤ 900) ∧ ((0 : Int) ≤ u.2.2.1.toInt ∧ u.2.2.1.toInt ≤ 4) ∧ ((0 : Int) ≤ u.2.2.2.1.toInt ∧ u.2.2.2.1.toInt ≤ 99999) ∧ ((0 : Int) ≤ u.2.2.2.2.1.toInt ∧ u.2.2.2.2.1.toInt ≤ 3) ∧ ((-1 : Int) ≤ u.2.2.2.2.2.1.toInt ∧ u.2.2.2.2.2.1.toInt ≤ 900) ∧ AI 14 u.2.2.2.2.2.2 ∧ (PIk u.1 u.2.1 u.2.2.1 ∧ (F 9).toInt ≤ u.2.1.toInt ∧ MOk u.2.2.2.2.1 (F 12) ∧ WGk u.2.2.2.2.1 u.2.2.2.2.2.2)) (fun u : Int32 × Int32 × Int32 × Int32 × Int32 × Int32 × (Nat → Int32) => (mS cs h q (upd (upd (upd (upd (upd (upd F 8 u.1) 9 u.2.1) 10 u.2.2.1) 11 u.2.2.2.1) 12 u.2.2.2.2.1) 13 u.2.2.2.2.2.1) (vA A 14 u.2.2.2.2.2.2) D B))) A0) args s 0 0 A0) (F0 m 96 ls []) := by
        intro f12_96 f13_96 H locs ls hf12_96 hf13_96 h96 hrm hmn hP hD hS hl
        refine lv_aload_n hx hb dX11_readNext_96 rfl (lv_at hl 0 rfl) ?_
        refine behR (runVP (As := []) (rest := []) ⟨hx, hb, hml, hown, ht⟩ (sX11_good l G cs h q (upd (upd F 12 f12_96) 13 f13_96) A D B (IM_put (k := 13) (IM_put (k := 12) hI (show (0 : Int) ≤ f12_96.toInt ∧ f12_96.toInt ≤ 3 by omega)) (show (-1 : Int) ≤ f13_96.toInt ∧ f13_96.toInt ≤ 900 by omega))  ) okV_RX11_133 ⟨by decide, by decide⟩ hK hP [0, 1, 2, 3, 4, 5, 6, 7, 8, 9, 10, 11, 12, 13, 14, 15, 16, 17, 18, 19] rfl 0 rfl rfl hl.1 rfl (Nat.le_of_ble_eq_true rfl) dX11_readNext_97 ⟨by decide, by decide⟩) hP hS hA (fun r49001 H locs hr49001 hP hS => ?_)
        have hr49001 : (r49001.toInt = 1 ∧ f12_96.toInt = 0) ∨ (r49001.toInt = 0 ∧ ¬ f12_96.toInt = 0) := hr49001
        refine lv_if_ne (tgt := 104) hx hb dX11_readNext_100 (by decide) (fun c49002 => ?_) (fun c49002 => ?_)
        · have zc49002 := neK rfl (show (0 : Int32).toInt = 0 by decide) c49002
          refine lv_aload_n hx hb dX11_readNext_104 rfl (lv_at hl 0 rfl) ?_
          have hz49003 : vk_R "CallForBrownModel" 189 "room" (sd 5).1 s := hQ.2.2.2 ("CallForBrownModel", 189, "room", 5) (List.mem_of_getElem? (i := 5) rfl)
          refine va_ldcS hx hb hown hz49003 dX11_readNext_105 ?_
          refine behDi (wr := []) (runVDS (As := [.ref ((sd 5).1)]) (rest := []) ⟨hx, hb, hml, hown, ht⟩ (sX11_takes l G cs sd h q (upd (upd F 12 f12_96) 13 f13_96) A D B (IM_put (k := 13) (IM_put (k := 12) hI (show (0 : Int) ≤ f12_96.toInt ∧ f12_96.toInt ≤ 3 by omega)) (show (-1 : Int) ≤ f13_96.toInt ∧ f13_96.toInt ≤ 900 by omega)) 5 (by decide)  (show PIk (F 8) (F 9) (F 10) from hPI)) okV_RX11_153 ⟨by decide, by decide⟩ hK hP hD hQ hS hA [0, 1, 2, 3, 4, 5, 6, 7, 8, 9, 10, 11, 12, 13, 14, 15, 16, 17, 18, 19] rfl (by decide) rfl 0 rfl rfl hl.1 rfl (Nat.le_of_ble_eq_true rfl) dX11_readNext_107 ⟨(Nat.le_of_ble_eq_true rfl), (Nat.le_of_ble_eq_true rfl)⟩) hP hD hS hA [0, 1, 2, 3, 4, 5, 6, 7, 8, 9, 10, 11, 12, 13, 14, 15, 16, 17, 18, 19] [] rfl rfl (by decide) (by decide) (fun r9 u H locs hu hP hD hS => ?_)
          obtain ⟨x49004, x49005, x49006, x49007⟩ := u
          obtain ⟨r49008, rfl⟩ : ∃ z, z = r9 := ⟨_, rfl⟩
          obtain ⟨hbx49004, hbx49005, hbx49006, hbx49007, hr49008⟩ := hu
          have hbx49004 : (0 : Int) ≤ x49004.toInt ∧ x49004.toInt ≤ 900 := hbx49004
          have hbx49005 : (0 : Int) ≤ x49005.toInt ∧ x49005.toInt ≤ 900 := hbx49005
          have hbx49006 : (0 : Int) ≤ x49006.toInt ∧ x49006.toInt ≤ 4 := hbx49006
          have hbx49007 : (0 : Int) ≤ x49007.toInt ∧ x49007.toInt ≤ 99999 := hbx49007
          have hr49008 : ((0 : Int) ≤ r49008.toInt ∧ r49008.toInt ≤ 1 ∧ (F 9).toInt ≤ x49005.toInt) ∧ (r49008.toInt = 0 ∨ (f12_96.toInt = 0 ∧ (F 9).toInt < x49005.toInt)) ∧ PIk x49004 x49005 x49006 ∧ TKP r49008 f12_96 (F 8) (F 9) (F 10) x49004 x49005 x49006 (A 4) 5 := hr49008
          have hP : va_P G vwCl (mS cs h q (upd (upd (upd (upd (upd (upd F 8 x49004) 9 x49005) 10 x49006) 11 x49007) 12 f12_96) 13 f13_96) A D B) H := hP
          have hD : va_D A0 (mS cs h q (upd (upd (upd (upd (upd (upd F 8 x49004) 9 x49005) 10 x49006) 11 x49007) 12 f12_96) 13 f13_96) A D B) := hD
          refine lv_if_eq (tgt := 120) hx hb dX11_readNext_110 (by decide) (fun c49009 => ?_) (fun c49009 => ?_)
          · have zc49009 := eqK rfl (show (0 : Int32).toInt = 0 by decide) c49009
            refine lv_aload_n hx hb dX11_readNext_120 rfl (lv_at hl 0 rfl) ?_
            have hz49010 : vk_R "CallForBrownModel" 191 "door" (sd 9).1 s := hQ.2.2.2 ("CallForBrownModel", 191, "door", 9) (List.mem_of_getElem? (i := 6) rfl)
            refine va_ldcS hx hb hown hz49010 dX11_readNext_121 ?_
            refine behDi (wr := []) (runVDS (As := [.ref ((sd 9).1)]) (rest := []) ⟨hx, hb, hml, hown, ht⟩ (sX11_takes l G cs sd h q (upd (upd (upd (upd (upd (upd F 8 x49004) 9 x49005) 10 x49006) 11 x49007) 12 f12_96) 13 f13_96) A D B (IM_put (k := 13) (IM_put (k := 12) (IM_put (k := 11) (IM_put (k := 10) (IM_put (k := 9) (IM_put (k := 8) hI (show (0 : Int) ≤ x49004.toInt ∧ x49004.toInt ≤ 900 by omega)) (show (0 : Int) ≤ x49005.toInt ∧ x49005.toInt ≤ 900 by omega)) (show (0 : Int) ≤ x49006.toInt ∧ x49006.toInt ≤ 4 by omega)) (show (0 : Int) ≤ x49007.toInt ∧ x49007.toInt ≤ 99999 by omega)) (show (0 : Int) ≤ f12_96.toInt ∧ f12_96.toInt ≤ 3 by omega)) (show (-1 : Int) ≤ f13_96.toInt ∧ f13_96.toInt ≤ 900 by omega)) 9 (by decide)  (show PIk x49004 x49005 x49006 from hr49008.2.2.1)) okV_RX11_153 ⟨by decide, by decide⟩ hK hP hD hQ hS hA [0, 1, 2, 3, 4, 5, 6, 7, 8, 9, 10, 11, 12, 13, 14, 15, 16, 17, 18, 19] rfl (by decide) rfl 0 rfl rfl hl.1 rfl (Nat.le_of_ble_eq_true rfl) dX11_readNext_123 ⟨(Nat.le_of_ble_eq_true rfl), (Nat.le_of_ble_eq_true rfl)⟩) hP hD hS hA [0, 1, 2, 3, 4, 5, 6, 7, 8, 9, 10, 11, 12, 13, 14, 15, 16, 17, 18, 19] [] rfl rfl (by decide) (by decide) (fun r9 u H locs hu hP hD hS => ?_)
            obtain ⟨x49011, x49012, x49013, x49014⟩ := u
            obtain ⟨r49015, rfl⟩ : ∃ z, z = r9 := ⟨_, rfl⟩
            obtain ⟨hbx49011, hbx49012, hbx49013, hbx49014, hr49015⟩ := hu
            have hbx49011 : (0 : Int) ≤ x49011.toInt ∧ x49011.toInt ≤ 900 := hbx49011
            have hbx49012 : (0 : Int) ≤ x49012.toInt ∧ x49012.toInt ≤ 900 := hbx49012
            have hbx49013 : (0 : Int) ≤ x49013.toInt ∧ x49013.toInt ≤ 4 := hbx49013
            have hbx49014 : (0 : Int) ≤ x49014.toInt ∧ x49014.toInt ≤ 99999 := hbx49014
            have hr49015 : ((0 : Int) ≤ r49015.toInt ∧ r49015.toInt ≤ 1 ∧ x49005.toInt ≤ x49012.toInt) ∧ (r49015.toInt = 0 ∨ (f12_96.toInt = 0 ∧ x49005.toInt < x49012.toInt)) ∧ PIk x49011 x49012 x49013 ∧ TKP r49015 f12_96 x49004 x49005 x49006 x49011 x49012 x49013 (A 4) 9 := hr49015
            have hP : va_P G vwCl (mS cs h q (upd (upd (upd (upd (upd (upd F 8 x49011) 9 x49012) 10 x49013) 11 x49014) 12 f12_96) 13 f13_96) A D B) H := hP
            have hD : va_D A0 (mS cs h q (upd (upd (upd (upd (upd (upd F 8 x49011) 9 x49012) 10 x49013) 11 x49014) 12 f12_96) 13 f13_96) A D B) := hD
            refine lv_if_eq (tgt := 136) hx hb dX11_readNext_126 (by decide) (fun c49016 => ?_) (fun c49016 => ?_)
            · have zc49016 := eqK rfl (show (0 : Int32).toInt = 0 by decide) c49016
              refine lv_aload_n hx hb dX11_readNext_136 rfl (lv_at hl 0 rfl) ?_
              have hz49017 : vk_R "CallForBrownModel" 193 "man" (sd 10).1 s := hQ.2.2.2 ("CallForBrownModel", 193, "man", 10) (List.mem_of_getElem? (i := 7) rfl)
              refine va_ldcS hx hb hown hz49017 dX11_readNext_137 ?_
              refine behDi (wr := []) (runVDS (As := [.ref ((sd 10).1)]) (rest := []) ⟨hx, hb, hml, hown, ht⟩ (sX11_takes l G cs sd h q (upd (upd (upd (upd (upd (upd F 8 x49011) 9 x49012) 10 x49013) 11 x49014) 12 f12_96) 13 f13_96) A D B (IM_put (k := 13) (IM_put (k := 12) (IM_put (k := 11) (IM_put (k := 10) (IM_put (k := 9) (IM_put (k := 8) hI (show (0 : Int) ≤ x49011.toInt ∧ x49011.toInt ≤ 900 by omega)) (show (0 : Int) ≤ x49012.toInt ∧ x49012.toInt ≤ 900 by omega)) (show (0 : Int) ≤ x49013.toInt ∧ x49013.toInt ≤ 4 by omega)) (show (0 : Int) ≤ x49014.toInt ∧ x49014.toInt ≤ 99999 by omega)) (show (0 : Int) ≤ f12_96.toInt ∧ f12_96.toInt ≤ 3 by omega)) (show (-1 : Int) ≤ f13_96.toInt ∧ f13_96.toInt ≤ 900 by omega)) 10 (by decide)  (show PIk x49011 x49012 x49013 from hr49015.2.2.1)) okV_RX11_153 ⟨by decide, by decide⟩ hK hP hD hQ hS hA [0, 1, 2, 3, 4, 5, 6, 7, 8, 9, 10, 11, 12, 13, 14, 15, 16, 17, 18, 19] rfl (by decide) rfl 0 rfl rfl hl.1 rfl (Nat.le_of_ble_eq_true rfl) dX11_readNext_139 ⟨(Nat.le_of_ble_eq_true rfl), (Nat.le_of_ble_eq_true rfl)⟩) hP hD hS hA [0, 1, 2, 3, 4, 5, 6, 7, 8, 9, 10, 11, 12, 13, 14, 15, 16, 17, 18, 19] [] rfl rfl (by decide) (by decide) (fun r9 u H locs hu hP hD hS => ?_)
              obtain ⟨x49018, x49019, x49020, x49021⟩ := u
              obtain ⟨r49022, rfl⟩ : ∃ z, z = r9 := ⟨_, rfl⟩
              obtain ⟨hbx49018, hbx49019, hbx49020, hbx49021, hr49022⟩ := hu
              have hbx49018 : (0 : Int) ≤ x49018.toInt ∧ x49018.toInt ≤ 900 := hbx49018
              have hbx49019 : (0 : Int) ≤ x49019.toInt ∧ x49019.toInt ≤ 900 := hbx49019
              have hbx49020 : (0 : Int) ≤ x49020.toInt ∧ x49020.toInt ≤ 4 := hbx49020
              have hbx49021 : (0 : Int) ≤ x49021.toInt ∧ x49021.toInt ≤ 99999 := hbx49021
              have hr49022 : ((0 : Int) ≤ r49022.toInt ∧ r49022.toInt ≤ 1 ∧ x49012.toInt ≤ x49019.toInt) ∧ (r49022.toInt = 0 ∨ (f12_96.toInt = 0 ∧ x49012.toInt < x49019.toInt)) ∧ PIk x49018 x49019 x49020 ∧ TKP r49022 f12_96 x49011 x49012 x49013 x49018 x49019 x49020 (A 4) 10 := hr49022
              have hP : va_P G vwCl (mS cs h q (upd (upd (upd (upd (upd (upd F 8 x49018) 9 x49019) 10 x49020) 11 x49021) 12 f12_96) 13 f13_96) A D B) H := hP
              have hD : va_D A0 (mS cs h q (upd (upd (upd (upd (upd (upd F 8 x49018) 9 x49019) 10 x49020) 11 x49021) 12 f12_96) 13 f13_96) A D B) := hD
              refine lv_if_eq (tgt := 152) hx hb dX11_readNext_142 (by decide) (fun c49023 => ?_) (fun c49023 => ?_)
              · have zc49023 := eqK rfl (show (0 : Int32).toInt = 0 by decide) c49023
                have hp152 : (x49020.toInt = 0 ∨ x49019.toInt < x49018.toInt) ∧ x49019.toInt ≤ x49018.toInt := hr49022.2.2.1
                refine lv_aload_n hx hb dX11_readNext_152 rfl (lv_at hl 0 rfl) ?_
                refine behDw (wr := []) (runVD (As := []) (rest := []) ⟨hx, hb, hml, hown, ht⟩ (sX11_advance l G cs h q (upd (upd (upd (upd (upd (upd F 8 x49018) 9 x49019) 10 x49020) 11 x49021) 12 f12_96) 13 f13_96) A D B (IM_put (k := 13) (IM_put (k := 12) (IM_put (k := 11) (IM_put (k := 10) (IM_put (k := 9) (IM_put (k := 8) hI (show (0 : Int) ≤ x49018.toInt ∧ x49018.toInt ≤ 900 by omega)) (show (0 : Int) ≤ x49019.toInt ∧ x49019.toInt ≤ 900 by omega)) (show (0 : Int) ≤ x49020.toInt ∧ x49020.toInt ≤ 4 by omega)) (show (0 : Int) ≤ x49021.toInt ∧ x49021.toInt ≤ 99999 by omega)) (show (0 : Int) ≤ f12_96.toInt ∧ f12_96.toInt ≤ 3 by omega)) (show (-1 : Int) ≤ f13_96.toInt ∧ f13_96.toInt ≤ 900 by omega))  ) okV_RX11_150 ⟨by decide, by decide⟩ hK hP hD [0, 1, 2, 3, 4, 5, 6, 7, 8, 9, 10, 11, 12, 13, 14, 15, 16, 17, 18, 19] rfl (by decide) rfl 0 rfl rfl hl.1 rfl (Nat.le_of_ble_eq_true rfl) dX11_readNext_153 ⟨(Nat.le_of_ble_eq_true rfl), (Nat.le_of_ble_eq_true rfl)⟩) hP hD hS hA [0, 1, 2, 3, 4, 5, 6, 7, 8, 9, 10, 11, 12, 13, 14, 15, 16, 17, 18, 19] [] rfl rfl (by decide) (by decide) (fun u H locs hu hP hD hS => ?_)
                obtain ⟨x49024, x49025, x49026, x49027⟩ := u
                obtain ⟨hbx49024, hbx49025, hbx49026, hbx49027, hr49028⟩ := hu
                have hbx49024 : (0 : Int) ≤ x49024.toInt ∧ x49024.toInt ≤ 900 := hbx49024
                have hbx49025 : (0 : Int) ≤ x49025.toInt ∧ x49025.toInt ≤ 900 := hbx49025
                have hbx49026 : (0 : Int) ≤ x49026.toInt ∧ x49026.toInt ≤ 4 := hbx49026
                have hbx49027 : (0 : Int) ≤ x49027.toInt ∧ x49027.toInt ≤ 99999 := hbx49027
                have hr49028 : x49018.toInt ≤ x49025.toInt ∧ PIk x49024 x49025 x49026 := hr49028
                have hP : va_P G vwCl (mS cs h q (upd (upd (upd (upd (upd (upd F 8 x49024) 9 x49025) 10 x49026) 11 x49027) 12 f12_96) 13 f13_96) A D B) H := hP
                have hD : va_D A0 (mS cs h q (upd (upd (upd (upd (upd (upd F 8 x49024) 9 x49025) 10 x49026) 11 x49027) 12 f12_96) 13 f13_96) A D B) := hD
                refine lv_aload_n hx hb dX11_readNext_156 rfl (lv_at hl 0 rfl) ?_
                refine behDw (wr := []) (runVDS (As := []) (rest := []) ⟨hx, hb, hml, hown, ht⟩ (sX11_readSlate l G cs sd h q (upd (upd (upd (upd (upd (upd F 8 x49024) 9 x49025) 10 x49026) 11 x49027) 12 f12_96) 13 f13_96) A D B (IM_put (k := 13) (IM_put (k := 12) (IM_put (k := 11) (IM_put (k := 10) (IM_put (k := 9) (IM_put (k := 8) hI (show (0 : Int) ≤ x49024.toInt ∧ x49024.toInt ≤ 900 by omega)) (show (0 : Int) ≤ x49025.toInt ∧ x49025.toInt ≤ 900 by omega)) (show (0 : Int) ≤ x49026.toInt ∧ x49026.toInt ≤ 4 by omega)) (show (0 : Int) ≤ x49027.toInt ∧ x49027.toInt ≤ 99999 by omega)) (show (0 : Int) ≤ f12_96.toInt ∧ f12_96.toInt ≤ 3 by omega)) (show (-1 : Int) ≤ f13_96.toInt ∧ f13_96.toInt ≤ 900 by omega))   (show PIk x49024 x49025 x49026 from hr49028.2) (show WGk f12_96 (A 14) from (fun q9 => (hWG (h96 q9))))) okV_RX11_206 ⟨by decide, by decide⟩ hK hP hD hQ hS hA [0, 1, 2, 3, 4, 5, 6, 7, 8, 9, 10, 11, 12, 13, 14, 15, 16, 17, 18, 19] rfl (by decide) rfl 0 rfl rfl hl.1 rfl (Nat.le_of_ble_eq_true rfl) dX11_readNext_157 ⟨(Nat.le_of_ble_eq_true rfl), (Nat.le_of_ble_eq_true rfl)⟩) hP hD hS hA [0, 1, 2, 3, 4, 5, 6, 7, 8, 9, 10, 11, 12, 13, 14, 15, 16, 17, 18, 19] [] rfl rfl (by decide) (by decide) (fun u H locs hu hP hD hS => ?_)
                obtain ⟨x49029, x49030, x49031, x49032, x49033, x49034, g49035⟩ := u
                obtain ⟨hbx49029, hbx49030, hbx49031, hbx49032, hbx49033, hbx49034, hg49035, hr49036⟩ := hu
                have hbx49029 : (0 : Int) ≤ x49029.toInt ∧ x49029.toInt ≤ 900 := hbx49029
                have hbx49030 : (0 : Int) ≤ x49030.toInt ∧ x49030.toInt ≤ 900 := hbx49030
                have hbx49031 : (0 : Int) ≤ x49031.toInt ∧ x49031.toInt ≤ 4 := hbx49031
                have hbx49032 : (0 : Int) ≤ x49032.toInt ∧ x49032.toInt ≤ 99999 := hbx49032
                have hbx49033 : (0 : Int) ≤ x49033.toInt ∧ x49033.toInt ≤ 3 := hbx49033
                have hbx49034 : (-1 : Int) ≤ x49034.toInt ∧ x49034.toInt ≤ 900 := hbx49034
                have hr49036 : PIk x49029 x49030 x49031 ∧ x49025.toInt ≤ x49030.toInt ∧ MOk x49033 f12_96 ∧ WGk x49033 g49035 := hr49036
                have hP : va_P G vwCl (mS cs h q (upd (upd (upd (upd (upd (upd F 8 x49029) 9 x49030) 10 x49031) 11 x49032) 12 x49033) 13 x49034) (vA A 14 g49035) D B) H := hP
                have hD : va_D A0 (mS cs h q (upd (upd (upd (upd (upd (upd F 8 x49029) 9 x49030) 10 x49031) 11 x49032) 12 x49033) 13 x49034) (vA A 14 g49035) D B) := hD
                exact retDw (x49029, x49030, x49031, x49032, x49033, x49034, g49035) hx hb hr hlk hP hD hS dX11_readNext_160 (⟨show (0 : Int) ≤ x49029.toInt ∧ x49029.toInt ≤ 900 by omega, show (0 : Int) ≤ x49030.toInt ∧ x49030.toInt ≤ 900 by omega, show (0 : Int) ≤ x49031.toInt ∧ x49031.toInt ≤ 4 by omega, show (0 : Int) ≤ x49032.toInt ∧ x49032.toInt ≤ 99999 by omega, show (0 : Int) ≤ x49033.toInt ∧ x49033.toInt ≤ 3 by omega, show (-1 : Int) ≤ x49034.toInt ∧ x49034.toInt ≤ 900 by omega, hg49035, ⟨hr49036.1, (show (F 9).toInt ≤ x49030.toInt by omega), fun q9 => (h96 (hr49036.2.2.1 q9)), (fun q9 => (hr49036.2.2.2 q9))⟩⟩) (Nat.le_of_ble_eq_true rfl) (Nat.le_of_ble_eq_true rfl)
              · have zc49023 := neK rfl (show (0 : Int32).toInt = 0 by decide) c49023
                have hb15 : (0 : Int) ≤ (A 14 5).toInt ∧ (A 14 5).toInt ≤ 6 := hI.2 14 5
                have e91 := TKP0 hr49008.2.2.2 (by omega)
                have e92 := TKP0 hr49015.2.2.2 (by omega)
                have e93 := (TKP1 hr49022.2.2.2 (by omega)).2
                rw [e92.1, e92.2.1, e92.2.2, e91.1, e91.2.1, e91.2.2] at e93
                have hx6 := hmn (by omega) e93
                refine lv_aload_n hx hb dX11_readNext_145 rfl (lv_at hl 0 rfl) ?_
                refine behDw (wr := []) (runVDS (As := []) (rest := []) ⟨hx, hb, hml, hown, ht⟩ (sX11_readMan l G cs sd h q (upd (upd (upd (upd (upd (upd F 8 x49018) 9 x49019) 10 x49020) 11 x49021) 12 f12_96) 13 f13_96) A D B (IM_put (k := 13) (IM_put (k := 12) (IM_put (k := 11) (IM_put (k := 10) (IM_put (k := 9) (IM_put (k := 8) hI (show (0 : Int) ≤ x49018.toInt ∧ x49018.toInt ≤ 900 by omega)) (show (0 : Int) ≤ x49019.toInt ∧ x49019.toInt ≤ 900 by omega)) (show (0 : Int) ≤ x49020.toInt ∧ x49020.toInt ≤ 4 by omega)) (show (0 : Int) ≤ x49021.toInt ∧ x49021.toInt ≤ 99999 by omega)) (show (0 : Int) ≤ f12_96.toInt ∧ f12_96.toInt ≤ 3 by omega)) (show (-1 : Int) ≤ f13_96.toInt ∧ f13_96.toInt ≤ 900 by omega))   (show PIk x49018 x49019 x49020 from hr49022.2.2.1) (show ((A 14) 5).toInt ≤ 5 from (by omega)) (show WGk f12_96 (A 14) from (fun q9 => (hWG (h96 q9))))) okV_RX11_203 ⟨by decide, by decide⟩ hK hP hD hQ hS hA [0, 1, 2, 3, 4, 5, 6, 7, 8, 9, 10, 11, 12, 13, 14, 15, 16, 17, 18, 19] rfl (by decide) rfl 0 rfl rfl hl.1 rfl (Nat.le_of_ble_eq_true rfl) dX11_readNext_146 ⟨(Nat.le_of_ble_eq_true rfl), (Nat.le_of_ble_eq_true rfl)⟩) hP hD hS hA [0, 1, 2, 3, 4, 5, 6, 7, 8, 9, 10, 11, 12, 13, 14, 15, 16, 17, 18, 19] [] rfl rfl (by decide) (by decide) (fun u H locs hu hP hD hS => ?_)
                obtain ⟨x49037, x49038, x49039, x49040, x49041, x49042, g49043⟩ := u
                obtain ⟨hbx49037, hbx49038, hbx49039, hbx49040, hbx49041, hbx49042, hg49043, hr49044⟩ := hu
                have hbx49037 : (0 : Int) ≤ x49037.toInt ∧ x49037.toInt ≤ 900 := hbx49037
                have hbx49038 : (0 : Int) ≤ x49038.toInt ∧ x49038.toInt ≤ 900 := hbx49038
                have hbx49039 : (0 : Int) ≤ x49039.toInt ∧ x49039.toInt ≤ 4 := hbx49039
                have hbx49040 : (0 : Int) ≤ x49040.toInt ∧ x49040.toInt ≤ 99999 := hbx49040
                have hbx49041 : (0 : Int) ≤ x49041.toInt ∧ x49041.toInt ≤ 3 := hbx49041
                have hbx49042 : (-1 : Int) ≤ x49042.toInt ∧ x49042.toInt ≤ 900 := hbx49042
                have hr49044 : PIk x49037 x49038 x49039 ∧ x49019.toInt ≤ x49038.toInt ∧ MOk x49041 f12_96 ∧ WGk x49041 g49043 := hr49044
                have hP : va_P G vwCl (mS cs h q (upd (upd (upd (upd (upd (upd F 8 x49037) 9 x49038) 10 x49039) 11 x49040) 12 x49041) 13 x49042) (vA A 14 g49043) D B) H := hP
                have hD : va_D A0 (mS cs h q (upd (upd (upd (upd (upd (upd F 8 x49037) 9 x49038) 10 x49039) 11 x49040) 12 x49041) 13 x49042) (vA A 14 g49043) D B) := hD
                refine lv_goto (tgt := 160) hx hb dX11_readNext_149 (by decide) ?_
                exact retDw (x49037, x49038, x49039, x49040, x49041, x49042, g49043) hx hb hr hlk hP hD hS dX11_readNext_160 (⟨show (0 : Int) ≤ x49037.toInt ∧ x49037.toInt ≤ 900 by omega, show (0 : Int) ≤ x49038.toInt ∧ x49038.toInt ≤ 900 by omega, show (0 : Int) ≤ x49039.toInt ∧ x49039.toInt ≤ 4 by omega, show (0 : Int) ≤ x49040.toInt ∧ x49040.toInt ≤ 99999 by omega, show (0 : Int) ≤ x49041.toInt ∧ x49041.toInt ≤ 3 by omega, show (-1 : Int) ≤ x49042.toInt ∧ x49042.toInt ≤ 900 by omega, hg49043, ⟨hr49044.1, (show (F 9).toInt ≤ x49038.toInt by omega), fun q9 => (h96 (hr49044.2.2.1 q9)), (fun q9 => (hr49044.2.2.2 q9))⟩⟩) (Nat.le_of_ble_eq_true rfl) (Nat.le_of_ble_eq_true rfl)
            · have zc49016 := neK rfl (show (0 : Int32).toInt = 0 by decide) c49016
              refine lv_aload_n hx hb dX11_readNext_129 rfl (lv_at hl 0 rfl) ?_
              refine behDw (wr := []) (runVD (As := []) (rest := []) ⟨hx, hb, hml, hown, ht⟩ (sX11_readDoor l G cs h q (upd (upd (upd (upd (upd (upd F 8 x49011) 9 x49012) 10 x49013) 11 x49014) 12 f12_96) 13 f13_96) A D B (IM_put (k := 13) (IM_put (k := 12) (IM_put (k := 11) (IM_put (k := 10) (IM_put (k := 9) (IM_put (k := 8) hI (show (0 : Int) ≤ x49011.toInt ∧ x49011.toInt ≤ 900 by omega)) (show (0 : Int) ≤ x49012.toInt ∧ x49012.toInt ≤ 900 by omega)) (show (0 : Int) ≤ x49013.toInt ∧ x49013.toInt ≤ 4 by omega)) (show (0 : Int) ≤ x49014.toInt ∧ x49014.toInt ≤ 99999 by omega)) (show (0 : Int) ≤ f12_96.toInt ∧ f12_96.toInt ≤ 3 by omega)) (show (-1 : Int) ≤ f13_96.toInt ∧ f13_96.toInt ≤ 900 by omega))   (show PIk x49011 x49012 x49013 from hr49015.2.2.1) (show WGk f12_96 (A 14) from (fun q9 => (hWG (h96 q9))))) okV_RX11_200 ⟨by decide, by decide⟩ hK hP hD [0, 1, 2, 3, 4, 5, 6, 7, 8, 9, 10, 11, 12, 13, 14, 15, 16, 17, 18, 19] rfl (by decide) rfl 0 rfl rfl hl.1 rfl (Nat.le_of_ble_eq_true rfl) dX11_readNext_130 ⟨(Nat.le_of_ble_eq_true rfl), (Nat.le_of_ble_eq_true rfl)⟩) hP hD hS hA [0, 1, 2, 3, 4, 5, 6, 7, 8, 9, 10, 11, 12, 13, 14, 15, 16, 17, 18, 19] [] rfl rfl (by decide) (by decide) (fun u H locs hu hP hD hS => ?_)
              obtain ⟨x49045, x49046, x49047, x49048, x49049, x49050, g49051⟩ := u
              obtain ⟨hbx49045, hbx49046, hbx49047, hbx49048, hbx49049, hbx49050, hg49051, hr49052⟩ := hu
              have hbx49045 : (0 : Int) ≤ x49045.toInt ∧ x49045.toInt ≤ 900 := hbx49045
              have hbx49046 : (0 : Int) ≤ x49046.toInt ∧ x49046.toInt ≤ 900 := hbx49046
              have hbx49047 : (0 : Int) ≤ x49047.toInt ∧ x49047.toInt ≤ 4 := hbx49047
              have hbx49048 : (0 : Int) ≤ x49048.toInt ∧ x49048.toInt ≤ 99999 := hbx49048
              have hbx49049 : (0 : Int) ≤ x49049.toInt ∧ x49049.toInt ≤ 3 := hbx49049
              have hbx49050 : (-1 : Int) ≤ x49050.toInt ∧ x49050.toInt ≤ 900 := hbx49050
              have hr49052 : PIk x49045 x49046 x49047 ∧ x49012.toInt ≤ x49046.toInt ∧ MOk x49049 f12_96 ∧ WGk x49049 g49051 := hr49052
              have hP : va_P G vwCl (mS cs h q (upd (upd (upd (upd (upd (upd F 8 x49045) 9 x49046) 10 x49047) 11 x49048) 12 x49049) 13 x49050) (vA A 14 g49051) D B) H := hP
              have hD : va_D A0 (mS cs h q (upd (upd (upd (upd (upd (upd F 8 x49045) 9 x49046) 10 x49047) 11 x49048) 12 x49049) 13 x49050) (vA A 14 g49051) D B) := hD
              refine lv_goto (tgt := 160) hx hb dX11_readNext_133 (by decide) ?_
              exact retDw (x49045, x49046, x49047, x49048, x49049, x49050, g49051) hx hb hr hlk hP hD hS dX11_readNext_160 (⟨show (0 : Int) ≤ x49045.toInt ∧ x49045.toInt ≤ 900 by omega, show (0 : Int) ≤ x49046.toInt ∧ x49046.toInt ≤ 900 by omega, show (0 : Int) ≤ x49047.toInt ∧ x49047.toInt ≤ 4 by omega, show (0 : Int) ≤ x49048.toInt ∧ x49048.toInt ≤ 99999 by omega, show (0 : Int) ≤ x49049.toInt ∧ x49049.toInt ≤ 3 by omega, show (-1 : Int) ≤ x49050.toInt ∧ x49050.toInt ≤ 900 by omega, hg49051, ⟨hr49052.1, (show (F 9).toInt ≤ x49046.toInt by omega), fun q9 => (h96 (hr49052.2.2.1 q9)), (fun q9 => (hr49052.2.2.2 q9))⟩⟩) (Nat.le_of_ble_eq_true rfl) (Nat.le_of_ble_eq_true rfl)
          · have zc49009 := neK rfl (show (0 : Int32).toInt = 0 by decide) c49009
            have hb14 : (0 : Int) ≤ (A 14 4).toInt ∧ (A 14 4).toInt ≤ 7 := hI.2 14 4
            have hx7 := hrm (by omega) (TKP1 hr49008.2.2.2 (by omega)).2
            refine lv_aload_n hx hb dX11_readNext_113 rfl (lv_at hl 0 rfl) ?_
            refine behDw (wr := []) (runVDS (As := []) (rest := []) ⟨hx, hb, hml, hown, ht⟩ (sX11_readRoom l G cs sd h q (upd (upd (upd (upd (upd (upd F 8 x49004) 9 x49005) 10 x49006) 11 x49007) 12 f12_96) 13 f13_96) A D B (IM_put (k := 13) (IM_put (k := 12) (IM_put (k := 11) (IM_put (k := 10) (IM_put (k := 9) (IM_put (k := 8) hI (show (0 : Int) ≤ x49004.toInt ∧ x49004.toInt ≤ 900 by omega)) (show (0 : Int) ≤ x49005.toInt ∧ x49005.toInt ≤ 900 by omega)) (show (0 : Int) ≤ x49006.toInt ∧ x49006.toInt ≤ 4 by omega)) (show (0 : Int) ≤ x49007.toInt ∧ x49007.toInt ≤ 99999 by omega)) (show (0 : Int) ≤ f12_96.toInt ∧ f12_96.toInt ≤ 3 by omega)) (show (-1 : Int) ≤ f13_96.toInt ∧ f13_96.toInt ≤ 900 by omega))   (show PIk x49004 x49005 x49006 from hr49008.2.2.1) (show ((A 14) 4).toInt ≤ 6 from (by omega)) (show WGk f12_96 (A 14) from (fun q9 => (hWG (h96 q9))))) okV_RX11_197 ⟨by decide, by decide⟩ hK hP hD hQ hS hA [0, 1, 2, 3, 4, 5, 6, 7, 8, 9, 10, 11, 12, 13, 14, 15, 16, 17, 18, 19] rfl (by decide) rfl 0 rfl rfl hl.1 rfl (Nat.le_of_ble_eq_true rfl) dX11_readNext_114 ⟨(Nat.le_of_ble_eq_true rfl), (Nat.le_of_ble_eq_true rfl)⟩) hP hD hS hA [0, 1, 2, 3, 4, 5, 6, 7, 8, 9, 10, 11, 12, 13, 14, 15, 16, 17, 18, 19] [] rfl rfl (by decide) (by decide) (fun u H locs hu hP hD hS => ?_)
            obtain ⟨x49053, x49054, x49055, x49056, x49057, x49058, g49059⟩ := u
            obtain ⟨hbx49053, hbx49054, hbx49055, hbx49056, hbx49057, hbx49058, hg49059, hr49060⟩ := hu
            have hbx49053 : (0 : Int) ≤ x49053.toInt ∧ x49053.toInt ≤ 900 := hbx49053
            have hbx49054 : (0 : Int) ≤ x49054.toInt ∧ x49054.toInt ≤ 900 := hbx49054
            have hbx49055 : (0 : Int) ≤ x49055.toInt ∧ x49055.toInt ≤ 4 := hbx49055
            have hbx49056 : (0 : Int) ≤ x49056.toInt ∧ x49056.toInt ≤ 99999 := hbx49056
            have hbx49057 : (0 : Int) ≤ x49057.toInt ∧ x49057.toInt ≤ 3 := hbx49057
            have hbx49058 : (-1 : Int) ≤ x49058.toInt ∧ x49058.toInt ≤ 900 := hbx49058
            have hr49060 : PIk x49053 x49054 x49055 ∧ x49005.toInt ≤ x49054.toInt ∧ MOk x49057 f12_96 ∧ WGk x49057 g49059 := hr49060
            have hP : va_P G vwCl (mS cs h q (upd (upd (upd (upd (upd (upd F 8 x49053) 9 x49054) 10 x49055) 11 x49056) 12 x49057) 13 x49058) (vA A 14 g49059) D B) H := hP
            have hD : va_D A0 (mS cs h q (upd (upd (upd (upd (upd (upd F 8 x49053) 9 x49054) 10 x49055) 11 x49056) 12 x49057) 13 x49058) (vA A 14 g49059) D B) := hD
            refine lv_goto (tgt := 160) hx hb dX11_readNext_117 (by decide) ?_
            exact retDw (x49053, x49054, x49055, x49056, x49057, x49058, g49059) hx hb hr hlk hP hD hS dX11_readNext_160 (⟨show (0 : Int) ≤ x49053.toInt ∧ x49053.toInt ≤ 900 by omega, show (0 : Int) ≤ x49054.toInt ∧ x49054.toInt ≤ 900 by omega, show (0 : Int) ≤ x49055.toInt ∧ x49055.toInt ≤ 4 by omega, show (0 : Int) ≤ x49056.toInt ∧ x49056.toInt ≤ 99999 by omega, show (0 : Int) ≤ x49057.toInt ∧ x49057.toInt ≤ 3 by omega, show (-1 : Int) ≤ x49058.toInt ∧ x49058.toInt ≤ 900 by omega, hg49059, ⟨hr49060.1, (show (F 9).toInt ≤ x49054.toInt by omega), fun q9 => (h96 (hr49060.2.2.1 q9)), (fun q9 => (hr49060.2.2.2 q9))⟩⟩) (Nat.le_of_ble_eq_true rfl) (Nat.le_of_ble_eq_true rfl)
        · have zc49002 := eqK rfl (show (0 : Int32).toInt = 0 by decide) c49002
          exact retDw ((F 8), (F 9), (F 10), (F 11), f12_96, f13_96, (A 14)) hx hb hr hlk hP hD hS dX11_readNext_103 (⟨hI.1 8, hI.1 9, hI.1 10, hI.1 11, show (0 : Int) ≤ f12_96.toInt ∧ f12_96.toInt ≤ 3 by omega, show (-1 : Int) ≤ f13_96.toInt ∧ f13_96.toInt ≤ 900 by omega, fun j => hI.2 14 j, ⟨hPI, (show (F 9).toInt ≤ (F 9).toInt by omega), fun q9 => absurd (show f12_96.toInt = 0 from q9) (by omega), fun q9 => absurd (show f12_96.toInt = 0 from q9) (by omega)⟩⟩) (Nat.le_of_ble_eq_true rfl) (Nat.le_of_ble_eq_true rfl)
      have B91 : ∀ (H : Heap) (locs : List Loc) (ls : Array Slot), va_P G vwCl (mS cs h q (upd (upd F 12 f12_51) 13 f13_51) A D B) H → va_D A0 (mS cs h q (upd (upd F 12 f12_51) 13 f13_51) A D B) → va_S A0 s.heap H locs → lv_has ls 2 [(0, .ref h)] → W p l e (rmk 9 0 0) s m args below meth c H locs 0 0 (MQ below ((QDw G (fun u : Int32 × Int32 × Int32 × Int32 × Int32 × Int32 × (Nat → Int32) => ((0 : Int) ≤ u.1.toInt ∧ u.1.toInt ≤ 900) ∧ ((0 : Int) ≤ u.2.1.toInt ∧ u.2.1.toInt ≤ 900) ∧ ((0 : Int) ≤ u.2.2.1.toInt ∧ u.2.2.1.toInt ≤ 4) ∧ ((0 : Int) ≤ u.2.2.2.1.toInt ∧ u.2.2.2.1.toInt ≤ 99999) ∧ ((0 : Int) ≤ u.2.2.2.2.1.toInt ∧ u.2.2.2.2.1.toInt ≤ 3) ∧ ((-1 : Int) ≤ u.2.2.2.2.2.1.toInt ∧ u.2.2.2.2.2.1.toInt ≤ 900) ∧ AI 14 u.2.2.2.2.2.2 ∧ (PIk u.1 u.2.1 u.2.2.1 ∧ (F 9).toInt ≤ u.2.1.toInt ∧ MOk u.2.2.2.2.1 (F 12) ∧ WGk u.2.2.2.2.1 u.2.2.2.2.2.2)) (fun u : Int32 × Int32 × Int32 × Int32 × Int32 × Int32 × (Nat → Int32) => (mS cs h q (upd (upd (upd (upd (upd (upd F 8 u.1) 9 u.2.1) 10 u.2.2.1) 11 u.2.2.2.1) 12 u.2.2.2.2.1) 13 u.2.2.2.2.2.1) (vA A 14 u.2.2.2.2.2.2) D B))) A0) args s 0 0 A0) (F0 m 91 ls []) := by
        intro H locs ls hP hD hS hl
        refine lv_aload_n hx hb dX11_readNext_91 rfl (lv_at hl 0 rfl) ?_
        refine lv_iconst (v := 3) hx hb dX11_readNext_92 (by decide) ?_
        refine behDw (wr := []) (runVD (As := [.int 3]) (rest := []) ⟨hx, hb, hml, hown, ht⟩ (sX11_errs l G cs h q (upd (upd F 12 f12_51) 13 f13_51) A D B (IM_put (k := 13) (IM_put (k := 12) hI (show (0 : Int) ≤ f12_51.toInt ∧ f12_51.toInt ≤ 3 by omega)) (show (-1 : Int) ≤ f13_51.toInt ∧ f13_51.toInt ≤ 900 by omega)) 3 (by decide)) okV_RX11_156 ⟨by decide, by decide⟩ hK hP hD [0, 1, 2, 3, 4, 5, 6, 7, 8, 9, 10, 11, 12, 13, 14, 15, 16, 17, 18, 19] rfl (by decide) rfl 0 rfl rfl hl.1 rfl (Nat.le_of_ble_eq_true rfl) dX11_readNext_93 ⟨(Nat.le_of_ble_eq_true rfl), (Nat.le_of_ble_eq_true rfl)⟩) hP hD hS hA [0, 1, 2, 3, 4, 5, 6, 7, 8, 9, 10, 11, 12, 13, 14, 15, 16, 17, 18, 19] [] rfl rfl (by decide) (by decide) (fun u H locs hu hP hD hS => ?_)
        obtain ⟨x46001, x46002⟩ := u
        have kk46004 : (3 : Int32).toInt = 3 := by decide
        obtain ⟨hbx46001, hbx46002, hr46003⟩ := hu
        have hbx46001 : (0 : Int) ≤ x46001.toInt ∧ x46001.toInt ≤ 3 := hbx46001
        have hbx46002 : (-1 : Int) ≤ x46002.toInt ∧ x46002.toInt ≤ 900 := hbx46002
        have hr46003 : ¬ x46001.toInt = 0 := hr46003
        have hP : va_P G vwCl (mS cs h q (upd (upd F 12 x46001) 13 x46002) A D B) H := hP
        have hD : va_D A0 (mS cs h q (upd (upd F 12 x46001) 13 x46002) A D B) := hD
        exact B96 x46001 x46002 H locs ls (by omega) (by omega) (fun q9 => absurd q9 (by omega)) (fun q1 => absurd q1 (by omega)) (fun q1 => absurd q1 (by omega)) hP hD hS (lv_sub hl [0] rfl)
      have B71 : ∀ (H : Heap) (locs : List Loc) (ls : Array Slot), (NOT7 f12_51 (F 8) (F 9) (F 10) (A 4) 5 (A 14 4) 7) → va_P G vwCl (mS cs h q (upd (upd F 12 f12_51) 13 f13_51) A D B) H → va_D A0 (mS cs h q (upd (upd F 12 f12_51) 13 f13_51) A D B) → va_S A0 s.heap H locs → lv_has ls 2 [(0, .ref h)] → W p l e (rmk 9 0 0) s m args below meth c H locs 0 0 (MQ below ((QDw G (fun u : Int32 × Int32 × Int32 × Int32 × Int32 × Int32 × (Nat → Int32) => ((0 : Int) ≤ u.1.toInt ∧ u.1.toInt ≤ 900) ∧ ((0 : Int) ≤ u.2.1.toInt ∧ u.2.1.toInt ≤ 900) ∧ ((0 : Int) ≤ u.2.2.1.toInt ∧ u.2.2.1.toInt ≤ 4) ∧ ((0 : Int) ≤ u.2.2.2.1.toInt ∧ u.2.2.2.1.toInt ≤ 99999) ∧ ((0 : Int) ≤ u.2.2.2.2.1.toInt ∧ u.2.2.2.2.1.toInt ≤ 3) ∧ ((-1 : Int) ≤ u.2.2.2.2.2.1.toInt ∧ u.2.2.2.2.2.1.toInt ≤ 900) ∧ AI 14 u.2.2.2.2.2.2 ∧ (PIk u.1 u.2.1 u.2.2.1 ∧ (F 9).toInt ≤ u.2.1.toInt ∧ MOk u.2.2.2.2.1 (F 12) ∧ WGk u.2.2.2.2.1 u.2.2.2.2.2.2)) (fun u : Int32 × Int32 × Int32 × Int32 × Int32 × Int32 × (Nat → Int32) => (mS cs h q (upd (upd (upd (upd (upd (upd F 8 u.1) 9 u.2.1) 10 u.2.2.1) 11 u.2.2.2.1) 12 u.2.2.2.2.1) 13 u.2.2.2.2.2.1) (vA A 14 u.2.2.2.2.2.2) D B))) A0) args s 0 0 A0) (F0 m 71 ls []) := by
        intro H locs ls hrm hP hD hS hl
        refine lv_aload_n hx hb dX11_readNext_71 rfl (lv_at hl 0 rfl) ?_
        have hz36001 : vk_R "CallForBrownModel" 193 "man" (sd 10).1 s := hQ.2.2.2 ("CallForBrownModel", 193, "man", 10) (List.mem_of_getElem? (i := 7) rfl)
        refine va_ldcS hx hb hown hz36001 dX11_readNext_72 ?_
        refine behR (runVPS (As := [.ref ((sd 10).1)]) (rest := []) ⟨hx, hb, hml, hown, ht⟩ (sX11_is l G cs sd h q (upd (upd F 12 f12_51) 13 f13_51) A D B (IM_put (k := 13) (IM_put (k := 12) hI (show (0 : Int) ≤ f12_51.toInt ∧ f12_51.toInt ≤ 3 by omega)) (show (-1 : Int) ≤ f13_51.toInt ∧ f13_51.toInt ≤ 900 by omega)) 10 (by decide) ) okV_RX11_146 ⟨by decide, by decide⟩ hK hP hQ hS hA [0, 1, 2, 3, 4, 5, 6, 7, 8, 9, 10, 11, 12, 13, 14, 15, 16, 17, 18, 19] rfl 0 rfl rfl hl.1 rfl (Nat.le_of_ble_eq_true rfl) dX11_readNext_74 ⟨by decide, by decide⟩) hP hS hA (fun r36002 H locs hr36002 hP hS => ?_)
        have hr36002 : ISP r36002 f12_51 (F 8) (F 9) (F 10) (A 4) 10 ∧ (0 : Int) ≤ r36002.toInt ∧ r36002.toInt ≤ 1 := hr36002
        refine lv_if_eq (tgt := 96) hx hb dX11_readNext_77 (by decide) (fun c36003 => ?_) (fun c36003 => ?_)
        · have zc36003 := eqK rfl (show (0 : Int32).toInt = 0 by decide) c36003
          exact B96 f12_51 f13_51 H locs ls (by omega) (by omega) (fun q9 => (h51 q9)) hrm (fun q1 q2 => absurd ⟨q1, q2⟩ (ISP0 hr36002.1 (by omega))) hP hD hS (lv_sub hl [0] rfl)
        · have zc36003 := neK rfl (show (0 : Int32).toInt = 0 by decide) c36003
          refine lv_aload_n hx hb dX11_readNext_80 rfl (lv_at hl 0 rfl) ?_
          refine getF (v := .ref (q 14)) hx hb ht hown hK hP iTX11 0 14 rfl rfl (by decide) fl_RX11_31 rfl dX11_readNext_81 ?_
          refine lv_iconst (v := 5) hx hb dX11_readNext_84 (by decide) ?_
          refine va_iald hx hb hK.1 hP 6 0 rfl rfl (show ¬ (_ ∨ _) by decide) dX11_readNext_85 ?_
          refine W.eq (g2 := F0 m 86 ls [.int (A 14 5)]) rfl ?_
          have zf36004 : (0 : Int) ≤ (A 14 5).toInt ∧ (A 14 5).toInt ≤ 6 := (hI.2 14 5)
          refine lv_bipush (v := 6) hx hb dX11_readNext_86 (by decide) ?_
          refine lv_icmp_ne (tgt := 96) hx hb dX11_readNext_88 (by decide) (fun c36005 => ?_) (fun c36005 => ?_)
          · have zc36005 := neK rfl (show (6 : Int32).toInt = 6 by decide) c36005
            exact B96 f12_51 f13_51 H locs ls (by omega) (by omega) (fun q9 => (h51 q9)) hrm (fun _ _ => by omega) hP hD hS (lv_sub hl [0] rfl)
          · have zc36005 := eqK rfl (show (6 : Int32).toInt = 6 by decide) c36005
            exact B91 H locs ls hP hD hS (lv_sub hl [0] rfl)
      refine lv_if_eq (tgt := 71) hx hb dX11_readNext_57 (by decide) (fun c26003 => ?_) (fun c26003 => ?_)
      · have zc26003 := eqK rfl (show (0 : Int32).toInt = 0 by decide) c26003
        exact B71 H locs ls (fun q1 q2 => absurd ⟨q1, q2⟩ (ISP0 hr26002.1 (by omega))) hP hD hS (lv_sub hl [0] rfl)
      · have zc26003 := neK rfl (show (0 : Int32).toInt = 0 by decide) c26003
        refine lv_aload_n hx hb dX11_readNext_60 rfl (lv_at hl 0 rfl) ?_
        refine getF (v := .ref (q 14)) hx hb ht hown hK hP iTX11 0 14 rfl rfl (by decide) fl_RX11_31 rfl dX11_readNext_61 ?_
        refine lv_iconst (v := 4) hx hb dX11_readNext_64 (by decide) ?_
        refine va_iald hx hb hK.1 hP 6 0 rfl rfl (show ¬ (_ ∨ _) by decide) dX11_readNext_65 ?_
        refine W.eq (g2 := F0 m 66 ls [.int (A 14 4)]) rfl ?_
        have zf26004 : (0 : Int) ≤ (A 14 4).toInt ∧ (A 14 4).toInt ≤ 7 := (hI.2 14 4)
        refine lv_bipush (v := 7) hx hb dX11_readNext_66 (by decide) ?_
        refine lv_icmp_eq (tgt := 91) hx hb dX11_readNext_68 (by decide) (fun c26005 => ?_) (fun c26005 => ?_)
        · have zc26005 := eqK rfl (show (7 : Int32).toInt = 7 by decide) c26005
          exact B91 H locs ls hP hD hS (lv_sub hl [0] rfl)
        · have zc26005 := neK rfl (show (7 : Int32).toInt = 7 by decide) c26005
          exact B71 H locs ls (fun _ _ => by omega) hP hD hS (lv_sub hl [0] rfl)
    refine lv_if_ne (tgt := 51) hx hb dX11_readNext_43 (by decide) (fun c20001 => ?_) (fun c20001 => ?_)
    · have zc20001 := neK rfl (show (0 : Int32).toInt = 0 by decide) c20001
      exact B51 (F 12) (F 13) H locs ls (hI.1 12) (hI.1 13) (fun q9 => q9) hP hD hS (lv_sub hl [1] rfl)
    · have zc20001 := eqK rfl (show (0 : Int32).toInt = 0 by decide) c20001
      refine lv_aload_n hx hb dX11_readNext_46 rfl (lv_at hl 1 rfl) ?_
      refine lv_iconst (v := 1) hx hb dX11_readNext_47 (by decide) ?_
      refine behDw (wr := []) (runVD (As := [.int 1]) (rest := []) ⟨hx, hb, hml, hown, ht⟩ (sX11_errs l G cs h q F A D B hI 1 (by decide)) okV_RX11_156 ⟨by decide, by decide⟩ hK hP hD [0, 1, 2, 3, 4, 5, 6, 7, 8, 9, 10, 11, 12, 13, 14, 15, 16, 17, 18, 19] rfl (by decide) rfl 0 rfl rfl hl.1 rfl (Nat.le_of_ble_eq_true rfl) dX11_readNext_48 ⟨(Nat.le_of_ble_eq_true rfl), (Nat.le_of_ble_eq_true rfl)⟩) hP hD hS hA [0, 1, 2, 3, 4, 5, 6, 7, 8, 9, 10, 11, 12, 13, 14, 15, 16, 17, 18, 19] [] rfl rfl (by decide) (by decide) (fun u H locs hu hP hD hS => ?_)
      obtain ⟨x20002, x20003⟩ := u
      have kk20005 : (1 : Int32).toInt = 1 := by decide
      obtain ⟨hbx20002, hbx20003, hr20004⟩ := hu
      have hbx20002 : (0 : Int) ≤ x20002.toInt ∧ x20002.toInt ≤ 3 := hbx20002
      have hbx20003 : (-1 : Int) ≤ x20003.toInt ∧ x20003.toInt ≤ 900 := hbx20003
      have hr20004 : ¬ x20002.toInt = 0 := hr20004
      have hP : va_P G vwCl (mS cs h q (upd (upd F 12 x20002) 13 x20003) A D B) H := hP
      have hD : va_D A0 (mS cs h q (upd (upd F 12 x20002) 13 x20003) A D B) := hD
      exact B51 x20002 x20003 H locs ls (by omega) (by omega) (fun q9 => absurd q9 (by omega)) hP hD hS (lv_sub hl [1] rfl)
  have B36 : ∀ (H : Heap) (locs : List Loc) (ls : Array Slot), va_P G vwCl (mS cs h q F A D B) H → va_D A0 (mS cs h q F A D B) → va_S A0 s.heap H locs → lv_has ls 2 [(0, .ref h)] → W p l e (rmk 9 0 0) s m args below meth c H locs 0 0 (MQ below ((QDw G (fun u : Int32 × Int32 × Int32 × Int32 × Int32 × Int32 × (Nat → Int32) => ((0 : Int) ≤ u.1.toInt ∧ u.1.toInt ≤ 900) ∧ ((0 : Int) ≤ u.2.1.toInt ∧ u.2.1.toInt ≤ 900) ∧ ((0 : Int) ≤ u.2.2.1.toInt ∧ u.2.2.1.toInt ≤ 4) ∧ ((0 : Int) ≤ u.2.2.2.1.toInt ∧ u.2.2.2.1.toInt ≤ 99999) ∧ ((0 : Int) ≤ u.2.2.2.2.1.toInt ∧ u.2.2.2.2.1.toInt ≤ 3) ∧ ((-1 : Int) ≤ u.2.2.2.2.2.1.toInt ∧ u.2.2.2.2.2.1.toInt ≤ 900) ∧ AI 14 u.2.2.2.2.2.2 ∧ (PIk u.1 u.2.1 u.2.2.1 ∧ (F 9).toInt ≤ u.2.1.toInt ∧ MOk u.2.2.2.2.1 (F 12) ∧ WGk u.2.2.2.2.1 u.2.2.2.2.2.2)) (fun u : Int32 × Int32 × Int32 × Int32 × Int32 × Int32 × (Nat → Int32) => (mS cs h q (upd (upd (upd (upd (upd (upd F 8 u.1) 9 u.2.1) 10 u.2.2.1) 11 u.2.2.2.1) 12 u.2.2.2.2.1) 13 u.2.2.2.2.2.1) (vA A 14 u.2.2.2.2.2.2) D B))) A0) args s 0 0 A0) (F0 m 36 ls []) := by
    intro H locs ls hP hD hS hl
    refine lv_iconst (v := 1) hx hb dX11_readNext_36 (by decide) ?_
    refine lv_goto (tgt := 41) hx hb dX11_readNext_37 (by decide) ?_
    exact B41 1 H locs ls (by decide) hP hD hS (lv_sub hl [0] rfl)
  refine lv_if_ne (tgt := 36) hx hb dX11_readNext_6 (by decide) (fun c3 => ?_) (fun c3 => ?_)
  · have zc3 := neK rfl (show (0 : Int32).toInt = 0 by decide) c3
    exact B36 H locs ls hP hD hS (lv_sub hl [0] rfl)
  · have zc3 := eqK rfl (show (0 : Int32).toInt = 0 by decide) c3
    refine lv_aload_n hx hb dX11_readNext_9 rfl (lv_at hl 0 rfl) ?_
    have hz4 : vk_R "CallForBrownModel" 191 "door" (sd 9).1 s := hQ.2.2.2 ("CallForBrownModel", 191, "door", 9) (List.mem_of_getElem? (i := 6) rfl)
    refine va_ldcS hx hb hown hz4 dX11_readNext_10 ?_
    refine behR (runVPS (As := [.ref ((sd 9).1)]) (rest := []) ⟨hx, hb, hml, hown, ht⟩ (sX11_is l G cs sd h q F A D B hI 9 (by decide) ) okV_RX11_146 ⟨by decide, by decide⟩ hK hP hQ hS hA [0, 1, 2, 3, 4, 5, 6, 7, 8, 9, 10, 11, 12, 13, 14, 15, 16, 17, 18, 19] rfl 0 rfl rfl hl.1 rfl (Nat.le_of_ble_eq_true rfl) dX11_readNext_12 ⟨by decide, by decide⟩) hP hS hA (fun r5 H locs hr5 hP hS => ?_)
    have hr5 : ISP r5 (F 12) (F 8) (F 9) (F 10) (A 4) 9 ∧ (0 : Int) ≤ r5.toInt ∧ r5.toInt ≤ 1 := hr5
    refine lv_if_ne (tgt := 36) hx hb dX11_readNext_15 (by decide) (fun c6 => ?_) (fun c6 => ?_)
    · have zc6 := neK rfl (show (0 : Int32).toInt = 0 by decide) c6
      exact B36 H locs ls hP hD hS (lv_sub hl [0] rfl)
    · have zc6 := eqK rfl (show (0 : Int32).toInt = 0 by decide) c6
      refine lv_aload_n hx hb dX11_readNext_18 rfl (lv_at hl 0 rfl) ?_
      have hz7 : vk_R "CallForBrownModel" 193 "man" (sd 10).1 s := hQ.2.2.2 ("CallForBrownModel", 193, "man", 10) (List.mem_of_getElem? (i := 7) rfl)
      refine va_ldcS hx hb hown hz7 dX11_readNext_19 ?_
      refine behR (runVPS (As := [.ref ((sd 10).1)]) (rest := []) ⟨hx, hb, hml, hown, ht⟩ (sX11_is l G cs sd h q F A D B hI 10 (by decide) ) okV_RX11_146 ⟨by decide, by decide⟩ hK hP hQ hS hA [0, 1, 2, 3, 4, 5, 6, 7, 8, 9, 10, 11, 12, 13, 14, 15, 16, 17, 18, 19] rfl 0 rfl rfl hl.1 rfl (Nat.le_of_ble_eq_true rfl) dX11_readNext_21 ⟨by decide, by decide⟩) hP hS hA (fun r8 H locs hr8 hP hS => ?_)
      have hr8 : ISP r8 (F 12) (F 8) (F 9) (F 10) (A 4) 10 ∧ (0 : Int) ≤ r8.toInt ∧ r8.toInt ≤ 1 := hr8
      refine lv_if_ne (tgt := 36) hx hb dX11_readNext_24 (by decide) (fun c9 => ?_) (fun c9 => ?_)
      · have zc9 := neK rfl (show (0 : Int32).toInt = 0 by decide) c9
        exact B36 H locs ls hP hD hS (lv_sub hl [0] rfl)
      · have zc9 := eqK rfl (show (0 : Int32).toInt = 0 by decide) c9
        refine lv_aload_n hx hb dX11_readNext_27 rfl (lv_at hl 0 rfl) ?_
        have hz10 : vk_R "CallForBrownModel" 195 "slate" (sd 13).1 s := hQ.2.2.2 ("CallForBrownModel", 195, "slate", 13) (List.mem_of_getElem? (i := 8) rfl)
        refine va_ldcS hx hb hown hz10 dX11_readNext_28 ?_
        refine behR (runVPS (As := [.ref ((sd 13).1)]) (rest := []) ⟨hx, hb, hml, hown, ht⟩ (sX11_is l G cs sd h q F A D B hI 13 (by decide) ) okV_RX11_146 ⟨by decide, by decide⟩ hK hP hQ hS hA [0, 1, 2, 3, 4, 5, 6, 7, 8, 9, 10, 11, 12, 13, 14, 15, 16, 17, 18, 19] rfl 0 rfl rfl hl.1 rfl (Nat.le_of_ble_eq_true rfl) dX11_readNext_30 ⟨by decide, by decide⟩) hP hS hA (fun r11 H locs hr11 hP hS => ?_)
        have hr11 : ISP r11 (F 12) (F 8) (F 9) (F 10) (A 4) 13 ∧ (0 : Int) ≤ r11.toInt ∧ r11.toInt ≤ 1 := hr11
        refine lv_if_eq (tgt := 40) hx hb dX11_readNext_33 (by decide) (fun c12 => ?_) (fun c12 => ?_)
        · have zc12 := eqK rfl (show (0 : Int32).toInt = 0 by decide) c12
          refine lv_iconst (v := 0) hx hb dX11_readNext_40 (by decide) ?_
          exact B41 0 H locs ls (by decide) hP hD hS (lv_sub hl [0] rfl)
        · have zc12 := neK rfl (show (0 : Int32).toInt = 0 by decide) c12
          exact B36 H locs ls hP hD hS (lv_sub hl [0] rfl)

set_option maxRecDepth 100000 in
set_option maxHeartbeats 8000000 in
theorem sX11_readLine (l : Launch) (G : va_G) (cs : Nat → ClassId) (sd : Nat → Nat × Nat) (h : Nat) (q : Nat → Nat) (F : Nat → Int32) (A : Nat → Nat → Int32) (D : Int64) (B : Nat → Nat → Int64) (hI : IM F A) (hPI : PIk (F 8) (F 9) (F 10)) (hWG : WGk (F 12) (A 14)) : ∀ sz : Nat, Met l yX11_readLine (wk yX11_readLine cX11_readLine 1 none) (rmk 10 0 0) (PreDS SRM sd G (TY cs) [.ref h] (mS cs h q F A D B) sz) ((QDw G (fun u : Int32 × Int32 × Int32 × Int32 × Int32 × Int32 × (Nat → Int32) => ((0 : Int) ≤ u.1.toInt ∧ u.1.toInt ≤ 900) ∧ ((0 : Int) ≤ u.2.1.toInt ∧ u.2.1.toInt ≤ 900) ∧ ((0 : Int) ≤ u.2.2.1.toInt ∧ u.2.2.1.toInt ≤ 4) ∧ ((0 : Int) ≤ u.2.2.2.1.toInt ∧ u.2.2.2.1.toInt ≤ 99999) ∧ ((0 : Int) ≤ u.2.2.2.2.1.toInt ∧ u.2.2.2.2.1.toInt ≤ 3) ∧ ((-1 : Int) ≤ u.2.2.2.2.2.1.toInt ∧ u.2.2.2.2.2.1.toInt ≤ 900) ∧ AI 14 u.2.2.2.2.2.2 ∧ (PIk u.1 u.2.1 u.2.2.1 ∧ (F 9).toInt ≤ u.2.1.toInt ∧ NDk u.2.2.2.2.1 (F 12) (F 9) u.2.1 ∧ WGk u.2.2.2.2.1 u.2.2.2.2.2.2)) (fun u : Int32 × Int32 × Int32 × Int32 × Int32 × Int32 × (Nat → Int32) => (mS cs h q (upd (upd (upd (upd (upd (upd F 8 u.1) 9 u.2.1) 10 u.2.2.1) 11 u.2.2.2.1) 12 u.2.2.2.2.1) 13 u.2.2.2.2.2.1) (vA A 14 u.2.2.2.2.2.2) D B))) (va_A (mS cs h q F A D B) sz)) 0 0 (va_A (mS cs h q F A D B) sz) := by
  refine mkDS (Qc := (QDw G (fun u : Int32 × Int32 × Int32 × Int32 × Int32 × Int32 × (Nat → Int32) => ((0 : Int) ≤ u.1.toInt ∧ u.1.toInt ≤ 900) ∧ ((0 : Int) ≤ u.2.1.toInt ∧ u.2.1.toInt ≤ 900) ∧ ((0 : Int) ≤ u.2.2.1.toInt ∧ u.2.2.1.toInt ≤ 4) ∧ ((0 : Int) ≤ u.2.2.2.1.toInt ∧ u.2.2.2.1.toInt ≤ 99999) ∧ ((0 : Int) ≤ u.2.2.2.2.1.toInt ∧ u.2.2.2.2.1.toInt ≤ 3) ∧ ((-1 : Int) ≤ u.2.2.2.2.2.1.toInt ∧ u.2.2.2.2.2.1.toInt ≤ 900) ∧ AI 14 u.2.2.2.2.2.2 ∧ (PIk u.1 u.2.1 u.2.2.1 ∧ (F 9).toInt ≤ u.2.1.toInt ∧ NDk u.2.2.2.2.1 (F 12) (F 9) u.2.1 ∧ WGk u.2.2.2.2.1 u.2.2.2.2.2.2)) (fun u : Int32 × Int32 × Int32 × Int32 × Int32 × Int32 × (Nat → Int32) => (mS cs h q (upd (upd (upd (upd (upd (upd F 8 u.1) 9 u.2.1) 10 u.2.2.1) 11 u.2.2.2.1) 12 u.2.2.2.2.1) 13 u.2.2.2.2.2.1) (vA A 14 u.2.2.2.2.2.2) D B)))) (by decide) (by simp [lg_sl, Value.category]) ?_
  intro p e s m args below meth c ls A0 hx hb hml hr hlk hown hmn ht hK hP hD hS hA hQ hl
  have hl : lv_has ls 1 [(0, .ref h)] := hl
  refine lv_aload_n hx hb dX11_readLine_0 rfl (lv_at hl 0 rfl) ?_
  refine getF (v := .ref (q 14)) hx hb ht hown hK hP iTX11 0 14 rfl rfl (by decide) fl_RX11_31 rfl dX11_readLine_1 ?_
  refine lv_bipush (v := 6) hx hb dX11_readLine_4 (by decide) ?_
  refine va_iald hx hb hK.1 hP 6 0 rfl rfl (show ¬ (_ ∨ _) by decide) dX11_readLine_6 ?_
  refine W.eq (g2 := F0 m 7 ls [.int (A 14 6)]) rfl ?_
  have B85 : ∀ (f8_85 : Int32) (f9_85 : Int32) (f10_85 : Int32) (f11_85 : Int32) (f12_85 : Int32) (f13_85 : Int32) (a14_85 : (Nat → Int32)) (H : Heap) (locs : List Loc) (ls : Array Slot), (0 : Int) ≤ f8_85.toInt ∧ f8_85.toInt ≤ 900 → (0 : Int) ≤ f9_85.toInt ∧ f9_85.toInt ≤ 900 → (0 : Int) ≤ f10_85.toInt ∧ f10_85.toInt ≤ 4 → (0 : Int) ≤ f11_85.toInt ∧ f11_85.toInt ≤ 99999 → (0 : Int) ≤ f12_85.toInt ∧ f12_85.toInt ≤ 3 → (-1 : Int) ≤ f13_85.toInt ∧ f13_85.toInt ≤ 900 → AI 14 a14_85 → (PIk f8_85 f9_85 f10_85) → ((F 9).toInt ≤ f9_85.toInt) → (MOk f12_85 (F 12)) → (WGk f12_85 a14_85) → va_P G vwCl (mS cs h q (upd (upd (upd (upd (upd (upd F 8 f8_85) 9 f9_85) 10 f10_85) 11 f11_85) 12 f12_85) 13 f13_85) (vA A 14 a14_85) D B) H → va_D A0 (mS cs h q (upd (upd (upd (upd (upd (upd F 8 f8_85) 9 f9_85) 10 f10_85) 11 f11_85) 12 f12_85) 13 f13_85) (vA A 14 a14_85) D B) → va_S A0 s.heap H locs → lv_has ls 1 [(0, .ref h)] → W p l e (rmk 10 0 0) s m args below meth c H locs 0 0 (MQ below ((QDw G (fun u : Int32 × Int32 × Int32 × Int32 × Int32 × Int32 × (Nat → Int32) => ((0 : Int) ≤ u.1.toInt ∧ u.1.toInt ≤ 900) ∧ ((0 : Int) ≤ u.2.1.toInt ∧ u.2.1.toInt ≤ 900) ∧ ((0 : Int) ≤ u.2.2.1.toInt ∧ u.2.2.1.toInt ≤ 4) ∧ ((0 : Int) ≤ u.2.2.2.1.toInt ∧ u.2.2.2.1.toInt ≤ 99999) ∧ ((0 : Int) ≤ u.2.2.2.2.1.toInt ∧ u.2.2.2.2.1.toInt ≤ 3) ∧ ((-1 : Int) ≤ u.2.2.2.2.2.1.toInt ∧ u.2.2.2.2.2.1.toInt ≤ 900) ∧ AI 14 u.2.2.2.2.2.2 ∧ (PIk u.1 u.2.1 u.2.2.1 ∧ (F 9).toInt ≤ u.2.1.toInt ∧ NDk u.2.2.2.2.1 (F 12) (F 9) u.2.1 ∧ WGk u.2.2.2.2.1 u.2.2.2.2.2.2)) (fun u : Int32 × Int32 × Int32 × Int32 × Int32 × Int32 × (Nat → Int32) => (mS cs h q (upd (upd (upd (upd (upd (upd F 8 u.1) 9 u.2.1) 10 u.2.2.1) 11 u.2.2.2.1) 12 u.2.2.2.2.1) 13 u.2.2.2.2.2.1) (vA A 14 u.2.2.2.2.2.2) D B))) A0) args s 0 0 A0) (F0 m 85 ls []) := by
    intro f8_85 f9_85 f10_85 f11_85 f12_85 f13_85 a14_85 H locs ls hf8_85 hf9_85 hf10_85 hf11_85 hf12_85 hf13_85 ha14_85 hpi85 h85 hm85 hwk hP hD hS hl
    have hp85 : (f10_85.toInt = 0 ∨ f9_85.toInt < f8_85.toInt) ∧ f9_85.toInt ≤ f8_85.toInt := hpi85
    refine lv_aload_n hx hb dX11_readLine_85 rfl (lv_at hl 0 rfl) ?_
    refine behR (runVP (As := []) (rest := []) ⟨hx, hb, hml, hown, ht⟩ (sX11_good l G cs h q (upd (upd (upd (upd (upd (upd F 8 f8_85) 9 f9_85) 10 f10_85) 11 f11_85) 12 f12_85) 13 f13_85) (vA A 14 a14_85) D B (IM_arr (k := 14) (IM_put (k := 13) (IM_put (k := 12) (IM_put (k := 11) (IM_put (k := 10) (IM_put (k := 9) (IM_put (k := 8) hI (show (0 : Int) ≤ f8_85.toInt ∧ f8_85.toInt ≤ 900 by omega)) (show (0 : Int) ≤ f9_85.toInt ∧ f9_85.toInt ≤ 900 by omega)) (show (0 : Int) ≤ f10_85.toInt ∧ f10_85.toInt ≤ 4 by omega)) (show (0 : Int) ≤ f11_85.toInt ∧ f11_85.toInt ≤ 99999 by omega)) (show (0 : Int) ≤ f12_85.toInt ∧ f12_85.toInt ≤ 3 by omega)) (show (-1 : Int) ≤ f13_85.toInt ∧ f13_85.toInt ≤ 900 by omega)) ha14_85)  ) okV_RX11_133 ⟨by decide, by decide⟩ hK hP [0, 1, 2, 3, 4, 5, 6, 7, 8, 9, 10, 11, 12, 13, 14, 15, 16, 17, 18, 19] rfl 0 rfl rfl hl.1 rfl (Nat.le_of_ble_eq_true rfl) dX11_readLine_86 ⟨by decide, by decide⟩) hP hS hA (fun r48001 H locs hr48001 hP hS => ?_)
    have hr48001 : (r48001.toInt = 1 ∧ f12_85.toInt = 0) ∨ (r48001.toInt = 0 ∧ ¬ f12_85.toInt = 0) := hr48001
    have B105 : ∀ (f12_105 : Int32) (f13_105 : Int32) (H : Heap) (locs : List Loc) (ls : Array Slot), (0 : Int) ≤ f12_105.toInt ∧ f12_105.toInt ≤ 3 → (-1 : Int) ≤ f13_105.toInt ∧ f13_105.toInt ≤ 900 → (f12_105.toInt = 0 → (f12_85.toInt = 0 ∧ f10_85.toInt = 3)) → va_P G vwCl (mS cs h q (upd (upd (upd (upd (upd (upd F 8 f8_85) 9 f9_85) 10 f10_85) 11 f11_85) 12 f12_105) 13 f13_105) (vA A 14 a14_85) D B) H → va_D A0 (mS cs h q (upd (upd (upd (upd (upd (upd F 8 f8_85) 9 f9_85) 10 f10_85) 11 f11_85) 12 f12_105) 13 f13_105) (vA A 14 a14_85) D B) → va_S A0 s.heap H locs → lv_has ls 1 [(0, .ref h)] → W p l e (rmk 10 0 0) s m args below meth c H locs 0 0 (MQ below ((QDw G (fun u : Int32 × Int32 × Int32 × Int32 × Int32 × Int32 × (Nat → Int32) => ((0 : Int) ≤ u.1.toInt ∧ u.1.toInt ≤ 900) ∧ ((0 : Int) ≤ u.2.1.toInt ∧ u.2.1.toInt ≤ 900) ∧ ((0 : Int) ≤ u.2.2.1.toInt ∧ u.2.2.1.toInt ≤ 4) ∧ ((0 : Int) ≤ u.2.2.2.1.toInt ∧ u.2.2.2.1.toInt ≤ 99999) ∧ ((0 : Int) ≤ u.2.2.2.2.1.toInt ∧ u.2.2.2.2.1.toInt ≤ 3) ∧ ((-1 : Int) ≤ u.2.2.2.2.2.1.toInt ∧ u.2.2.2.2.2.1.toInt ≤ 900) ∧ AI 14 u.2.2.2.2.2.2 ∧ (PIk u.1 u.2.1 u.2.2.1 ∧ (F 9).toInt ≤ u.2.1.toInt ∧ NDk u.2.2.2.2.1 (F 12) (F 9) u.2.1 ∧ WGk u.2.2.2.2.1 u.2.2.2.2.2.2)) (fun u : Int32 × Int32 × Int32 × Int32 × Int32 × Int32 × (Nat → Int32) => (mS cs h q (upd (upd (upd (upd (upd (upd F 8 u.1) 9 u.2.1) 10 u.2.2.1) 11 u.2.2.2.1) 12 u.2.2.2.2.1) 13 u.2.2.2.2.2.1) (vA A 14 u.2.2.2.2.2.2) D B))) A0) args s 0 0 A0) (F0 m 105 ls []) := by
      intro f12_105 f13_105 H locs ls hf12_105 hf13_105 h105 hP hD hS hl
      refine lv_aload_n hx hb dX11_readLine_105 rfl (lv_at hl 0 rfl) ?_
      refine behR (runVP (As := []) (rest := []) ⟨hx, hb, hml, hown, ht⟩ (sX11_good l G cs h q (upd (upd (upd (upd (upd (upd F 8 f8_85) 9 f9_85) 10 f10_85) 11 f11_85) 12 f12_105) 13 f13_105) (vA A 14 a14_85) D B (IM_arr (k := 14) (IM_put (k := 13) (IM_put (k := 12) (IM_put (k := 11) (IM_put (k := 10) (IM_put (k := 9) (IM_put (k := 8) hI (show (0 : Int) ≤ f8_85.toInt ∧ f8_85.toInt ≤ 900 by omega)) (show (0 : Int) ≤ f9_85.toInt ∧ f9_85.toInt ≤ 900 by omega)) (show (0 : Int) ≤ f10_85.toInt ∧ f10_85.toInt ≤ 4 by omega)) (show (0 : Int) ≤ f11_85.toInt ∧ f11_85.toInt ≤ 99999 by omega)) (show (0 : Int) ≤ f12_105.toInt ∧ f12_105.toInt ≤ 3 by omega)) (show (-1 : Int) ≤ f13_105.toInt ∧ f13_105.toInt ≤ 900 by omega)) ha14_85)  ) okV_RX11_133 ⟨by decide, by decide⟩ hK hP [0, 1, 2, 3, 4, 5, 6, 7, 8, 9, 10, 11, 12, 13, 14, 15, 16, 17, 18, 19] rfl 0 rfl rfl hl.1 rfl (Nat.le_of_ble_eq_true rfl) dX11_readLine_106 ⟨by decide, by decide⟩) hP hS hA (fun r58001 H locs hr58001 hP hS => ?_)
      have hr58001 : (r58001.toInt = 1 ∧ f12_105.toInt = 0) ∨ (r58001.toInt = 0 ∧ ¬ f12_105.toInt = 0) := hr58001
      have B116 : ∀ (f8_116 : Int32) (f9_116 : Int32) (f10_116 : Int32) (f11_116 : Int32) (H : Heap) (locs : List Loc) (ls : Array Slot), (0 : Int) ≤ f8_116.toInt ∧ f8_116.toInt ≤ 900 → (0 : Int) ≤ f9_116.toInt ∧ f9_116.toInt ≤ 900 → (0 : Int) ≤ f10_116.toInt ∧ f10_116.toInt ≤ 4 → (0 : Int) ≤ f11_116.toInt ∧ f11_116.toInt ≤ 99999 → (PIk f8_116 f9_116 f10_116) → (f9_85.toInt ≤ f9_116.toInt) → (f12_105.toInt = 0 → f9_85.toInt < f9_116.toInt) → va_P G vwCl (mS cs h q (upd (upd (upd (upd (upd (upd F 8 f8_116) 9 f9_116) 10 f10_116) 11 f11_116) 12 f12_105) 13 f13_105) (vA A 14 a14_85) D B) H → va_D A0 (mS cs h q (upd (upd (upd (upd (upd (upd F 8 f8_116) 9 f9_116) 10 f10_116) 11 f11_116) 12 f12_105) 13 f13_105) (vA A 14 a14_85) D B) → va_S A0 s.heap H locs → lv_has ls 1 [(0, .ref h)] → W p l e (rmk 10 0 0) s m args below meth c H locs 0 0 (MQ below ((QDw G (fun u : Int32 × Int32 × Int32 × Int32 × Int32 × Int32 × (Nat → Int32) => ((0 : Int) ≤ u.1.toInt ∧ u.1.toInt ≤ 900) ∧ ((0 : Int) ≤ u.2.1.toInt ∧ u.2.1.toInt ≤ 900) ∧ ((0 : Int) ≤ u.2.2.1.toInt ∧ u.2.2.1.toInt ≤ 4) ∧ ((0 : Int) ≤ u.2.2.2.1.toInt ∧ u.2.2.2.1.toInt ≤ 99999) ∧ ((0 : Int) ≤ u.2.2.2.2.1.toInt ∧ u.2.2.2.2.1.toInt ≤ 3) ∧ ((-1 : Int) ≤ u.2.2.2.2.2.1.toInt ∧ u.2.2.2.2.2.1.toInt ≤ 900) ∧ AI 14 u.2.2.2.2.2.2 ∧ (PIk u.1 u.2.1 u.2.2.1 ∧ (F 9).toInt ≤ u.2.1.toInt ∧ NDk u.2.2.2.2.1 (F 12) (F 9) u.2.1 ∧ WGk u.2.2.2.2.1 u.2.2.2.2.2.2)) (fun u : Int32 × Int32 × Int32 × Int32 × Int32 × Int32 × (Nat → Int32) => (mS cs h q (upd (upd (upd (upd (upd (upd F 8 u.1) 9 u.2.1) 10 u.2.2.1) 11 u.2.2.2.1) 12 u.2.2.2.2.1) 13 u.2.2.2.2.2.1) (vA A 14 u.2.2.2.2.2.2) D B))) A0) args s 0 0 A0) (F0 m 116 ls []) := by
        intro f8_116 f9_116 f10_116 f11_116 H locs ls hf8_116 hf9_116 hf10_116 hf11_116 hpi116 hf116 h116 hP hD hS hl
        refine lv_aload_n hx hb dX11_readLine_116 rfl (lv_at hl 0 rfl) ?_
        refine getF (v := .ref (q 14)) hx hb ht hown hK hP iTX11 0 14 rfl rfl (by decide) fl_RX11_31 rfl dX11_readLine_117 ?_
        refine lv_bipush (v := 6) hx hb dX11_readLine_120 (by decide) ?_
        refine lv_dup2_11 hx hb dX11_readLine_122 rfl rfl ?_
        refine va_iald hx hb hK.1 hP 6 0 rfl rfl (show ¬ (_ ∨ _) by decide) dX11_readLine_123 ?_
        refine W.eq (g2 := F0 m 124 ls [.int (a14_85 6), .int 6, .ref (q 14)]) rfl ?_
        refine lv_iconst (v := 1) hx hb dX11_readLine_124 (by decide) ?_
        refine lv_iadd hx hb dX11_readLine_125 ?_
        refine lv_topi (fun v63001 ev63001 => ?_)
        refine va_iast hx hb hK.1 hP hD hS 6 0 rfl rfl (show ¬ (_ ∨ _) by decide) dX11_readLine_126 (fun H locs hP hD hS => ?_)
        have hP : va_P G vwCl (mS cs h q (upd (upd (upd (upd (upd (upd F 8 f8_116) 9 f9_116) 10 f10_116) 11 f11_116) 12 f12_105) 13 f13_105) (vA A 14 (upd a14_85 (6 : Int32).toNatClampNeg v63001)) D B) H := hP
        have hD : va_D A0 (mS cs h q (upd (upd (upd (upd (upd (upd F 8 f8_116) 9 f9_116) 10 f10_116) 11 f11_116) 12 f12_105) 13 f13_105) (vA A 14 (upd a14_85 (6 : Int32).toNatClampNeg v63001)) D B) := hD
        obtain ⟨g63002, eg63002⟩ : ∃ z : Nat → Int32, z = upd a14_85 (6 : Int32).toNatClampNeg v63001 := ⟨_, rfl⟩
        rw [← eg63002] at hP hD
        have hg63002 : AI 14 g63002 := by rw [eg63002]; exact AI_upd (fun j => ha14_85 j) (i32b _)
        exact retDw (f8_116, f9_116, f10_116, f11_116, f12_105, f13_105, g63002) hx hb hr hlk hP hD hS dX11_readLine_127 (⟨show (0 : Int) ≤ f8_116.toInt ∧ f8_116.toInt ≤ 900 by omega, show (0 : Int) ≤ f9_116.toInt ∧ f9_116.toInt ≤ 900 by omega, show (0 : Int) ≤ f10_116.toInt ∧ f10_116.toInt ≤ 4 by omega, show (0 : Int) ≤ f11_116.toInt ∧ f11_116.toInt ≤ 99999 by omega, show (0 : Int) ≤ f12_105.toInt ∧ f12_105.toInt ≤ 3 by omega, show (-1 : Int) ≤ f13_105.toInt ∧ f13_105.toInt ≤ 900 by omega, hg63002, ⟨hpi116, (show (F 9).toInt ≤ f9_116.toInt by omega), fun q9 => ⟨(hm85 (h105 q9).1), (show (F 9).toInt < f9_116.toInt by have q8 := h116 q9; omega)⟩, (fun q9 => (WGe ((fun q8 => hwk (h105 q8).1) q9) eg63002 (ha14_85 5).2 (by decide)))⟩⟩) (Nat.le_of_ble_eq_true rfl) (Nat.le_of_ble_eq_true rfl)
      refine lv_if_eq (tgt := 116) hx hb dX11_readLine_109 (by decide) (fun c58002 => ?_) (fun c58002 => ?_)
      · have zc58002 := eqK rfl (show (0 : Int32).toInt = 0 by decide) c58002
        exact B116 f8_85 f9_85 f10_85 f11_85 H locs ls (by omega) (by omega) (by omega) (by omega) hpi85 (by have k0 : (0 : Int32).toInt = 0 := (by decide); have k1 : (1 : Int32).toInt = 1 := (by decide); omega) (fun q9 => absurd q9 (by omega)) hP hD hS (lv_sub hl [0] rfl)
      · have zc58002 := neK rfl (show (0 : Int32).toInt = 0 by decide) c58002
        refine lv_aload_n hx hb dX11_readLine_112 rfl (lv_at hl 0 rfl) ?_
        refine behDw (wr := []) (runVD (As := []) (rest := []) ⟨hx, hb, hml, hown, ht⟩ (sX11_advance l G cs h q (upd (upd (upd (upd (upd (upd F 8 f8_85) 9 f9_85) 10 f10_85) 11 f11_85) 12 f12_105) 13 f13_105) (vA A 14 a14_85) D B (IM_arr (k := 14) (IM_put (k := 13) (IM_put (k := 12) (IM_put (k := 11) (IM_put (k := 10) (IM_put (k := 9) (IM_put (k := 8) hI (show (0 : Int) ≤ f8_85.toInt ∧ f8_85.toInt ≤ 900 by omega)) (show (0 : Int) ≤ f9_85.toInt ∧ f9_85.toInt ≤ 900 by omega)) (show (0 : Int) ≤ f10_85.toInt ∧ f10_85.toInt ≤ 4 by omega)) (show (0 : Int) ≤ f11_85.toInt ∧ f11_85.toInt ≤ 99999 by omega)) (show (0 : Int) ≤ f12_105.toInt ∧ f12_105.toInt ≤ 3 by omega)) (show (-1 : Int) ≤ f13_105.toInt ∧ f13_105.toInt ≤ 900 by omega)) ha14_85)  ) okV_RX11_150 ⟨by decide, by decide⟩ hK hP hD [0, 1, 2, 3, 4, 5, 6, 7, 8, 9, 10, 11, 12, 13, 14, 15, 16, 17, 18, 19] rfl (by decide) rfl 0 rfl rfl hl.1 rfl (Nat.le_of_ble_eq_true rfl) dX11_readLine_113 ⟨(Nat.le_of_ble_eq_true rfl), (Nat.le_of_ble_eq_true rfl)⟩) hP hD hS hA [0, 1, 2, 3, 4, 5, 6, 7, 8, 9, 10, 11, 12, 13, 14, 15, 16, 17, 18, 19] [] rfl rfl (by decide) (by decide) (fun u H locs hu hP hD hS => ?_)
        obtain ⟨x58003, x58004, x58005, x58006⟩ := u
        obtain ⟨hbx58003, hbx58004, hbx58005, hbx58006, hr58007⟩ := hu
        have hbx58003 : (0 : Int) ≤ x58003.toInt ∧ x58003.toInt ≤ 900 := hbx58003
        have hbx58004 : (0 : Int) ≤ x58004.toInt ∧ x58004.toInt ≤ 900 := hbx58004
        have hbx58005 : (0 : Int) ≤ x58005.toInt ∧ x58005.toInt ≤ 4 := hbx58005
        have hbx58006 : (0 : Int) ≤ x58006.toInt ∧ x58006.toInt ≤ 99999 := hbx58006
        have hr58007 : f8_85.toInt ≤ x58004.toInt ∧ PIk x58003 x58004 x58005 := hr58007
        have hP : va_P G vwCl (mS cs h q (upd (upd (upd (upd (upd (upd F 8 x58003) 9 x58004) 10 x58005) 11 x58006) 12 f12_105) 13 f13_105) (vA A 14 a14_85) D B) H := hP
        have hD : va_D A0 (mS cs h q (upd (upd (upd (upd (upd (upd F 8 x58003) 9 x58004) 10 x58005) 11 x58006) 12 f12_105) 13 f13_105) (vA A 14 a14_85) D B) := hD
        exact B116 x58003 x58004 x58005 x58006 H locs ls (by omega) (by omega) (by omega) (by omega) hr58007.2 (by have k0 : (0 : Int32).toInt = 0 := (by decide); have k1 : (1 : Int32).toInt = 1 := (by decide); omega) (fun q9 => by have q8 := h105 q9; omega) hP hD hS (lv_sub hl [0] rfl)
    refine lv_if_eq (tgt := 105) hx hb dX11_readLine_89 (by decide) (fun c48002 => ?_) (fun c48002 => ?_)
    · have zc48002 := eqK rfl (show (0 : Int32).toInt = 0 by decide) c48002
      exact B105 f12_85 f13_85 H locs ls (by omega) (by omega) (fun q9 => ⟨q9, by omega⟩) hP hD hS (lv_sub hl [0] rfl)
    · have zc48002 := neK rfl (show (0 : Int32).toInt = 0 by decide) c48002
      refine lv_aload_n hx hb dX11_readLine_92 rfl (lv_at hl 0 rfl) ?_
      refine getF (v := .int f10_85) hx hb ht hown hK hP iTX11 0 10 rfl rfl (by decide) fl_RX11_109 rfl dX11_readLine_93 ?_
      refine lv_iconst (v := 3) hx hb dX11_readLine_96 (by decide) ?_
      refine lv_icmp_eq (tgt := 105) hx hb dX11_readLine_97 (by decide) (fun c48003 => ?_) (fun c48003 => ?_)
      · have zc48003 := eqK rfl (show (3 : Int32).toInt = 3 by decide) c48003
        exact B105 f12_85 f13_85 H locs ls (by omega) (by omega) (fun q9 => ⟨q9, by omega⟩) hP hD hS (lv_sub hl [0] rfl)
      · have zc48003 := neK rfl (show (3 : Int32).toInt = 3 by decide) c48003
        refine lv_aload_n hx hb dX11_readLine_100 rfl (lv_at hl 0 rfl) ?_
        refine lv_iconst (v := 1) hx hb dX11_readLine_101 (by decide) ?_
        refine behDw (wr := []) (runVD (As := [.int 1]) (rest := []) ⟨hx, hb, hml, hown, ht⟩ (sX11_errs l G cs h q (upd (upd (upd (upd (upd (upd F 8 f8_85) 9 f9_85) 10 f10_85) 11 f11_85) 12 f12_85) 13 f13_85) (vA A 14 a14_85) D B (IM_arr (k := 14) (IM_put (k := 13) (IM_put (k := 12) (IM_put (k := 11) (IM_put (k := 10) (IM_put (k := 9) (IM_put (k := 8) hI (show (0 : Int) ≤ f8_85.toInt ∧ f8_85.toInt ≤ 900 by omega)) (show (0 : Int) ≤ f9_85.toInt ∧ f9_85.toInt ≤ 900 by omega)) (show (0 : Int) ≤ f10_85.toInt ∧ f10_85.toInt ≤ 4 by omega)) (show (0 : Int) ≤ f11_85.toInt ∧ f11_85.toInt ≤ 99999 by omega)) (show (0 : Int) ≤ f12_85.toInt ∧ f12_85.toInt ≤ 3 by omega)) (show (-1 : Int) ≤ f13_85.toInt ∧ f13_85.toInt ≤ 900 by omega)) ha14_85) 1 (by decide)) okV_RX11_156 ⟨by decide, by decide⟩ hK hP hD [0, 1, 2, 3, 4, 5, 6, 7, 8, 9, 10, 11, 12, 13, 14, 15, 16, 17, 18, 19] rfl (by decide) rfl 0 rfl rfl hl.1 rfl (Nat.le_of_ble_eq_true rfl) dX11_readLine_102 ⟨(Nat.le_of_ble_eq_true rfl), (Nat.le_of_ble_eq_true rfl)⟩) hP hD hS hA [0, 1, 2, 3, 4, 5, 6, 7, 8, 9, 10, 11, 12, 13, 14, 15, 16, 17, 18, 19] [] rfl rfl (by decide) (by decide) (fun u H locs hu hP hD hS => ?_)
        obtain ⟨x48004, x48005⟩ := u
        have kk48007 : (1 : Int32).toInt = 1 := by decide
        obtain ⟨hbx48004, hbx48005, hr48006⟩ := hu
        have hbx48004 : (0 : Int) ≤ x48004.toInt ∧ x48004.toInt ≤ 3 := hbx48004
        have hbx48005 : (-1 : Int) ≤ x48005.toInt ∧ x48005.toInt ≤ 900 := hbx48005
        have hr48006 : ¬ x48004.toInt = 0 := hr48006
        have hP : va_P G vwCl (mS cs h q (upd (upd (upd (upd (upd (upd F 8 f8_85) 9 f9_85) 10 f10_85) 11 f11_85) 12 x48004) 13 x48005) (vA A 14 a14_85) D B) H := hP
        have hD : va_D A0 (mS cs h q (upd (upd (upd (upd (upd (upd F 8 f8_85) 9 f9_85) 10 f10_85) 11 f11_85) 12 x48004) 13 x48005) (vA A 14 a14_85) D B) := hD
        exact B105 x48004 x48005 H locs ls (by omega) (by omega) (fun q9 => absurd q9 (by omega)) hP hD hS (lv_sub hl [0] rfl)
  refine lv_if_ne (tgt := 81) hx hb dX11_readLine_7 (by decide) (fun c1 => ?_) (fun c1 => ?_)
  · have zc1 := neK rfl (show (0 : Int32).toInt = 0 by decide) c1
    refine lv_aload_n hx hb dX11_readLine_81 rfl (lv_at hl 0 rfl) ?_
    refine behDw (wr := []) (runVDS (As := []) (rest := []) ⟨hx, hb, hml, hown, ht⟩ (sX11_readNext l G cs sd h q F A D B hI   (show PIk (F 8) (F 9) (F 10) from hPI) (show WGk (F 12) (A 14) from (fun q9 => (hWG q9)))) okV_RX11_219 ⟨by decide, by decide⟩ hK hP hD hQ hS hA [0, 1, 2, 3, 4, 5, 6, 7, 8, 9, 10, 11, 12, 13, 14, 15, 16, 17, 18, 19] rfl (by decide) rfl 0 rfl rfl hl.1 rfl (Nat.le_of_ble_eq_true rfl) dX11_readLine_82 ⟨(Nat.le_of_ble_eq_true rfl), (Nat.le_of_ble_eq_true rfl)⟩) hP hD hS hA [0, 1, 2, 3, 4, 5, 6, 7, 8, 9, 10, 11, 12, 13, 14, 15, 16, 17, 18, 19] [] rfl rfl (by decide) (by decide) (fun u H locs hu hP hD hS => ?_)
    obtain ⟨x2, x3, x4, x5, x6, x7, g8⟩ := u
    obtain ⟨hbx2, hbx3, hbx4, hbx5, hbx6, hbx7, hg8, hr9⟩ := hu
    have hbx2 : (0 : Int) ≤ x2.toInt ∧ x2.toInt ≤ 900 := hbx2
    have hbx3 : (0 : Int) ≤ x3.toInt ∧ x3.toInt ≤ 900 := hbx3
    have hbx4 : (0 : Int) ≤ x4.toInt ∧ x4.toInt ≤ 4 := hbx4
    have hbx5 : (0 : Int) ≤ x5.toInt ∧ x5.toInt ≤ 99999 := hbx5
    have hbx6 : (0 : Int) ≤ x6.toInt ∧ x6.toInt ≤ 3 := hbx6
    have hbx7 : (-1 : Int) ≤ x7.toInt ∧ x7.toInt ≤ 900 := hbx7
    have hr9 : PIk x2 x3 x4 ∧ (F 9).toInt ≤ x3.toInt ∧ MOk x6 (F 12) ∧ WGk x6 g8 := hr9
    have hP : va_P G vwCl (mS cs h q (upd (upd (upd (upd (upd (upd F 8 x2) 9 x3) 10 x4) 11 x5) 12 x6) 13 x7) (vA A 14 g8) D B) H := hP
    have hD : va_D A0 (mS cs h q (upd (upd (upd (upd (upd (upd F 8 x2) 9 x3) 10 x4) 11 x5) 12 x6) 13 x7) (vA A 14 g8) D B) := hD
    exact B85 x2 x3 x4 x5 x6 x7 g8 H locs ls (by omega) (by omega) (by omega) (by omega) (by omega) (by omega) hg8 hr9.1 (by have k0 : (0 : Int32).toInt = 0 := (by decide); have k1 : (1 : Int32).toInt = 1 := (by decide); omega) (fun q9 => (hr9.2.2.1 q9)) (fun q9 => (hr9.2.2.2 q9)) hP hD hS (lv_sub hl [0] rfl)
  · have zc1 := eqK rfl (show (0 : Int32).toInt = 0 by decide) c1
    refine lv_aload_n hx hb dX11_readLine_10 rfl (lv_at hl 0 rfl) ?_
    have hz10 : vk_R "CallForBrownModel" 209 "house" (sd 0).1 s := hQ.2.2.2 ("CallForBrownModel", 209, "house", 0) (List.mem_of_getElem? (i := 0) rfl)
    refine va_ldcS hx hb hown hz10 dX11_readLine_11 ?_
    refine behDw (wr := []) (runVDS (As := [.ref ((sd 0).1)]) (rest := []) ⟨hx, hb, hml, hown, ht⟩ (sX11_needs l G cs sd h q F A D B hI 0 (by decide)  (show PIk (F 8) (F 9) (F 10) from hPI)) okV_RX11_160 ⟨by decide, by decide⟩ hK hP hD hQ hS hA [0, 1, 2, 3, 4, 5, 6, 7, 8, 9, 10, 11, 12, 13, 14, 15, 16, 17, 18, 19] rfl (by decide) rfl 0 rfl rfl hl.1 rfl (Nat.le_of_ble_eq_true rfl) dX11_readLine_13 ⟨(Nat.le_of_ble_eq_true rfl), (Nat.le_of_ble_eq_true rfl)⟩) hP hD hS hA [0, 1, 2, 3, 4, 5, 6, 7, 8, 9, 10, 11, 12, 13, 14, 15, 16, 17, 18, 19] [] rfl rfl (by decide) (by decide) (fun u H locs hu hP hD hS => ?_)
    obtain ⟨x11, x12, x13, x14, x15, x16⟩ := u
    obtain ⟨hbx11, hbx12, hbx13, hbx14, hbx15, hbx16, hr17⟩ := hu
    have hbx11 : (0 : Int) ≤ x11.toInt ∧ x11.toInt ≤ 900 := hbx11
    have hbx12 : (0 : Int) ≤ x12.toInt ∧ x12.toInt ≤ 900 := hbx12
    have hbx13 : (0 : Int) ≤ x13.toInt ∧ x13.toInt ≤ 4 := hbx13
    have hbx14 : (0 : Int) ≤ x14.toInt ∧ x14.toInt ≤ 99999 := hbx14
    have hbx15 : (0 : Int) ≤ x15.toInt ∧ x15.toInt ≤ 3 := hbx15
    have hbx16 : (-1 : Int) ≤ x16.toInt ∧ x16.toInt ≤ 900 := hbx16
    have hr17 : PIk x11 x12 x13 ∧ (F 9).toInt ≤ x12.toInt ∧ NDk x15 (F 12) (F 9) x12 := hr17
    have hP : va_P G vwCl (mS cs h q (upd (upd (upd (upd (upd (upd F 8 x11) 9 x12) 10 x13) 11 x14) 12 x15) 13 x16) A D B) H := hP
    have hD : va_D A0 (mS cs h q (upd (upd (upd (upd (upd (upd F 8 x11) 9 x12) 10 x13) 11 x14) 12 x15) 13 x16) A D B) := hD
    refine lv_aload_n hx hb dX11_readLine_16 rfl (lv_at hl 0 rfl) ?_
    refine getF (v := .ref (q 14)) hx hb ht hown hK hP iTX11 0 14 rfl rfl (by decide) fl_RX11_31 rfl dX11_readLine_17 ?_
    refine lv_iconst (v := 0) hx hb dX11_readLine_20 (by decide) ?_
    refine lv_aload_n hx hb dX11_readLine_21 rfl (lv_at hl 0 rfl) ?_
    have hz18 : vk_R "CallForBrownModel" 211 "moves" (sd 1).1 s := hQ.2.2.2 ("CallForBrownModel", 211, "moves", 1) (List.mem_of_getElem? (i := 1) rfl)
    refine va_ldcS hx hb hown hz18 dX11_readLine_22 ?_
    refine lv_iconst (v := 0) hx hb dX11_readLine_24 (by decide) ?_
    refine lv_bipush (v := 100) hx hb dX11_readLine_25 (by decide) ?_
    refine behDi (wr := []) (runVDS (As := [.ref ((sd 1).1), .int 0, .int 100]) (rest := [.int 0, .ref (q 14)]) ⟨hx, hb, hml, hown, ht⟩ (sX11_told l G cs sd h q (upd (upd (upd (upd (upd (upd F 8 x11) 9 x12) 10 x13) 11 x14) 12 x15) 13 x16) A D B (IM_put (k := 13) (IM_put (k := 12) (IM_put (k := 11) (IM_put (k := 10) (IM_put (k := 9) (IM_put (k := 8) hI (show (0 : Int) ≤ x11.toInt ∧ x11.toInt ≤ 900 by omega)) (show (0 : Int) ≤ x12.toInt ∧ x12.toInt ≤ 900 by omega)) (show (0 : Int) ≤ x13.toInt ∧ x13.toInt ≤ 4 by omega)) (show (0 : Int) ≤ x14.toInt ∧ x14.toInt ≤ 99999 by omega)) (show (0 : Int) ≤ x15.toInt ∧ x15.toInt ≤ 3 by omega)) (show (-1 : Int) ≤ x16.toInt ∧ x16.toInt ≤ 900 by omega)) 1 (by decide) 0 100  (show PIk x11 x12 x13 from hr17.1)) okV_RX11_169 ⟨by decide, by decide⟩ hK hP hD hQ hS hA [0, 1, 2, 3, 4, 5, 6, 7, 8, 9, 10, 11, 12, 13, 14, 15, 16, 17, 18, 19] rfl (by decide) rfl 0 rfl rfl hl.1 rfl (Nat.le_of_ble_eq_true rfl) dX11_readLine_27 ⟨(Nat.le_of_ble_eq_true rfl), (Nat.le_of_ble_eq_true rfl)⟩) hP hD hS hA [0, 1, 2, 3, 4, 5, 6, 7, 8, 9, 10, 11, 12, 13, 14, 15, 16, 17, 18, 19] [] rfl rfl (by decide) (by decide) (fun r9 u H locs hu hP hD hS => ?_)
    obtain ⟨x19, x20, x21, x22, x23, x24⟩ := u
    have kk26 : (0 : Int32).toInt = 0 := by decide
    have kk27 : (100 : Int32).toInt = 100 := by decide
    obtain ⟨r25, rfl⟩ : ∃ z, z = r9 := ⟨_, rfl⟩
    obtain ⟨hbx19, hbx20, hbx21, hbx22, hbx23, hbx24, hr25⟩ := hu
    have hbx19 : (0 : Int) ≤ x19.toInt ∧ x19.toInt ≤ 900 := hbx19
    have hbx20 : (0 : Int) ≤ x20.toInt ∧ x20.toInt ≤ 900 := hbx20
    have hbx21 : (0 : Int) ≤ x21.toInt ∧ x21.toInt ≤ 4 := hbx21
    have hbx22 : (0 : Int) ≤ x22.toInt ∧ x22.toInt ≤ 99999 := hbx22
    have hbx23 : (0 : Int) ≤ x23.toInt ∧ x23.toInt ≤ 3 := hbx23
    have hbx24 : (-1 : Int) ≤ x24.toInt ∧ x24.toInt ≤ 900 := hbx24
    have hr25 : PIk x19 x20 x21 ∧ (x12.toInt ≤ x20.toInt) ∧ NMk x23 x15 x12 x20 r25 ((0 : Int32).toInt) ((100 : Int32).toInt) ∧ RBk r25 ((0 : Int32).toInt) ((100 : Int32).toInt) := hr25
    have hP : va_P G vwCl (mS cs h q (upd (upd (upd (upd (upd (upd F 8 x19) 9 x20) 10 x21) 11 x22) 12 x23) 13 x24) A D B) H := hP
    have hD : va_D A0 (mS cs h q (upd (upd (upd (upd (upd (upd F 8 x19) 9 x20) 10 x21) 11 x22) 12 x23) 13 x24) A D B) := hD
    have hbr25 := RBb (A := 0) (B := 100) hr25.2.2.2 (by omega) (by omega)
    refine va_iast hx hb hK.1 hP hD hS 6 0 rfl rfl (show ¬ (_ ∨ _) by decide) dX11_readLine_30 (fun H locs hP hD hS => ?_)
    have hP : va_P G vwCl (mS cs h q (upd (upd (upd (upd (upd (upd F 8 x19) 9 x20) 10 x21) 11 x22) 12 x23) 13 x24) (vA A 14 (upd (A 14) (0 : Int32).toNatClampNeg r25)) D B) H := hP
    have hD : va_D A0 (mS cs h q (upd (upd (upd (upd (upd (upd F 8 x19) 9 x20) 10 x21) 11 x22) 12 x23) 13 x24) (vA A 14 (upd (A 14) (0 : Int32).toNatClampNeg r25)) D B) := hD
    obtain ⟨g28, eg28⟩ : ∃ z : Nat → Int32, z = upd (A 14) (0 : Int32).toNatClampNeg r25 := ⟨_, rfl⟩
    rw [← eg28] at hP hD
    have hg28 : AI 14 g28 := by rw [eg28]; exact AI_upd (fun j => hI.2 14 j) (i32b _)
    refine lv_aload_n hx hb dX11_readLine_31 rfl (lv_at hl 0 rfl) ?_
    refine getF (v := .ref (q 14)) hx hb ht hown hK hP iTX11 0 14 rfl rfl (by decide) fl_RX11_31 rfl dX11_readLine_32 ?_
    refine lv_iconst (v := 1) hx hb dX11_readLine_35 (by decide) ?_
    refine lv_aload_n hx hb dX11_readLine_36 rfl (lv_at hl 0 rfl) ?_
    have hz29 : vk_R "CallForBrownModel" 213 "here" (sd 2).1 s := hQ.2.2.2 ("CallForBrownModel", 213, "here", 2) (List.mem_of_getElem? (i := 2) rfl)
    refine va_ldcS hx hb hown hz29 dX11_readLine_37 ?_
    refine lv_iconst (v := 0) hx hb dX11_readLine_39 (by decide) ?_
    refine lv_bipush (v := 100) hx hb dX11_readLine_40 (by decide) ?_
    refine behDi (wr := []) (runVDS (As := [.ref ((sd 2).1), .int 0, .int 100]) (rest := [.int 1, .ref (q 14)]) ⟨hx, hb, hml, hown, ht⟩ (sX11_told l G cs sd h q (upd (upd (upd (upd (upd (upd F 8 x19) 9 x20) 10 x21) 11 x22) 12 x23) 13 x24) (vA A 14 g28) D B (IM_arr (k := 14) (IM_put (k := 13) (IM_put (k := 12) (IM_put (k := 11) (IM_put (k := 10) (IM_put (k := 9) (IM_put (k := 8) hI (show (0 : Int) ≤ x19.toInt ∧ x19.toInt ≤ 900 by omega)) (show (0 : Int) ≤ x20.toInt ∧ x20.toInt ≤ 900 by omega)) (show (0 : Int) ≤ x21.toInt ∧ x21.toInt ≤ 4 by omega)) (show (0 : Int) ≤ x22.toInt ∧ x22.toInt ≤ 99999 by omega)) (show (0 : Int) ≤ x23.toInt ∧ x23.toInt ≤ 3 by omega)) (show (-1 : Int) ≤ x24.toInt ∧ x24.toInt ≤ 900 by omega)) hg28) 2 (by decide) 0 100  (show PIk x19 x20 x21 from hr25.1)) okV_RX11_169 ⟨by decide, by decide⟩ hK hP hD hQ hS hA [0, 1, 2, 3, 4, 5, 6, 7, 8, 9, 10, 11, 12, 13, 14, 15, 16, 17, 18, 19] rfl (by decide) rfl 0 rfl rfl hl.1 rfl (Nat.le_of_ble_eq_true rfl) dX11_readLine_42 ⟨(Nat.le_of_ble_eq_true rfl), (Nat.le_of_ble_eq_true rfl)⟩) hP hD hS hA [0, 1, 2, 3, 4, 5, 6, 7, 8, 9, 10, 11, 12, 13, 14, 15, 16, 17, 18, 19] [] rfl rfl (by decide) (by decide) (fun r9 u H locs hu hP hD hS => ?_)
    obtain ⟨x30, x31, x32, x33, x34, x35⟩ := u
    have kk37 : (0 : Int32).toInt = 0 := by decide
    have kk38 : (100 : Int32).toInt = 100 := by decide
    obtain ⟨r36, rfl⟩ : ∃ z, z = r9 := ⟨_, rfl⟩
    obtain ⟨hbx30, hbx31, hbx32, hbx33, hbx34, hbx35, hr36⟩ := hu
    have hbx30 : (0 : Int) ≤ x30.toInt ∧ x30.toInt ≤ 900 := hbx30
    have hbx31 : (0 : Int) ≤ x31.toInt ∧ x31.toInt ≤ 900 := hbx31
    have hbx32 : (0 : Int) ≤ x32.toInt ∧ x32.toInt ≤ 4 := hbx32
    have hbx33 : (0 : Int) ≤ x33.toInt ∧ x33.toInt ≤ 99999 := hbx33
    have hbx34 : (0 : Int) ≤ x34.toInt ∧ x34.toInt ≤ 3 := hbx34
    have hbx35 : (-1 : Int) ≤ x35.toInt ∧ x35.toInt ≤ 900 := hbx35
    have hr36 : PIk x30 x31 x32 ∧ (x20.toInt ≤ x31.toInt) ∧ NMk x34 x23 x20 x31 r36 ((0 : Int32).toInt) ((100 : Int32).toInt) ∧ RBk r36 ((0 : Int32).toInt) ((100 : Int32).toInt) := hr36
    have hP : va_P G vwCl (mS cs h q (upd (upd (upd (upd (upd (upd F 8 x30) 9 x31) 10 x32) 11 x33) 12 x34) 13 x35) (vA A 14 g28) D B) H := hP
    have hD : va_D A0 (mS cs h q (upd (upd (upd (upd (upd (upd F 8 x30) 9 x31) 10 x32) 11 x33) 12 x34) 13 x35) (vA A 14 g28) D B) := hD
    have hbr36 := RBb (A := 0) (B := 100) hr36.2.2.2 (by omega) (by omega)
    refine va_iast hx hb hK.1 hP hD hS 6 0 rfl rfl (show ¬ (_ ∨ _) by decide) dX11_readLine_45 (fun H locs hP hD hS => ?_)
    have hP : va_P G vwCl (mS cs h q (upd (upd (upd (upd (upd (upd F 8 x30) 9 x31) 10 x32) 11 x33) 12 x34) 13 x35) (vA A 14 (upd g28 (1 : Int32).toNatClampNeg r36)) D B) H := hP
    have hD : va_D A0 (mS cs h q (upd (upd (upd (upd (upd (upd F 8 x30) 9 x31) 10 x32) 11 x33) 12 x34) 13 x35) (vA A 14 (upd g28 (1 : Int32).toNatClampNeg r36)) D B) := hD
    obtain ⟨g39, eg39⟩ : ∃ z : Nat → Int32, z = upd g28 (1 : Int32).toNatClampNeg r36 := ⟨_, rfl⟩
    rw [← eg39] at hP hD
    have hg39 : AI 14 g39 := by rw [eg39]; exact AI_upd (fun j => hg28 j) (i32b _)
    refine lv_aload_n hx hb dX11_readLine_46 rfl (lv_at hl 0 rfl) ?_
    refine getF (v := .ref (q 14)) hx hb ht hown hK hP iTX11 0 14 rfl rfl (by decide) fl_RX11_31 rfl dX11_readLine_47 ?_
    refine lv_iconst (v := 2) hx hb dX11_readLine_50 (by decide) ?_
    refine lv_aload_n hx hb dX11_readLine_51 rfl (lv_at hl 0 rfl) ?_
    have hz40 : vk_R "CallForBrownModel" 215 "worth" (sd 3).1 s := hQ.2.2.2 ("CallForBrownModel", 215, "worth", 3) (List.mem_of_getElem? (i := 3) rfl)
    refine va_ldcS hx hb hown hz40 dX11_readLine_52 ?_
    refine lv_iconst (v := 0) hx hb dX11_readLine_54 (by decide) ?_
    refine lv_sipush (v := 999) hx hb dX11_readLine_55 (by decide) ?_
    refine behDi (wr := []) (runVDS (As := [.ref ((sd 3).1), .int 0, .int 999]) (rest := [.int 2, .ref (q 14)]) ⟨hx, hb, hml, hown, ht⟩ (sX11_told l G cs sd h q (upd (upd (upd (upd (upd (upd F 8 x30) 9 x31) 10 x32) 11 x33) 12 x34) 13 x35) (vA A 14 g39) D B (IM_arr (k := 14) (IM_put (k := 13) (IM_put (k := 12) (IM_put (k := 11) (IM_put (k := 10) (IM_put (k := 9) (IM_put (k := 8) hI (show (0 : Int) ≤ x30.toInt ∧ x30.toInt ≤ 900 by omega)) (show (0 : Int) ≤ x31.toInt ∧ x31.toInt ≤ 900 by omega)) (show (0 : Int) ≤ x32.toInt ∧ x32.toInt ≤ 4 by omega)) (show (0 : Int) ≤ x33.toInt ∧ x33.toInt ≤ 99999 by omega)) (show (0 : Int) ≤ x34.toInt ∧ x34.toInt ≤ 3 by omega)) (show (-1 : Int) ≤ x35.toInt ∧ x35.toInt ≤ 900 by omega)) hg39) 3 (by decide) 0 999  (show PIk x30 x31 x32 from hr36.1)) okV_RX11_169 ⟨by decide, by decide⟩ hK hP hD hQ hS hA [0, 1, 2, 3, 4, 5, 6, 7, 8, 9, 10, 11, 12, 13, 14, 15, 16, 17, 18, 19] rfl (by decide) rfl 0 rfl rfl hl.1 rfl (Nat.le_of_ble_eq_true rfl) dX11_readLine_58 ⟨(Nat.le_of_ble_eq_true rfl), (Nat.le_of_ble_eq_true rfl)⟩) hP hD hS hA [0, 1, 2, 3, 4, 5, 6, 7, 8, 9, 10, 11, 12, 13, 14, 15, 16, 17, 18, 19] [] rfl rfl (by decide) (by decide) (fun r9 u H locs hu hP hD hS => ?_)
    obtain ⟨x41, x42, x43, x44, x45, x46⟩ := u
    have kk48 : (0 : Int32).toInt = 0 := by decide
    have kk49 : (999 : Int32).toInt = 999 := by decide
    obtain ⟨r47, rfl⟩ : ∃ z, z = r9 := ⟨_, rfl⟩
    obtain ⟨hbx41, hbx42, hbx43, hbx44, hbx45, hbx46, hr47⟩ := hu
    have hbx41 : (0 : Int) ≤ x41.toInt ∧ x41.toInt ≤ 900 := hbx41
    have hbx42 : (0 : Int) ≤ x42.toInt ∧ x42.toInt ≤ 900 := hbx42
    have hbx43 : (0 : Int) ≤ x43.toInt ∧ x43.toInt ≤ 4 := hbx43
    have hbx44 : (0 : Int) ≤ x44.toInt ∧ x44.toInt ≤ 99999 := hbx44
    have hbx45 : (0 : Int) ≤ x45.toInt ∧ x45.toInt ≤ 3 := hbx45
    have hbx46 : (-1 : Int) ≤ x46.toInt ∧ x46.toInt ≤ 900 := hbx46
    have hr47 : PIk x41 x42 x43 ∧ (x31.toInt ≤ x42.toInt) ∧ NMk x45 x34 x31 x42 r47 ((0 : Int32).toInt) ((999 : Int32).toInt) ∧ RBk r47 ((0 : Int32).toInt) ((999 : Int32).toInt) := hr47
    have hP : va_P G vwCl (mS cs h q (upd (upd (upd (upd (upd (upd F 8 x41) 9 x42) 10 x43) 11 x44) 12 x45) 13 x46) (vA A 14 g39) D B) H := hP
    have hD : va_D A0 (mS cs h q (upd (upd (upd (upd (upd (upd F 8 x41) 9 x42) 10 x43) 11 x44) 12 x45) 13 x46) (vA A 14 g39) D B) := hD
    have hbr47 := RBb (A := 0) (B := 999) hr47.2.2.2 (by omega) (by omega)
    refine va_iast hx hb hK.1 hP hD hS 6 0 rfl rfl (show ¬ (_ ∨ _) by decide) dX11_readLine_61 (fun H locs hP hD hS => ?_)
    have hP : va_P G vwCl (mS cs h q (upd (upd (upd (upd (upd (upd F 8 x41) 9 x42) 10 x43) 11 x44) 12 x45) 13 x46) (vA A 14 (upd g39 (2 : Int32).toNatClampNeg r47)) D B) H := hP
    have hD : va_D A0 (mS cs h q (upd (upd (upd (upd (upd (upd F 8 x41) 9 x42) 10 x43) 11 x44) 12 x45) 13 x46) (vA A 14 (upd g39 (2 : Int32).toNatClampNeg r47)) D B) := hD
    obtain ⟨g50, eg50⟩ : ∃ z : Nat → Int32, z = upd g39 (2 : Int32).toNatClampNeg r47 := ⟨_, rfl⟩
    rw [← eg50] at hP hD
    have hg50 : AI 14 g50 := by rw [eg50]; exact AI_upd (fun j => hg39 j) (i32b _)
    refine lv_aload_n hx hb dX11_readLine_62 rfl (lv_at hl 0 rfl) ?_
    refine getF (v := .ref (q 14)) hx hb ht hown hK hP iTX11 0 14 rfl rfl (by decide) fl_RX11_31 rfl dX11_readLine_63 ?_
    refine lv_iconst (v := 3) hx hb dX11_readLine_66 (by decide) ?_
    refine lv_aload_n hx hb dX11_readLine_67 rfl (lv_at hl 0 rfl) ?_
    have hz51 : vk_R "CallForBrownModel" 217 "price" (sd 4).1 s := hQ.2.2.2 ("CallForBrownModel", 217, "price", 4) (List.mem_of_getElem? (i := 4) rfl)
    refine va_ldcS hx hb hown hz51 dX11_readLine_68 ?_
    refine lv_iconst (v := 0) hx hb dX11_readLine_70 (by decide) ?_
    refine lv_sipush (v := 999) hx hb dX11_readLine_71 (by decide) ?_
    refine behDi (wr := []) (runVDS (As := [.ref ((sd 4).1), .int 0, .int 999]) (rest := [.int 3, .ref (q 14)]) ⟨hx, hb, hml, hown, ht⟩ (sX11_told l G cs sd h q (upd (upd (upd (upd (upd (upd F 8 x41) 9 x42) 10 x43) 11 x44) 12 x45) 13 x46) (vA A 14 g50) D B (IM_arr (k := 14) (IM_put (k := 13) (IM_put (k := 12) (IM_put (k := 11) (IM_put (k := 10) (IM_put (k := 9) (IM_put (k := 8) hI (show (0 : Int) ≤ x41.toInt ∧ x41.toInt ≤ 900 by omega)) (show (0 : Int) ≤ x42.toInt ∧ x42.toInt ≤ 900 by omega)) (show (0 : Int) ≤ x43.toInt ∧ x43.toInt ≤ 4 by omega)) (show (0 : Int) ≤ x44.toInt ∧ x44.toInt ≤ 99999 by omega)) (show (0 : Int) ≤ x45.toInt ∧ x45.toInt ≤ 3 by omega)) (show (-1 : Int) ≤ x46.toInt ∧ x46.toInt ≤ 900 by omega)) hg50) 4 (by decide) 0 999  (show PIk x41 x42 x43 from hr47.1)) okV_RX11_169 ⟨by decide, by decide⟩ hK hP hD hQ hS hA [0, 1, 2, 3, 4, 5, 6, 7, 8, 9, 10, 11, 12, 13, 14, 15, 16, 17, 18, 19] rfl (by decide) rfl 0 rfl rfl hl.1 rfl (Nat.le_of_ble_eq_true rfl) dX11_readLine_74 ⟨(Nat.le_of_ble_eq_true rfl), (Nat.le_of_ble_eq_true rfl)⟩) hP hD hS hA [0, 1, 2, 3, 4, 5, 6, 7, 8, 9, 10, 11, 12, 13, 14, 15, 16, 17, 18, 19] [] rfl rfl (by decide) (by decide) (fun r9 u H locs hu hP hD hS => ?_)
    obtain ⟨x52, x53, x54, x55, x56, x57⟩ := u
    have kk59 : (0 : Int32).toInt = 0 := by decide
    have kk60 : (999 : Int32).toInt = 999 := by decide
    obtain ⟨r58, rfl⟩ : ∃ z, z = r9 := ⟨_, rfl⟩
    obtain ⟨hbx52, hbx53, hbx54, hbx55, hbx56, hbx57, hr58⟩ := hu
    have hbx52 : (0 : Int) ≤ x52.toInt ∧ x52.toInt ≤ 900 := hbx52
    have hbx53 : (0 : Int) ≤ x53.toInt ∧ x53.toInt ≤ 900 := hbx53
    have hbx54 : (0 : Int) ≤ x54.toInt ∧ x54.toInt ≤ 4 := hbx54
    have hbx55 : (0 : Int) ≤ x55.toInt ∧ x55.toInt ≤ 99999 := hbx55
    have hbx56 : (0 : Int) ≤ x56.toInt ∧ x56.toInt ≤ 3 := hbx56
    have hbx57 : (-1 : Int) ≤ x57.toInt ∧ x57.toInt ≤ 900 := hbx57
    have hr58 : PIk x52 x53 x54 ∧ (x42.toInt ≤ x53.toInt) ∧ NMk x56 x45 x42 x53 r58 ((0 : Int32).toInt) ((999 : Int32).toInt) ∧ RBk r58 ((0 : Int32).toInt) ((999 : Int32).toInt) := hr58
    have hP : va_P G vwCl (mS cs h q (upd (upd (upd (upd (upd (upd F 8 x52) 9 x53) 10 x54) 11 x55) 12 x56) 13 x57) (vA A 14 g50) D B) H := hP
    have hD : va_D A0 (mS cs h q (upd (upd (upd (upd (upd (upd F 8 x52) 9 x53) 10 x54) 11 x55) 12 x56) 13 x57) (vA A 14 g50) D B) := hD
    have hbr58 := RBb (A := 0) (B := 999) hr58.2.2.2 (by omega) (by omega)
    refine va_iast hx hb hK.1 hP hD hS 6 0 rfl rfl (show ¬ (_ ∨ _) by decide) dX11_readLine_77 (fun H locs hP hD hS => ?_)
    have hP : va_P G vwCl (mS cs h q (upd (upd (upd (upd (upd (upd F 8 x52) 9 x53) 10 x54) 11 x55) 12 x56) 13 x57) (vA A 14 (upd g50 (3 : Int32).toNatClampNeg r58)) D B) H := hP
    have hD : va_D A0 (mS cs h q (upd (upd (upd (upd (upd (upd F 8 x52) 9 x53) 10 x54) 11 x55) 12 x56) 13 x57) (vA A 14 (upd g50 (3 : Int32).toNatClampNeg r58)) D B) := hD
    obtain ⟨g61, eg61⟩ : ∃ z : Nat → Int32, z = upd g50 (3 : Int32).toNatClampNeg r58 := ⟨_, rfl⟩
    rw [← eg61] at hP hD
    have hg61 : AI 14 g61 := by rw [eg61]; exact AI_upd (fun j => hg50 j) (i32b _)
    refine lv_goto (tgt := 85) hx hb dX11_readLine_78 (by decide) ?_
    exact B85 x52 x53 x54 x55 x56 x57 g61 H locs ls (by omega) (by omega) (by omega) (by omega) (by omega) (by omega) hg61 hr58.1 (by have k0 : (0 : Int32).toInt = 0 := (by decide); have k1 : (1 : Int32).toInt = 1 := (by decide); omega) (fun q9 => (hr17.2.2 (hr25.2.2.1 (hr36.2.2.1 (hr47.2.2.1 (hr58.2.2.1 q9).1).1).1).1).1) (fun q9 => (WGe (WGe (WGe (WGe (hWG (hr17.2.2 (hr25.2.2.1 (hr36.2.2.1 (hr47.2.2.1 (hr58.2.2.1 q9).1).1).1).1).1) eg28 ((fun j => hI.2 14 j) 5).2 (by decide)) eg39 (hg28 5).2 (by decide)) eg50 (hg39 5).2 (by decide)) eg61 (hg50 5).2 (by decide))) hP hD hS (lv_sub hl [0] rfl)

set_option maxRecDepth 100000 in
set_option maxHeartbeats 8000000 in
theorem sX11_house (l : Launch) (G : va_G) (cs : Nat → ClassId) (sd : Nat → Nat × Nat) (h : Nat) (q : Nat → Nat) (F : Nat → Int32) (A : Nat → Nat → Int32) (D : Int64) (B : Nat → Nat → Int64) (hI : IM F A) (hWG1 : WG (A 1)) : ∀ sz : Nat, Met l yX11_house (wk yX11_house cX11_house 2 (some .int)) (rmk 11 0 0) (PreDS SRM sd G (TY cs) [.ref h] (mS cs h q F A D B) sz) ((QDi G (fun (r : Int32) (u : Int32 × Int32 × Int32 × Int32 × Int32 × Int32 × Int32 × Int32 × (Nat → Int32) × (Nat → Int32)) => ((0 : Int) ≤ u.1.toInt ∧ u.1.toInt ≤ 900) ∧ ((0 : Int) ≤ u.2.1.toInt ∧ u.2.1.toInt ≤ 900) ∧ ((0 : Int) ≤ u.2.2.1.toInt ∧ u.2.2.1.toInt ≤ 900) ∧ ((0 : Int) ≤ u.2.2.2.1.toInt ∧ u.2.2.2.1.toInt ≤ 900) ∧ ((0 : Int) ≤ u.2.2.2.2.1.toInt ∧ u.2.2.2.2.1.toInt ≤ 4) ∧ ((0 : Int) ≤ u.2.2.2.2.2.1.toInt ∧ u.2.2.2.2.2.1.toInt ≤ 99999) ∧ ((0 : Int) ≤ u.2.2.2.2.2.2.1.toInt ∧ u.2.2.2.2.2.2.1.toInt ≤ 3) ∧ ((-1 : Int) ≤ u.2.2.2.2.2.2.2.1.toInt ∧ u.2.2.2.2.2.2.2.1.toInt ≤ 900) ∧ AI 1 u.2.2.2.2.2.2.2.2.1 ∧ AI 14 u.2.2.2.2.2.2.2.2.2 ∧ (WG u.2.2.2.2.2.2.2.2.1)) (fun u : Int32 × Int32 × Int32 × Int32 × Int32 × Int32 × Int32 × Int32 × (Nat → Int32) × (Nat → Int32) => (mS cs h q (upd (upd (upd (upd (upd (upd (upd (upd F 5 u.1) 7 u.2.1) 8 u.2.2.1) 9 u.2.2.2.1) 10 u.2.2.2.2.1) 11 u.2.2.2.2.2.1) 12 u.2.2.2.2.2.2.1) 13 u.2.2.2.2.2.2.2.1) (vA (vA A 1 u.2.2.2.2.2.2.2.2.1) 14 u.2.2.2.2.2.2.2.2.2) D B))) (va_A (mS cs h q F A D B) sz)) 0 0 (va_A (mS cs h q F A D B) sz) := by
  refine mkDS (Qc := (QDi G (fun (r : Int32) (u : Int32 × Int32 × Int32 × Int32 × Int32 × Int32 × Int32 × Int32 × (Nat → Int32) × (Nat → Int32)) => ((0 : Int) ≤ u.1.toInt ∧ u.1.toInt ≤ 900) ∧ ((0 : Int) ≤ u.2.1.toInt ∧ u.2.1.toInt ≤ 900) ∧ ((0 : Int) ≤ u.2.2.1.toInt ∧ u.2.2.1.toInt ≤ 900) ∧ ((0 : Int) ≤ u.2.2.2.1.toInt ∧ u.2.2.2.1.toInt ≤ 900) ∧ ((0 : Int) ≤ u.2.2.2.2.1.toInt ∧ u.2.2.2.2.1.toInt ≤ 4) ∧ ((0 : Int) ≤ u.2.2.2.2.2.1.toInt ∧ u.2.2.2.2.2.1.toInt ≤ 99999) ∧ ((0 : Int) ≤ u.2.2.2.2.2.2.1.toInt ∧ u.2.2.2.2.2.2.1.toInt ≤ 3) ∧ ((-1 : Int) ≤ u.2.2.2.2.2.2.2.1.toInt ∧ u.2.2.2.2.2.2.2.1.toInt ≤ 900) ∧ AI 1 u.2.2.2.2.2.2.2.2.1 ∧ AI 14 u.2.2.2.2.2.2.2.2.2 ∧ (WG u.2.2.2.2.2.2.2.2.1)) (fun u : Int32 × Int32 × Int32 × Int32 × Int32 × Int32 × Int32 × Int32 × (Nat → Int32) × (Nat → Int32) => (mS cs h q (upd (upd (upd (upd (upd (upd (upd (upd F 5 u.1) 7 u.2.1) 8 u.2.2.1) 9 u.2.2.2.1) 10 u.2.2.2.2.1) 11 u.2.2.2.2.2.1) 12 u.2.2.2.2.2.2.1) 13 u.2.2.2.2.2.2.2.1) (vA (vA A 1 u.2.2.2.2.2.2.2.2.1) 14 u.2.2.2.2.2.2.2.2.2) D B)))) (by decide) (by simp [lg_sl, Value.category]) ?_
  intro p e s m args below meth c ls A0 hx hb hml hr hlk hown hmn ht hK hP hD hS hA hQ hl
  have hl : lv_has ls 2 [(0, .ref h)] := hl
  refine lv_aload_n hx hb dX11_house_0 rfl (lv_at hl 0 rfl) ?_
  refine lv_aload_n hx hb dX11_house_1 rfl (lv_at hl 0 rfl) ?_
  refine getF (v := .int (F 5)) hx hb ht hown hK hP iTX11 0 5 rfl rfl (by decide) fl_RX11_93 rfl dX11_house_2 ?_
  have zf1 : (0 : Int) ≤ (F 5).toInt ∧ (F 5).toInt ≤ 900 := hI.1 5
  refine putD hx hb ht hown hK hP hD hS iTX11 tyX11 tyX11_ok nmX11 0 7 rfl rfl (by decide) fl_RX11_96 rfl rfl rfl (Nat.le_of_ble_eq_true rfl) dX11_house_5 (fun H locs hP hD hS => ?_)
  have hP : va_P G vwCl (mS cs h q (upd F 7 (F 5)) A D B) H := hP
  have hD : va_D A0 (mS cs h q (upd F 7 (F 5)) A D B) := hD
  refine lv_aload_n hx hb dX11_house_8 rfl (lv_at hl 0 rfl) ?_
  refine lv_iconst (v := 0) hx hb dX11_house_9 (by decide) ?_
  refine putD hx hb ht hown hK hP hD hS iTX11 tyX11 tyX11_ok nmX11 0 5 rfl rfl (by decide) fl_RX11_93 rfl rfl rfl (Nat.le_of_ble_eq_true rfl) dX11_house_10 (fun H locs hP hD hS => ?_)
  have hP : va_P G vwCl (mS cs h q (upd (upd F 5 0) 7 (F 5)) A D B) H := hP
  have hD : va_D A0 (mS cs h q (upd (upd F 5 0) 7 (F 5)) A D B) := hD
  refine lv_aload_n hx hb dX11_house_13 rfl (lv_at hl 0 rfl) ?_
  refine lv_iconst (v := 0) hx hb dX11_house_14 (by decide) ?_
  refine putD hx hb ht hown hK hP hD hS iTX11 tyX11 tyX11_ok nmX11 0 8 rfl rfl (by decide) fl_RX11_99 rfl rfl rfl (Nat.le_of_ble_eq_true rfl) dX11_house_15 (fun H locs hP hD hS => ?_)
  have hP : va_P G vwCl (mS cs h q (upd (upd (upd F 5 0) 7 (F 5)) 8 0) A D B) H := hP
  have hD : va_D A0 (mS cs h q (upd (upd (upd F 5 0) 7 (F 5)) 8 0) A D B) := hD
  refine lv_aload_n hx hb dX11_house_18 rfl (lv_at hl 0 rfl) ?_
  refine lv_iconst (v := 0) hx hb dX11_house_19 (by decide) ?_
  refine putD hx hb ht hown hK hP hD hS iTX11 tyX11 tyX11_ok nmX11 0 12 rfl rfl (by decide) fl_RX11_130 rfl rfl rfl (Nat.le_of_ble_eq_true rfl) dX11_house_20 (fun H locs hP hD hS => ?_)
  have hP : va_P G vwCl (mS cs h q (upd (upd (upd (upd F 5 0) 7 (F 5)) 8 0) 12 0) A D B) H := hP
  have hD : va_D A0 (mS cs h q (upd (upd (upd (upd F 5 0) 7 (F 5)) 8 0) 12 0) A D B) := hD
  refine lv_aload_n hx hb dX11_house_23 rfl (lv_at hl 0 rfl) ?_
  refine lv_iconst (v := (-1)) hx hb dX11_house_24 (by decide) ?_
  refine putD hx hb ht hown hK hP hD hS iTX11 tyX11 tyX11_ok nmX11 0 13 rfl rfl (by decide) fl_RX11_27 rfl rfl rfl (Nat.le_of_ble_eq_true rfl) dX11_house_25 (fun H locs hP hD hS => ?_)
  have hP : va_P G vwCl (mS cs h q (upd (upd (upd (upd (upd F 5 0) 7 (F 5)) 8 0) 12 0) 13 (-1)) A D B) H := hP
  have hD : va_D A0 (mS cs h q (upd (upd (upd (upd (upd F 5 0) 7 (F 5)) 8 0) 12 0) 13 (-1)) A D B) := hD
  refine lv_iconst (v := 0) hx hb dX11_house_28 (by decide) ?_
  refine lv_istore_n (lv' := [(1, .int 0), (0, .ref h)]) hx hb dX11_house_29 rfl hl (by decide) rfl (fun ls hl => ?_)
  have B30 : ∀ (n : Nat) (x30_1 : Int32) (a14_30 : (Nat → Int32)) (H : Heap) (locs : List Loc) (ls : Array Slot), (144 - x30_1.toInt).toNat < n → (0 : Int) ≤ x30_1.toInt ∧ x30_1.toInt ≤ 144 → AI 14 a14_30 → (ZR0 a14_30 x30_1.toInt) → va_P G vwCl (mS cs h q (upd (upd (upd (upd (upd F 5 0) 7 (F 5)) 8 0) 12 0) 13 (-1)) (vA A 14 a14_30) D B) H → va_D A0 (mS cs h q (upd (upd (upd (upd (upd F 5 0) 7 (F 5)) 8 0) 12 0) 13 (-1)) (vA A 14 a14_30) D B) → va_S A0 s.heap H locs → lv_has ls 2 [(0, .ref h), (1, .int x30_1)] → W p l e (rmk 11 0 0) s m args below meth c H locs 0 0 (MQ below ((QDi G (fun (r : Int32) (u : Int32 × Int32 × Int32 × Int32 × Int32 × Int32 × Int32 × Int32 × (Nat → Int32) × (Nat → Int32)) => ((0 : Int) ≤ u.1.toInt ∧ u.1.toInt ≤ 900) ∧ ((0 : Int) ≤ u.2.1.toInt ∧ u.2.1.toInt ≤ 900) ∧ ((0 : Int) ≤ u.2.2.1.toInt ∧ u.2.2.1.toInt ≤ 900) ∧ ((0 : Int) ≤ u.2.2.2.1.toInt ∧ u.2.2.2.1.toInt ≤ 900) ∧ ((0 : Int) ≤ u.2.2.2.2.1.toInt ∧ u.2.2.2.2.1.toInt ≤ 4) ∧ ((0 : Int) ≤ u.2.2.2.2.2.1.toInt ∧ u.2.2.2.2.2.1.toInt ≤ 99999) ∧ ((0 : Int) ≤ u.2.2.2.2.2.2.1.toInt ∧ u.2.2.2.2.2.2.1.toInt ≤ 3) ∧ ((-1 : Int) ≤ u.2.2.2.2.2.2.2.1.toInt ∧ u.2.2.2.2.2.2.2.1.toInt ≤ 900) ∧ AI 1 u.2.2.2.2.2.2.2.2.1 ∧ AI 14 u.2.2.2.2.2.2.2.2.2 ∧ (WG u.2.2.2.2.2.2.2.2.1)) (fun u : Int32 × Int32 × Int32 × Int32 × Int32 × Int32 × Int32 × Int32 × (Nat → Int32) × (Nat → Int32) => (mS cs h q (upd (upd (upd (upd (upd (upd (upd (upd F 5 u.1) 7 u.2.1) 8 u.2.2.1) 9 u.2.2.2.1) 10 u.2.2.2.2.1) 11 u.2.2.2.2.2.1) 12 u.2.2.2.2.2.2.1) 13 u.2.2.2.2.2.2.2.1) (vA (vA A 1 u.2.2.2.2.2.2.2.2.1) 14 u.2.2.2.2.2.2.2.2.2) D B))) A0) args s 0 0 A0) (F0 m 30 ls []) := by
    intro n
    induction n with
    | zero => intro x30_1 a14_30 H locs ls hmeas hx30_1 ha14_30 hz hP hD hS hl; exact absurd hmeas (Nat.not_lt_zero _)
    | succ n ih30 =>
      intro x30_1 a14_30 H locs ls hmeas hx30_1 ha14_30 hz hP hD hS hl
      refine lv_iload_n hx hb dX11_house_30 rfl (lv_at hl 1 rfl) ?_
      refine lv_sipush (v := 144) hx hb dX11_house_31 (by decide) ?_
      refine lv_icmp_ge (tgt := 50) hx hb dX11_house_34 (by decide) (fun c19001 => ?_) (fun c19001 => ?_)
      · have zc19001 := leK (show (144 : Int32).toInt = 144 by decide) rfl c19001
        refine lv_aload_n hx hb dX11_house_50 rfl (lv_at hl 0 rfl) ?_
        refine behDw (wr := []) (runVD (As := []) (rest := []) ⟨hx, hb, hml, hown, ht⟩ (sX11_advance l G cs h q (upd (upd (upd (upd (upd F 5 0) 7 (F 5)) 8 0) 12 0) 13 (-1)) (vA A 14 a14_30) D B (IM_arr (k := 14) (IM_put (k := 13) (IM_put (k := 12) (IM_put (k := 8) (IM_put (k := 7) (IM_put (k := 5) hI (by decide)) (show (0 : Int) ≤ (F 5).toInt ∧ (F 5).toInt ≤ 900 by omega)) (by decide)) (by decide)) (by decide)) ha14_30)  ) okV_RX11_150 ⟨by decide, by decide⟩ hK hP hD [0, 1, 2, 3, 4, 5, 6, 7, 8, 9, 10, 11, 12, 13, 14, 15, 16, 17, 18, 19] rfl (by decide) rfl 0 rfl rfl hl.1 rfl (Nat.le_of_ble_eq_true rfl) dX11_house_51 ⟨(Nat.le_of_ble_eq_true rfl), (Nat.le_of_ble_eq_true rfl)⟩) hP hD hS hA [0, 1, 2, 3, 4, 5, 6, 7, 8, 9, 10, 11, 12, 13, 14, 15, 16, 17, 18, 19] [] rfl rfl (by decide) (by decide) (fun u H locs hu hP hD hS => ?_)
        obtain ⟨x19002, x19003, x19004, x19005⟩ := u
        obtain ⟨hbx19002, hbx19003, hbx19004, hbx19005, hr19006⟩ := hu
        have hbx19002 : (0 : Int) ≤ x19002.toInt ∧ x19002.toInt ≤ 900 := hbx19002
        have hbx19003 : (0 : Int) ≤ x19003.toInt ∧ x19003.toInt ≤ 900 := hbx19003
        have hbx19004 : (0 : Int) ≤ x19004.toInt ∧ x19004.toInt ≤ 4 := hbx19004
        have hbx19005 : (0 : Int) ≤ x19005.toInt ∧ x19005.toInt ≤ 99999 := hbx19005
        have hr19006 : (0 : Int32).toInt ≤ x19003.toInt ∧ PIk x19002 x19003 x19004 := hr19006
        have hP : va_P G vwCl (mS cs h q (upd (upd (upd (upd (upd (upd (upd (upd F 5 0) 7 (F 5)) 8 x19002) 9 x19003) 10 x19004) 11 x19005) 12 0) 13 (-1)) (vA A 14 a14_30) D B) H := hP
        have hD : va_D A0 (mS cs h q (upd (upd (upd (upd (upd (upd (upd (upd F 5 0) 7 (F 5)) 8 x19002) 9 x19003) 10 x19004) 11 x19005) 12 0) 13 (-1)) (vA A 14 a14_30) D B) := hD
        have B54 : ∀ (n : Nat) (f8_54 : Int32) (f9_54 : Int32) (f10_54 : Int32) (f11_54 : Int32) (f12_54 : Int32) (f13_54 : Int32) (a14_54 : (Nat → Int32)) (H : Heap) (locs : List Loc) (ls : Array Slot), (902 - f9_54.toInt - min f12_54.toInt 1).toNat < n → (0 : Int) ≤ f8_54.toInt ∧ f8_54.toInt ≤ 900 → (0 : Int) ≤ f9_54.toInt ∧ f9_54.toInt ≤ 900 → (0 : Int) ≤ f10_54.toInt ∧ f10_54.toInt ≤ 4 → (0 : Int) ≤ f11_54.toInt ∧ f11_54.toInt ≤ 99999 → (0 : Int) ≤ f12_54.toInt ∧ f12_54.toInt ≤ 3 → (-1 : Int) ≤ f13_54.toInt ∧ f13_54.toInt ≤ 900 → AI 14 a14_54 → (PIk f8_54 f9_54 f10_54) → (WGk f12_54 a14_54) → va_P G vwCl (mS cs h q (upd (upd (upd (upd (upd (upd (upd (upd F 5 0) 7 (F 5)) 8 f8_54) 9 f9_54) 10 f10_54) 11 f11_54) 12 f12_54) 13 f13_54) (vA A 14 a14_54) D B) H → va_D A0 (mS cs h q (upd (upd (upd (upd (upd (upd (upd (upd F 5 0) 7 (F 5)) 8 f8_54) 9 f9_54) 10 f10_54) 11 f11_54) 12 f12_54) 13 f13_54) (vA A 14 a14_54) D B) → va_S A0 s.heap H locs → lv_has ls 2 [(0, .ref h)] → W p l e (rmk 11 0 0) s m args below meth c H locs 0 0 (MQ below ((QDi G (fun (r : Int32) (u : Int32 × Int32 × Int32 × Int32 × Int32 × Int32 × Int32 × Int32 × (Nat → Int32) × (Nat → Int32)) => ((0 : Int) ≤ u.1.toInt ∧ u.1.toInt ≤ 900) ∧ ((0 : Int) ≤ u.2.1.toInt ∧ u.2.1.toInt ≤ 900) ∧ ((0 : Int) ≤ u.2.2.1.toInt ∧ u.2.2.1.toInt ≤ 900) ∧ ((0 : Int) ≤ u.2.2.2.1.toInt ∧ u.2.2.2.1.toInt ≤ 900) ∧ ((0 : Int) ≤ u.2.2.2.2.1.toInt ∧ u.2.2.2.2.1.toInt ≤ 4) ∧ ((0 : Int) ≤ u.2.2.2.2.2.1.toInt ∧ u.2.2.2.2.2.1.toInt ≤ 99999) ∧ ((0 : Int) ≤ u.2.2.2.2.2.2.1.toInt ∧ u.2.2.2.2.2.2.1.toInt ≤ 3) ∧ ((-1 : Int) ≤ u.2.2.2.2.2.2.2.1.toInt ∧ u.2.2.2.2.2.2.2.1.toInt ≤ 900) ∧ AI 1 u.2.2.2.2.2.2.2.2.1 ∧ AI 14 u.2.2.2.2.2.2.2.2.2 ∧ (WG u.2.2.2.2.2.2.2.2.1)) (fun u : Int32 × Int32 × Int32 × Int32 × Int32 × Int32 × Int32 × Int32 × (Nat → Int32) × (Nat → Int32) => (mS cs h q (upd (upd (upd (upd (upd (upd (upd (upd F 5 u.1) 7 u.2.1) 8 u.2.2.1) 9 u.2.2.2.1) 10 u.2.2.2.2.1) 11 u.2.2.2.2.2.1) 12 u.2.2.2.2.2.2.1) 13 u.2.2.2.2.2.2.2.1) (vA (vA A 1 u.2.2.2.2.2.2.2.2.1) 14 u.2.2.2.2.2.2.2.2.2) D B))) A0) args s 0 0 A0) (F0 m 54 ls []) := by
          intro n
          induction n with
          | zero => intro f8_54 f9_54 f10_54 f11_54 f12_54 f13_54 a14_54 H locs ls hmeas hf8_54 hf9_54 hf10_54 hf11_54 hf12_54 hf13_54 ha14_54 hp hwk hP hD hS hl; exact absurd hmeas (Nat.not_lt_zero _)
          | succ n ih54 =>
            intro f8_54 f9_54 f10_54 f11_54 f12_54 f13_54 a14_54 H locs ls hmeas hf8_54 hf9_54 hf10_54 hf11_54 hf12_54 hf13_54 ha14_54 hp hwk hP hD hS hl
            refine lv_aload_n hx hb dX11_house_54 rfl (lv_at hl 0 rfl) ?_
            refine behR (runVP (As := []) (rest := []) ⟨hx, hb, hml, hown, ht⟩ (sX11_good l G cs h q (upd (upd (upd (upd (upd (upd (upd (upd F 5 0) 7 (F 5)) 8 f8_54) 9 f9_54) 10 f10_54) 11 f11_54) 12 f12_54) 13 f13_54) (vA A 14 a14_54) D B (IM_arr (k := 14) (IM_put (k := 13) (IM_put (k := 12) (IM_put (k := 11) (IM_put (k := 10) (IM_put (k := 9) (IM_put (k := 8) (IM_put (k := 7) (IM_put (k := 5) hI (by decide)) (show (0 : Int) ≤ (F 5).toInt ∧ (F 5).toInt ≤ 900 by omega)) (show (0 : Int) ≤ f8_54.toInt ∧ f8_54.toInt ≤ 900 by omega)) (show (0 : Int) ≤ f9_54.toInt ∧ f9_54.toInt ≤ 900 by omega)) (show (0 : Int) ≤ f10_54.toInt ∧ f10_54.toInt ≤ 4 by omega)) (show (0 : Int) ≤ f11_54.toInt ∧ f11_54.toInt ≤ 99999 by omega)) (show (0 : Int) ≤ f12_54.toInt ∧ f12_54.toInt ≤ 3 by omega)) (show (-1 : Int) ≤ f13_54.toInt ∧ f13_54.toInt ≤ 900 by omega)) ha14_54)  ) okV_RX11_133 ⟨by decide, by decide⟩ hK hP [0, 1, 2, 3, 4, 5, 6, 7, 8, 9, 10, 11, 12, 13, 14, 15, 16, 17, 18, 19] rfl 0 rfl rfl hl.1 rfl (Nat.le_of_ble_eq_true rfl) dX11_house_55 ⟨by decide, by decide⟩) hP hS hA (fun r31001 H locs hr31001 hP hS => ?_)
            have hr31001 : (r31001.toInt = 1 ∧ f12_54.toInt = 0) ∨ (r31001.toInt = 0 ∧ ¬ f12_54.toInt = 0) := hr31001
            have B75 : ∀ (H : Heap) (locs : List Loc) (ls : Array Slot), va_P G vwCl (mS cs h q (upd (upd (upd (upd (upd (upd (upd (upd F 5 0) 7 (F 5)) 8 f8_54) 9 f9_54) 10 f10_54) 11 f11_54) 12 f12_54) 13 f13_54) (vA A 14 a14_54) D B) H → va_D A0 (mS cs h q (upd (upd (upd (upd (upd (upd (upd (upd F 5 0) 7 (F 5)) 8 f8_54) 9 f9_54) 10 f10_54) 11 f11_54) 12 f12_54) 13 f13_54) (vA A 14 a14_54) D B) → va_S A0 s.heap H locs → lv_has ls 2 [(0, .ref h)] → W p l e (rmk 11 0 0) s m args below meth c H locs 0 0 (MQ below ((QDi G (fun (r : Int32) (u : Int32 × Int32 × Int32 × Int32 × Int32 × Int32 × Int32 × Int32 × (Nat → Int32) × (Nat → Int32)) => ((0 : Int) ≤ u.1.toInt ∧ u.1.toInt ≤ 900) ∧ ((0 : Int) ≤ u.2.1.toInt ∧ u.2.1.toInt ≤ 900) ∧ ((0 : Int) ≤ u.2.2.1.toInt ∧ u.2.2.1.toInt ≤ 900) ∧ ((0 : Int) ≤ u.2.2.2.1.toInt ∧ u.2.2.2.1.toInt ≤ 900) ∧ ((0 : Int) ≤ u.2.2.2.2.1.toInt ∧ u.2.2.2.2.1.toInt ≤ 4) ∧ ((0 : Int) ≤ u.2.2.2.2.2.1.toInt ∧ u.2.2.2.2.2.1.toInt ≤ 99999) ∧ ((0 : Int) ≤ u.2.2.2.2.2.2.1.toInt ∧ u.2.2.2.2.2.2.1.toInt ≤ 3) ∧ ((-1 : Int) ≤ u.2.2.2.2.2.2.2.1.toInt ∧ u.2.2.2.2.2.2.2.1.toInt ≤ 900) ∧ AI 1 u.2.2.2.2.2.2.2.2.1 ∧ AI 14 u.2.2.2.2.2.2.2.2.2 ∧ (WG u.2.2.2.2.2.2.2.2.1)) (fun u : Int32 × Int32 × Int32 × Int32 × Int32 × Int32 × Int32 × Int32 × (Nat → Int32) × (Nat → Int32) => (mS cs h q (upd (upd (upd (upd (upd (upd (upd (upd F 5 u.1) 7 u.2.1) 8 u.2.2.1) 9 u.2.2.2.1) 10 u.2.2.2.2.1) 11 u.2.2.2.2.2.1) 12 u.2.2.2.2.2.2.1) 13 u.2.2.2.2.2.2.2.1) (vA (vA A 1 u.2.2.2.2.2.2.2.2.1) 14 u.2.2.2.2.2.2.2.2.2) D B))) A0) args s 0 0 A0) (F0 m 75 ls []) := by
              intro H locs ls hP hD hS hl
              refine lv_aload_n hx hb dX11_house_75 rfl (lv_at hl 0 rfl) ?_
              refine behR (runVP (As := []) (rest := []) ⟨hx, hb, hml, hown, ht⟩ (sX11_good l G cs h q (upd (upd (upd (upd (upd (upd (upd (upd F 5 0) 7 (F 5)) 8 f8_54) 9 f9_54) 10 f10_54) 11 f11_54) 12 f12_54) 13 f13_54) (vA A 14 a14_54) D B (IM_arr (k := 14) (IM_put (k := 13) (IM_put (k := 12) (IM_put (k := 11) (IM_put (k := 10) (IM_put (k := 9) (IM_put (k := 8) (IM_put (k := 7) (IM_put (k := 5) hI (by decide)) (show (0 : Int) ≤ (F 5).toInt ∧ (F 5).toInt ≤ 900 by omega)) (show (0 : Int) ≤ f8_54.toInt ∧ f8_54.toInt ≤ 900 by omega)) (show (0 : Int) ≤ f9_54.toInt ∧ f9_54.toInt ≤ 900 by omega)) (show (0 : Int) ≤ f10_54.toInt ∧ f10_54.toInt ≤ 4 by omega)) (show (0 : Int) ≤ f11_54.toInt ∧ f11_54.toInt ≤ 99999 by omega)) (show (0 : Int) ≤ f12_54.toInt ∧ f12_54.toInt ≤ 3 by omega)) (show (-1 : Int) ≤ f13_54.toInt ∧ f13_54.toInt ≤ 900 by omega)) ha14_54)  ) okV_RX11_133 ⟨by decide, by decide⟩ hK hP [0, 1, 2, 3, 4, 5, 6, 7, 8, 9, 10, 11, 12, 13, 14, 15, 16, 17, 18, 19] rfl 0 rfl rfl hl.1 rfl (Nat.le_of_ble_eq_true rfl) dX11_house_76 ⟨by decide, by decide⟩) hP hS hA (fun r40001 H locs hr40001 hP hS => ?_)
              have hr40001 : (r40001.toInt = 1 ∧ f12_54.toInt = 0) ∨ (r40001.toInt = 0 ∧ ¬ f12_54.toInt = 0) := hr40001
              refine lv_if_ne (tgt := 85) hx hb dX11_house_79 (by decide) (fun c40002 => ?_) (fun c40002 => ?_)
              · have zc40002 := neK rfl (show (0 : Int32).toInt = 0 by decide) c40002
                refine lv_iconst (v := 0) hx hb dX11_house_85 (by decide) ?_
                refine lv_istore_n (lv' := [(1, .int 0), (0, .ref h)]) hx hb dX11_house_86 rfl hl (by decide) rfl (fun ls hl => ?_)
                have B87 : ∀ (n : Nat) (x87_1 : Int32) (a1_87 : (Nat → Int32)) (H : Heap) (locs : List Loc) (ls : Array Slot), (144 - x87_1.toInt).toNat < n → (0 : Int) ≤ x87_1.toInt ∧ x87_1.toInt ≤ 144 → AI 1 a1_87 → (CPY a14_54 a1_87 x87_1.toInt) → va_P G vwCl (mS cs h q (upd (upd (upd (upd (upd (upd (upd (upd F 5 0) 7 (F 5)) 8 f8_54) 9 f9_54) 10 f10_54) 11 f11_54) 12 f12_54) 13 f13_54) (vA (vA A 1 a1_87) 14 a14_54) D B) H → va_D A0 (mS cs h q (upd (upd (upd (upd (upd (upd (upd (upd F 5 0) 7 (F 5)) 8 f8_54) 9 f9_54) 10 f10_54) 11 f11_54) 12 f12_54) 13 f13_54) (vA (vA A 1 a1_87) 14 a14_54) D B) → va_S A0 s.heap H locs → lv_has ls 2 [(0, .ref h), (1, .int x87_1)] → W p l e (rmk 11 0 0) s m args below meth c H locs 0 0 (MQ below ((QDi G (fun (r : Int32) (u : Int32 × Int32 × Int32 × Int32 × Int32 × Int32 × Int32 × Int32 × (Nat → Int32) × (Nat → Int32)) => ((0 : Int) ≤ u.1.toInt ∧ u.1.toInt ≤ 900) ∧ ((0 : Int) ≤ u.2.1.toInt ∧ u.2.1.toInt ≤ 900) ∧ ((0 : Int) ≤ u.2.2.1.toInt ∧ u.2.2.1.toInt ≤ 900) ∧ ((0 : Int) ≤ u.2.2.2.1.toInt ∧ u.2.2.2.1.toInt ≤ 900) ∧ ((0 : Int) ≤ u.2.2.2.2.1.toInt ∧ u.2.2.2.2.1.toInt ≤ 4) ∧ ((0 : Int) ≤ u.2.2.2.2.2.1.toInt ∧ u.2.2.2.2.2.1.toInt ≤ 99999) ∧ ((0 : Int) ≤ u.2.2.2.2.2.2.1.toInt ∧ u.2.2.2.2.2.2.1.toInt ≤ 3) ∧ ((-1 : Int) ≤ u.2.2.2.2.2.2.2.1.toInt ∧ u.2.2.2.2.2.2.2.1.toInt ≤ 900) ∧ AI 1 u.2.2.2.2.2.2.2.2.1 ∧ AI 14 u.2.2.2.2.2.2.2.2.2 ∧ (WG u.2.2.2.2.2.2.2.2.1)) (fun u : Int32 × Int32 × Int32 × Int32 × Int32 × Int32 × Int32 × Int32 × (Nat → Int32) × (Nat → Int32) => (mS cs h q (upd (upd (upd (upd (upd (upd (upd (upd F 5 u.1) 7 u.2.1) 8 u.2.2.1) 9 u.2.2.2.1) 10 u.2.2.2.2.1) 11 u.2.2.2.2.2.1) 12 u.2.2.2.2.2.2.1) 13 u.2.2.2.2.2.2.2.1) (vA (vA A 1 u.2.2.2.2.2.2.2.2.1) 14 u.2.2.2.2.2.2.2.2.2) D B))) A0) args s 0 0 A0) (F0 m 87 ls []) := by
                  intro n
                  induction n with
                  | zero => intro x87_1 a1_87 H locs ls hmeas hx87_1 ha1_87 hcp hP hD hS hl; exact absurd hmeas (Nat.not_lt_zero _)
                  | succ n ih87 =>
                    intro x87_1 a1_87 H locs ls hmeas hx87_1 ha1_87 hcp hP hD hS hl
                    refine lv_iload_n hx hb dX11_house_87 rfl (lv_at hl 1 rfl) ?_
                    refine lv_sipush (v := 144) hx hb dX11_house_88 (by decide) ?_
                    refine lv_icmp_ge (tgt := 112) hx hb dX11_house_91 (by decide) (fun c47001 => ?_) (fun c47001 => ?_)
                    · have zc47001 := leK (show (144 : Int32).toInt = 144 by decide) rfl c47001
                      refine lv_aload_n hx hb dX11_house_112 rfl (lv_at hl 0 rfl) ?_
                      refine getF (v := .ref (q 1)) hx hb ht hown hK hP iTX11 0 1 rfl rfl (by decide) fl_RX11_9 rfl dX11_house_113 ?_
                      refine lv_bipush (v := 6) hx hb dX11_house_116 (by decide) ?_
                      refine va_iald hx hb hK.1 hP 1 0 rfl rfl (show ¬ (_ ∨ _) by decide) dX11_house_118 ?_
                      refine W.eq (g2 := F0 m 119 ls [.int (a1_87 6)]) rfl ?_
                      exact retDi (0, (F 5), f8_54, f9_54, f10_54, f11_54, f12_54, f13_54, a1_87, a14_54) hx hb hr hlk hP hD hS dX11_house_119 (⟨show (0 : Int) ≤ (0 : Int32).toInt ∧ (0 : Int32).toInt ≤ 900 by decide, show (0 : Int) ≤ (F 5).toInt ∧ (F 5).toInt ≤ 900 by omega, show (0 : Int) ≤ f8_54.toInt ∧ f8_54.toInt ≤ 900 by omega, show (0 : Int) ≤ f9_54.toInt ∧ f9_54.toInt ≤ 900 by omega, show (0 : Int) ≤ f10_54.toInt ∧ f10_54.toInt ≤ 4 by omega, show (0 : Int) ≤ f11_54.toInt ∧ f11_54.toInt ≤ 99999 by omega, show (0 : Int) ≤ f12_54.toInt ∧ f12_54.toInt ≤ 3 by omega, show (-1 : Int) ≤ f13_54.toInt ∧ f13_54.toInt ≤ 900 by omega, ha1_87, ha14_54, WGcp hcp (by omega) (ha14_54 5).2 (hwk (by omega))⟩) (Nat.le_of_ble_eq_true rfl) (Nat.le_of_ble_eq_true rfl)
                    · have zc47001 := nleK (show (144 : Int32).toInt = 144 by decide) rfl c47001
                      refine lv_aload_n hx hb dX11_house_94 rfl (lv_at hl 0 rfl) ?_
                      refine getF (v := .ref (q 1)) hx hb ht hown hK hP iTX11 0 1 rfl rfl (by decide) fl_RX11_9 rfl dX11_house_95 ?_
                      refine lv_iload_n hx hb dX11_house_98 rfl (lv_at hl 1 rfl) ?_
                      refine lv_aload_n hx hb dX11_house_99 rfl (lv_at hl 0 rfl) ?_
                      refine getF (v := .ref (q 14)) hx hb ht hown hK hP iTX11 0 14 rfl rfl (by decide) fl_RX11_31 rfl dX11_house_100 ?_
                      refine lv_iload_n hx hb dX11_house_103 rfl (lv_at hl 1 rfl) ?_
                      refine va_iald hx hb hK.1 hP 6 0 rfl rfl (inK rfl (by omega) (by decide)) dX11_house_104 ?_
                      refine lv_topi (fun v47002 ev47002 => ?_)
                      have ev47002 : v47002 = a14_54 x87_1.toNatClampNeg := ev47002
                      refine va_iast hx hb hK.1 hP hD hS 1 0 rfl rfl (inK rfl (by omega) (by decide)) dX11_house_105 (fun H locs hP hD hS => ?_)
                      have hP : va_P G vwCl (mS cs h q (upd (upd (upd (upd (upd (upd (upd (upd F 5 0) 7 (F 5)) 8 f8_54) 9 f9_54) 10 f10_54) 11 f11_54) 12 f12_54) 13 f13_54) (vA (vA A 1 (upd a1_87 x87_1.toNatClampNeg v47002)) 14 a14_54) D B) H := hP
                      have hD : va_D A0 (mS cs h q (upd (upd (upd (upd (upd (upd (upd (upd F 5 0) 7 (F 5)) 8 f8_54) 9 f9_54) 10 f10_54) 11 f11_54) 12 f12_54) 13 f13_54) (vA (vA A 1 (upd a1_87 x87_1.toNatClampNeg v47002)) 14 a14_54) D B) := hD
                      obtain ⟨g47003, eg47003⟩ : ∃ z : Nat → Int32, z = upd a1_87 x87_1.toNatClampNeg v47002 := ⟨_, rfl⟩
                      rw [← eg47003] at hP hD
                      have hg47003 : AI 1 g47003 := by rw [eg47003]; exact AI_upd (fun j => ha1_87 j) (by rw [ev47002]; exact ha14_54 _)
                      obtain ⟨v47004, ev47004⟩ : ∃ z : Int32, z = x87_1 + 1 := ⟨_, rfl⟩
                      have tv47004 : v47004.toInt = x87_1.toInt + 1 := by rw [ev47004]; exact addT rfl (by decide) (by omega)
                      refine lv_iinc (v := v47004) (lv' := [(1, .int v47004), (0, .ref h)]) hx hb dX11_house_106 hl (k := 1) rfl (by rw [ev47004]; rfl) (by decide) rfl (fun ls hl => ?_)
                      refine lv_goto (tgt := 87) hx hb dX11_house_109 (by decide) ?_
                      exact ih87 v47004 g47003 H locs ls (by omega) (by omega) hg47003 (CPYs hcp eg47003 ev47002 (clK rfl (by omega)) tv47004) hP hD hS (lv_sub hl [1, 0] rfl)
                exact B87 _ 0 (A 1) H locs ls (Nat.lt_succ_self _) (by decide) (fun j => hI.2 1 j) (CPY0 (by decide)) hP hD hS (lv_sub hl [1, 0] rfl)
              · have zc40002 := eqK rfl (show (0 : Int32).toInt = 0 by decide) c40002
                refine lv_bipush (v := (-4)) hx hb dX11_house_82 (by decide) ?_
                exact retDi (0, (F 5), f8_54, f9_54, f10_54, f11_54, f12_54, f13_54, (A 1), a14_54) hx hb hr hlk hP hD hS dX11_house_84 (⟨show (0 : Int) ≤ (0 : Int32).toInt ∧ (0 : Int32).toInt ≤ 900 by decide, show (0 : Int) ≤ (F 5).toInt ∧ (F 5).toInt ≤ 900 by omega, show (0 : Int) ≤ f8_54.toInt ∧ f8_54.toInt ≤ 900 by omega, show (0 : Int) ≤ f9_54.toInt ∧ f9_54.toInt ≤ 900 by omega, show (0 : Int) ≤ f10_54.toInt ∧ f10_54.toInt ≤ 4 by omega, show (0 : Int) ≤ f11_54.toInt ∧ f11_54.toInt ≤ 99999 by omega, show (0 : Int) ≤ f12_54.toInt ∧ f12_54.toInt ≤ 3 by omega, show (-1 : Int) ≤ f13_54.toInt ∧ f13_54.toInt ≤ 900 by omega, fun j => hI.2 1 j, ha14_54, hWG1⟩) (Nat.le_of_ble_eq_true rfl) (Nat.le_of_ble_eq_true rfl)
            refine lv_if_eq (tgt := 75) hx hb dX11_house_58 (by decide) (fun c31002 => ?_) (fun c31002 => ?_)
            · have zc31002 := eqK rfl (show (0 : Int32).toInt = 0 by decide) c31002
              exact B75 H locs ls hP hD hS (lv_sub hl [0] rfl)
            · have zc31002 := neK rfl (show (0 : Int32).toInt = 0 by decide) c31002
              refine lv_aload_n hx hb dX11_house_61 rfl (lv_at hl 0 rfl) ?_
              refine getF (v := .int f10_54) hx hb ht hown hK hP iTX11 0 10 rfl rfl (by decide) fl_RX11_109 rfl dX11_house_62 ?_
              refine lv_if_eq (tgt := 75) hx hb dX11_house_65 (by decide) (fun c31003 => ?_) (fun c31003 => ?_)
              · have zc31003 := eqK rfl (show (0 : Int32).toInt = 0 by decide) c31003
                exact B75 H locs ls hP hD hS (lv_sub hl [0] rfl)
              · have zc31003 := neK rfl (show (0 : Int32).toInt = 0 by decide) c31003
                refine lv_aload_n hx hb dX11_house_68 rfl (lv_at hl 0 rfl) ?_
                refine behDw (wr := []) (runVDS (As := []) (rest := []) ⟨hx, hb, hml, hown, ht⟩ (sX11_readLine l G cs sd h q (upd (upd (upd (upd (upd (upd (upd (upd F 5 0) 7 (F 5)) 8 f8_54) 9 f9_54) 10 f10_54) 11 f11_54) 12 f12_54) 13 f13_54) (vA A 14 a14_54) D B (IM_arr (k := 14) (IM_put (k := 13) (IM_put (k := 12) (IM_put (k := 11) (IM_put (k := 10) (IM_put (k := 9) (IM_put (k := 8) (IM_put (k := 7) (IM_put (k := 5) hI (by decide)) (show (0 : Int) ≤ (F 5).toInt ∧ (F 5).toInt ≤ 900 by omega)) (show (0 : Int) ≤ f8_54.toInt ∧ f8_54.toInt ≤ 900 by omega)) (show (0 : Int) ≤ f9_54.toInt ∧ f9_54.toInt ≤ 900 by omega)) (show (0 : Int) ≤ f10_54.toInt ∧ f10_54.toInt ≤ 4 by omega)) (show (0 : Int) ≤ f11_54.toInt ∧ f11_54.toInt ≤ 99999 by omega)) (show (0 : Int) ≤ f12_54.toInt ∧ f12_54.toInt ≤ 3 by omega)) (show (-1 : Int) ≤ f13_54.toInt ∧ f13_54.toInt ≤ 900 by omega)) ha14_54)   (show PIk f8_54 f9_54 f10_54 from hp) (show WGk f12_54 a14_54 from (fun q9 => (hwk q9)))) okV_RX11_222 ⟨by decide, by decide⟩ hK hP hD hQ hS hA [0, 1, 2, 3, 4, 5, 6, 7, 8, 9, 10, 11, 12, 13, 14, 15, 16, 17, 18, 19] rfl (by decide) rfl 0 rfl rfl hl.1 rfl (Nat.le_of_ble_eq_true rfl) dX11_house_69 ⟨(Nat.le_of_ble_eq_true rfl), (Nat.le_of_ble_eq_true rfl)⟩) hP hD hS hA [0, 1, 2, 3, 4, 5, 6, 7, 8, 9, 10, 11, 12, 13, 14, 15, 16, 17, 18, 19] [] rfl rfl (by decide) (by decide) (fun u H locs hu hP hD hS => ?_)
                obtain ⟨x31004, x31005, x31006, x31007, x31008, x31009, g31010⟩ := u
                obtain ⟨hbx31004, hbx31005, hbx31006, hbx31007, hbx31008, hbx31009, hg31010, hr31011⟩ := hu
                have hbx31004 : (0 : Int) ≤ x31004.toInt ∧ x31004.toInt ≤ 900 := hbx31004
                have hbx31005 : (0 : Int) ≤ x31005.toInt ∧ x31005.toInt ≤ 900 := hbx31005
                have hbx31006 : (0 : Int) ≤ x31006.toInt ∧ x31006.toInt ≤ 4 := hbx31006
                have hbx31007 : (0 : Int) ≤ x31007.toInt ∧ x31007.toInt ≤ 99999 := hbx31007
                have hbx31008 : (0 : Int) ≤ x31008.toInt ∧ x31008.toInt ≤ 3 := hbx31008
                have hbx31009 : (-1 : Int) ≤ x31009.toInt ∧ x31009.toInt ≤ 900 := hbx31009
                have hr31011 : PIk x31004 x31005 x31006 ∧ f9_54.toInt ≤ x31005.toInt ∧ NDk x31008 f12_54 f9_54 x31005 ∧ WGk x31008 g31010 := hr31011
                have hP : va_P G vwCl (mS cs h q (upd (upd (upd (upd (upd (upd (upd (upd F 5 0) 7 (F 5)) 8 x31004) 9 x31005) 10 x31006) 11 x31007) 12 x31008) 13 x31009) (vA A 14 g31010) D B) H := hP
                have hD : va_D A0 (mS cs h q (upd (upd (upd (upd (upd (upd (upd (upd F 5 0) 7 (F 5)) 8 x31004) 9 x31005) 10 x31006) 11 x31007) 12 x31008) 13 x31009) (vA A 14 g31010) D B) := hD
                have hnd9 : x31008.toInt = 0 → (f12_54.toInt = 0 ∧ f9_54.toInt < x31005.toInt) := hr31011.2.2.1
                refine lv_goto (tgt := 54) hx hb dX11_house_72 (by decide) ?_
                exact ih54 x31004 x31005 x31006 x31007 x31008 x31009 g31010 H locs ls (by omega) (by omega) (by omega) (by omega) (by omega) (by omega) (by omega) hg31010 hr31011.1 hr31011.2.2.2 hP hD hS (lv_sub hl [0] rfl)
        exact B54 _ x19002 x19003 x19004 x19005 0 (-1) a14_30 H locs ls (Nat.lt_succ_self _) (by omega) (by omega) (by omega) (by omega) (by decide) (by decide) ha14_30 hr19006.2 (fun _ => WG0 (hz 5 (by omega))) hP hD hS (lv_sub hl [0] rfl)
      · have zc19001 := nleK (show (144 : Int32).toInt = 144 by decide) rfl c19001
        refine lv_aload_n hx hb dX11_house_37 rfl (lv_at hl 0 rfl) ?_
        refine getF (v := .ref (q 14)) hx hb ht hown hK hP iTX11 0 14 rfl rfl (by decide) fl_RX11_31 rfl dX11_house_38 ?_
        refine lv_iload_n hx hb dX11_house_41 rfl (lv_at hl 1 rfl) ?_
        refine lv_iconst (v := 0) hx hb dX11_house_42 (by decide) ?_
        refine va_iast hx hb hK.1 hP hD hS 6 0 rfl rfl (inK rfl (by omega) (by decide)) dX11_house_43 (fun H locs hP hD hS => ?_)
        have hP : va_P G vwCl (mS cs h q (upd (upd (upd (upd (upd F 5 0) 7 (F 5)) 8 0) 12 0) 13 (-1)) (vA A 14 (upd a14_30 x30_1.toNatClampNeg (0 : Int32))) D B) H := hP
        have hD : va_D A0 (mS cs h q (upd (upd (upd (upd (upd F 5 0) 7 (F 5)) 8 0) 12 0) 13 (-1)) (vA A 14 (upd a14_30 x30_1.toNatClampNeg (0 : Int32))) D B) := hD
        obtain ⟨g19007, eg19007⟩ : ∃ z : Nat → Int32, z = upd a14_30 x30_1.toNatClampNeg (0 : Int32) := ⟨_, rfl⟩
        rw [← eg19007] at hP hD
        have hg19007 : AI 14 g19007 := by rw [eg19007]; exact AI_upd (fun j => ha14_30 j) (by have z9 := w0b x30_1.toNatClampNeg; exact z9)
        obtain ⟨v19008, ev19008⟩ : ∃ z : Int32, z = x30_1 + 1 := ⟨_, rfl⟩
        have tv19008 : v19008.toInt = x30_1.toInt + 1 := by rw [ev19008]; exact addT rfl (by decide) (by omega)
        refine lv_iinc (v := v19008) (lv' := [(1, .int v19008), (0, .ref h)]) hx hb dX11_house_44 hl (k := 1) rfl (by rw [ev19008]; rfl) (by decide) rfl (fun ls hl => ?_)
        refine lv_goto (tgt := 30) hx hb dX11_house_47 (by decide) ?_
        exact ih30 v19008 g19007 H locs ls (by omega) (by omega) hg19007 (ZR0s hz eg19007 (clK rfl (by omega)) (by decide) tv19008) hP hD hS (lv_sub hl [1, 0] rfl)
  exact B30 _ 0 (A 14) H locs ls (Nat.lt_succ_self _) (by decide) (fun j => hI.2 14 j) (ZR00 (by decide)) hP hD hS (lv_sub hl [1, 0] rfl)

