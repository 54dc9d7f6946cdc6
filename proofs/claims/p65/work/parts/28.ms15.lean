set_option maxRecDepth 100000 in
set_option maxHeartbeats 8000000 in
theorem sX11_follows (l : Launch) (G : va_G) (cs : Nat → ClassId) (h : Nat) (q : Nat → Nat) (F : Nat → Int32) (A : Nat → Nat → Int32) (D : Int64) (B : Nat → Nat → Int64) (hI : IM F A) (a1 : Int32) (a2 : Int32) : SafeR l yX11_follows cX11_follows 4 (some .int) 3 G (TY cs) [.ref h, .int a1, .int a2] (mS cs h q F A D B) (fun r : Int32 => True) := by
  refine mkP (Qc := QRi (fun r : Int32 => True)) (by decide) (by simp [lg_sl, Value.category]) ?_
  intro p e s m args below meth c ls hx hb hml hr hlk hown ht hK hP hS hl
  have hl : lv_has ls 4 [(0, .ref h), (1, .int a1), (2, .int a2)] := hl
  refine lv_aload_n hx hb dX11_follows_0 rfl (lv_at hl 0 rfl) ?_
  refine lv_iload_n hx hb dX11_follows_1 rfl (lv_at hl 1 rfl) ?_
  refine lv_aload_n hx hb dX11_follows_2 rfl (lv_at hl 0 rfl) ?_
  refine lv_iload_n hx hb dX11_follows_3 rfl (lv_at hl 2 rfl) ?_
  refine lv_i2l hx hb dX11_follows_4 rfl ?_
  have bb1 := i32b a2
  refine lv_topl (fun v2 ev2 => ?_)
  have tv2 : v2.toInt = a2.toInt := by rw [ev2]; exact Int32.toInt_toInt64 _
  refine behR (runVP (As := [.long v2]) (rest := [.int a1, .ref h]) ⟨hx, hb, hml, hown, ht⟩ (sX11_isRoom l G cs h q F A D B hI v2 ) okV_RX11_89 ⟨by decide, by decide⟩ hK hP [0, 1, 2, 3, 4, 5, 6, 7, 8, 9, 10, 11, 12, 13, 14, 15, 16, 17, 18, 19] rfl 0 rfl rfl hl.1 rfl (Nat.le_of_ble_eq_true rfl) dX11_follows_5 ⟨by decide, by decide⟩) hP hS (fun _ h => h) (fun r3 H locs hr3 hP hS => ?_)
  have hr3 : (r3.toInt = 1 ∧ 0 ≤ v2.toInt ∧ v2.toInt < (A 1 4).toInt ∧ v2.toInt ≤ 6 ∧ (A 1 4).toInt ≤ 7) ∨ r3.toInt = 0 := hr3
  refine behR (runVP (As := [.int a1, .int r3]) (rest := []) ⟨hx, hb, hml, hown, ht⟩ (sX11_asksHabit l G cs h q F A D B hI a1 r3 (by omega)) okV_RX11_406 ⟨by decide, by decide⟩ hK hP [0, 1, 2, 3, 4, 5, 6, 7, 8, 9, 10, 11, 12, 13, 14, 15, 16, 17, 18, 19] rfl 0 rfl rfl hl.1 rfl (Nat.le_of_ble_eq_true rfl) dX11_follows_8 ⟨by decide, by decide⟩) hP hS (fun _ h => h) (fun r4 H locs hr4 hP hS => ?_)
  have hr4 : (r4.toInt = -2 ∨ r4.toInt = -6 ∨ (r4.toInt = 0 ∧ 0 ≤ a1.toInt ∧ a1.toInt ≤ 3 ∧ 0 ≤ (A 31 a1.toNatClampNeg).toInt ∧ r3.toInt = 1)) ∧ (r4.toInt = 0 → RV B a1 (A 31 a1.toNatClampNeg).toInt) := hr4
  obtain ⟨hr4, gr4⟩ := hr4
  refine lv_istore_n (lv' := [(3, .int r4), (0, .ref h), (1, .int a1), (2, .int a2)]) hx hb dX11_follows_11 rfl hl (by decide) rfl (fun ls hl => ?_)
  refine lv_iload_n hx hb dX11_follows_12 rfl (lv_at hl 0 rfl) ?_
  refine lv_if_ge (tgt := 20) hx hb dX11_follows_13 (by decide) (fun c5 => ?_) (fun c5 => ?_)
  · have zc5 := leK (show (0 : Int32).toInt = 0 by decide) rfl c5
    refine lv_aload_n hx hb dX11_follows_20 rfl (lv_at hl 1 rfl) ?_
    refine lv_iload_n hx hb dX11_follows_21 rfl (lv_at hl 2 rfl) ?_
    refine lv_iload_n hx hb dX11_follows_22 rfl (lv_at hl 3 rfl) ?_
    refine behR (runVP (As := [.int a1, .int a2]) (rest := []) ⟨hx, hb, hml, hown, ht⟩ (sX11_oftenest l G cs h q F A D B hI a1 a2 (by omega)) okV_RX11_409 ⟨by decide, by decide⟩ hK hP [0, 1, 2, 3, 4, 5, 6, 7, 8, 9, 10, 11, 12, 13, 14, 15, 16, 17, 18, 19] rfl 0 rfl rfl hl.1 rfl (Nat.le_of_ble_eq_true rfl) dX11_follows_23 ⟨by decide, by decide⟩) hP hS (fun _ h => h) (fun r6 H locs hr6 hP hS => ?_)
    exact retRi hx hb hr hlk hS dX11_follows_26 (trivial)
  · have zc5 := nleK (show (0 : Int32).toInt = 0 by decide) rfl c5
    refine lv_iload_n hx hb dX11_follows_16 rfl (lv_at hl 0 rfl) ?_
    refine lv_goto (tgt := 26) hx hb dX11_follows_17 (by decide) ?_
    exact retRi hx hb hr hlk hS dX11_follows_26 (trivial)

set_option maxRecDepth 100000 in
set_option maxHeartbeats 8000000 in
theorem sX11_period (l : Launch) (G : va_G) (cs : Nat → ClassId) (h : Nat) (q : Nat → Nat) (F : Nat → Int32) (A : Nat → Nat → Int32) (D : Int64) (B : Nat → Nat → Int64) (hI : IM F A) (a1 : Int32) : SafeR l yX11_period cX11_period 6 (some .int) 3 G (TY cs) [.ref h, .int a1] (mS cs h q F A D B) (fun r : Int32 => True) := by
  refine mkP (Qc := QRi (fun r : Int32 => True)) (by decide) (by simp [lg_sl, Value.category]) ?_
  intro p e s m args below meth c ls hx hb hml hr hlk hown ht hK hP hS hl
  have hl : lv_has ls 6 [(0, .ref h), (1, .int a1)] := hl
  refine lv_aload_n hx hb dX11_period_0 rfl (lv_at hl 0 rfl) ?_
  refine lv_iload_n hx hb dX11_period_1 rfl (lv_at hl 1 rfl) ?_
  refine lv_iconst (v := 1) hx hb dX11_period_2 (by decide) ?_
  refine behR (runVP (As := [.int a1, .int 1]) (rest := []) ⟨hx, hb, hml, hown, ht⟩ (sX11_asksHabit l G cs h q F A D B hI a1 1 (by decide)) okV_RX11_406 ⟨by decide, by decide⟩ hK hP [0, 1, 2, 3, 4, 5, 6, 7, 8, 9, 10, 11, 12, 13, 14, 15, 16, 17, 18, 19] rfl 0 rfl rfl hl.1 rfl (Nat.le_of_ble_eq_true rfl) dX11_period_3 ⟨by decide, by decide⟩) hP hS (fun _ h => h) (fun r1 H locs hr1 hP hS => ?_)
  have kk2 : (1 : Int32).toInt = 1 := by decide
  have hr1 : (r1.toInt = -2 ∨ r1.toInt = -6 ∨ (r1.toInt = 0 ∧ 0 ≤ a1.toInt ∧ a1.toInt ≤ 3 ∧ 0 ≤ (A 31 a1.toNatClampNeg).toInt ∧ (1 : Int32).toInt = 1)) ∧ (r1.toInt = 0 → RV B a1 (A 31 a1.toNatClampNeg).toInt) := hr1
  obtain ⟨hr1, gr1⟩ := hr1
  refine lv_istore_n (lv' := [(2, .int r1), (0, .ref h), (1, .int a1)]) hx hb dX11_period_6 rfl hl (by decide) rfl (fun ls hl => ?_)
  refine lv_iload_n hx hb dX11_period_7 rfl (lv_at hl 0 rfl) ?_
  refine lv_if_ge (tgt := 13) hx hb dX11_period_8 (by decide) (fun c3 => ?_) (fun c3 => ?_)
  · have zc3 := leK (show (0 : Int32).toInt = 0 by decide) rfl c3
    refine lv_iconst (v := 1) hx hb dX11_period_13 (by decide) ?_
    refine lv_istore_n (lv' := [(3, .int 1), (2, .int r1), (0, .ref h), (1, .int a1)]) hx hb dX11_period_14 rfl hl (by decide) rfl (fun ls hl => ?_)
    have B15 : ∀ (n : Nat) (x15_3 : Int32) (H : Heap) (locs : List Loc) (ls : Array Slot), (61 - x15_3.toInt).toNat < n → (1 : Int) ≤ x15_3.toInt ∧ x15_3.toInt ≤ 61 → va_P G vwCl (mS cs h q F A D B) H → va_S (fun q => s.heap.size ≤ q) s.heap H locs → lv_has ls 6 [(0, .ref h), (1, .int a1), (3, .int x15_3)] → W p l e (rmk 3 0 0) s m args below meth c H locs 0 0 (MQ below (QRi (fun r : Int32 => True) s.heap.size) args s 0 0 (fun q => s.heap.size ≤ q)) (F0 m 15 ls []) := by
      intro n
      induction n with
      | zero => intro x15_3 H locs ls hmeas hx15_3 hP hS hl; exact absurd hmeas (Nat.not_lt_zero _)
      | succ n ih15 =>
        intro x15_3 H locs ls hmeas hx15_3 hP hS hl
        refine lv_iload_n hx hb dX11_period_15 rfl (lv_at hl 2 rfl) ?_
        refine lv_aload_n hx hb dX11_period_16 rfl (lv_at hl 0 rfl) ?_
        refine getF (v := .ref (q 31)) hx hb ht hown hK hP iTX11 0 31 rfl rfl (by decide) fl_RX11_61 rfl dX11_period_17 ?_
        refine lv_iload_n hx hb dX11_period_20 rfl (lv_at hl 1 rfl) ?_
        refine va_iald hx hb hK.1 hP 16 0 rfl rfl (inK rfl (by omega) (by decide)) dX11_period_21 ?_
        refine lv_topi (fun v12001 ev12001 => ?_)
        have zf12002 : (-1 : Int) ≤ v12001.toInt ∧ v12001.toInt ≤ 60 := by rw [ev12001]; exact (hI.2 31 _)
        have nv12001 : v12001.toInt = (A 31 a1.toNatClampNeg).toInt := congrArg Int32.toInt ev12001
        refine lv_icmp_gt (tgt := 92) hx hb dX11_period_22 (by decide) (fun c12003 => ?_) (fun c12003 => ?_)
        · have zc12003 := ltK rfl rfl c12003
          refine lv_iconst (v := (-1)) hx hb dX11_period_92 (by decide) ?_
          exact retRi hx hb hr hlk hS dX11_period_93 (trivial)
        · have zc12003 := nltK rfl rfl c12003
          refine lv_iconst (v := 1) hx hb dX11_period_25 (by decide) ?_
          refine lv_istore (lv' := [(4, .int 1), (0, .ref h), (1, .int a1), (3, .int x15_3)]) hx hb dX11_period_26 hl (by decide) rfl (fun ls hl => ?_)
          refine lv_iload_n hx hb dX11_period_28 rfl (lv_at hl 3 rfl) ?_
          refine lv_istore (lv' := [(5, .int x15_3), (4, .int 1), (0, .ref h), (1, .int a1), (3, .int x15_3)]) hx hb dX11_period_29 hl (by decide) rfl (fun ls hl => ?_)
          have B31 : ∀ (n : Nat) (x31_4 : Int32) (x31_5 : Int32) (H : Heap) (locs : List Loc) (ls : Array Slot), (60 - x31_5.toInt).toNat < n → (0 : Int) ≤ x31_4.toInt ∧ x31_4.toInt ≤ 1 → (1 : Int) ≤ x31_5.toInt ∧ x31_5.toInt ≤ 60 → (x15_3.toInt ≤ x31_5.toInt) → va_P G vwCl (mS cs h q F A D B) H → va_S (fun q => s.heap.size ≤ q) s.heap H locs → lv_has ls 6 [(0, .ref h), (1, .int a1), (3, .int x15_3), (4, .int x31_4), (5, .int x31_5)] → W p l e (rmk 3 0 0) s m args below meth c H locs 0 0 (MQ below (QRi (fun r : Int32 => True) s.heap.size) args s 0 0 (fun q => s.heap.size ≤ q)) (F0 m 31 ls []) := by
            intro n
            induction n with
            | zero => intro x31_4 x31_5 H locs ls hmeas hx31_4 hx31_5 hip hP hS hl; exact absurd hmeas (Nat.not_lt_zero _)
            | succ n ih31 =>
              intro x31_4 x31_5 H locs ls hmeas hx31_4 hx31_5 hip hP hS hl
              refine lv_iload hx hb dX11_period_31 (lv_at hl 4 rfl) ?_
              refine lv_aload_n hx hb dX11_period_33 rfl (lv_at hl 0 rfl) ?_
              refine getF (v := .ref (q 31)) hx hb ht hown hK hP iTX11 0 31 rfl rfl (by decide) fl_RX11_61 rfl dX11_period_34 ?_
              refine lv_iload_n hx hb dX11_period_37 rfl (lv_at hl 1 rfl) ?_
              refine va_iald hx hb hK.1 hP 16 0 rfl rfl (inK rfl (by omega) (by decide)) dX11_period_38 ?_
              refine lv_topi (fun v22001 ev22001 => ?_)
              have zf22002 : (-1 : Int) ≤ v22001.toInt ∧ v22001.toInt ≤ 60 := by rw [ev22001]; exact (hI.2 31 _)
              have nv22001 : v22001.toInt = (A 31 a1.toNatClampNeg).toInt := congrArg Int32.toInt ev22001
              have B79 : ∀ (H : Heap) (locs : List Loc) (ls : Array Slot), va_P G vwCl (mS cs h q F A D B) H → va_S (fun q => s.heap.size ≤ q) s.heap H locs → lv_has ls 6 [(0, .ref h), (1, .int a1), (3, .int x15_3), (4, .int x31_4)] → W p l e (rmk 3 0 0) s m args below meth c H locs 0 0 (MQ below (QRi (fun r : Int32 => True) s.heap.size) args s 0 0 (fun q => s.heap.size ≤ q)) (F0 m 79 ls []) := by
                intro H locs ls hP hS hl
                refine lv_iload hx hb dX11_period_79 (lv_at hl 3 rfl) ?_
                refine lv_if_eq (tgt := 86) hx hb dX11_period_81 (by decide) (fun c47001 => ?_) (fun c47001 => ?_)
                · have zc47001 := eqK rfl (show (0 : Int32).toInt = 0 by decide) c47001
                  obtain ⟨v47002, ev47002⟩ : ∃ z : Int32, z = x15_3 + 1 := ⟨_, rfl⟩
                  have tv47002 : v47002.toInt = x15_3.toInt + 1 := by rw [ev47002]; exact addT rfl (by decide) (by omega)
                  refine lv_iinc (v := v47002) (lv' := [(3, .int v47002), (0, .ref h), (1, .int a1), (4, .int x31_4)]) hx hb dX11_period_86 hl (k := 2) rfl (by rw [ev47002]; rfl) (by decide) rfl (fun ls hl => ?_)
                  refine lv_goto (tgt := 15) hx hb dX11_period_89 (by decide) ?_
                  exact ih15 v47002 H locs ls (by omega) (by omega) hP hS (lv_sub hl [1, 2, 0] rfl)
                · have zc47001 := neK rfl (show (0 : Int32).toInt = 0 by decide) c47001
                  refine lv_iload_n hx hb dX11_period_84 rfl (lv_at hl 2 rfl) ?_
                  exact retRi hx hb hr hlk hS dX11_period_85 (trivial)
              refine lv_icmp_ge (tgt := 79) hx hb dX11_period_39 (by decide) (fun c22003 => ?_) (fun c22003 => ?_)
              · have zc22003 := leK rfl rfl c22003
                exact B79 H locs ls hP hS (lv_sub hl [0, 1, 2, 3] rfl)
              · have zc22003 := nleK rfl rfl c22003
                refine lv_iload hx hb dX11_period_42 (lv_at hl 3 rfl) ?_
                refine lv_if_eq (tgt := 79) hx hb dX11_period_44 (by decide) (fun c22004 => ?_) (fun c22004 => ?_)
                · have zc22004 := eqK rfl (show (0 : Int32).toInt = 0 by decide) c22004
                  exact B79 H locs ls hP hS (lv_sub hl [0, 1, 2, 3] rfl)
                · have zc22004 := neK rfl (show (0 : Int32).toInt = 0 by decide) c22004
                  refine lv_aload_n hx hb dX11_period_47 rfl (lv_at hl 0 rfl) ?_
                  refine lv_iload_n hx hb dX11_period_48 rfl (lv_at hl 1 rfl) ?_
                  refine lv_iload hx hb dX11_period_49 (lv_at hl 4 rfl) ?_
                  refine behR (runVP (As := [.int a1, .int x31_5]) (rest := []) ⟨hx, hb, hml, hown, ht⟩ (sX11_roomAt l G cs h q F A D B hI a1 x31_5 (by omega) (by omega)) okV_RX11_293 ⟨by decide, by decide⟩ hK hP [0, 1, 2, 3, 4, 5, 6, 7, 8, 9, 10, 11, 12, 13, 14, 15, 16, 17, 18, 19] rfl 0 rfl rfl hl.1 rfl (Nat.le_of_ble_eq_true rfl) dX11_period_51 ⟨by decide, by decide⟩) hP hS (fun _ h => h) (fun r22005 H locs hr22005 hP hS => ?_)
                  have hr22005 : r22005 = (B 33 (60 * a1.toNatClampNeg + x31_5.toNatClampNeg)).toInt32 := hr22005
                  have zbr22005 : -1 ≤ r22005.toInt ∧ r22005.toInt ≤ 6 := by rw [hr22005]; exact RVroom (gr1 (by omega)) (by have q1 := clK (i := x31_5) rfl (by omega); omega)
                  refine lv_aload_n hx hb dX11_period_54 rfl (lv_at hl 0 rfl) ?_
                  refine lv_iload_n hx hb dX11_period_55 rfl (lv_at hl 1 rfl) ?_
                  refine lv_iload hx hb dX11_period_56 (lv_at hl 4 rfl) ?_
                  refine lv_iload_n hx hb dX11_period_58 rfl (lv_at hl 2 rfl) ?_
                  refine lv_isub hx hb dX11_period_59 ?_
                  refine lv_topi (fun v22006 ev22006 => ?_)
                  have tv22006 : v22006.toInt = x31_5.toInt - x15_3.toInt := by rw [ev22006]; exact subT rfl rfl (by omega)
                  refine behR (runVP (As := [.int a1, .int v22006]) (rest := [.int r22005]) ⟨hx, hb, hml, hown, ht⟩ (sX11_roomAt l G cs h q F A D B hI a1 v22006 (by omega) (by omega)) okV_RX11_293 ⟨by decide, by decide⟩ hK hP [0, 1, 2, 3, 4, 5, 6, 7, 8, 9, 10, 11, 12, 13, 14, 15, 16, 17, 18, 19] rfl 0 rfl rfl hl.1 rfl (Nat.le_of_ble_eq_true rfl) dX11_period_60 ⟨by decide, by decide⟩) hP hS (fun _ h => h) (fun r22007 H locs hr22007 hP hS => ?_)
                  have hr22007 : r22007 = (B 33 (60 * a1.toNatClampNeg + v22006.toNatClampNeg)).toInt32 := hr22007
                  have zbr22007 : -1 ≤ r22007.toInt ∧ r22007.toInt ≤ 6 := by rw [hr22007]; exact RVroom (gr1 (by omega)) (by have q1 := clK (i := v22006) rfl (by omega); omega)
                  have B71 : ∀ (s71_0 : Int32) (H : Heap) (locs : List Loc) (ls : Array Slot), (0 : Int) ≤ s71_0.toInt ∧ s71_0.toInt ≤ 1 → va_P G vwCl (mS cs h q F A D B) H → va_S (fun q => s.heap.size ≤ q) s.heap H locs → lv_has ls 6 [(0, .ref h), (1, .int a1), (3, .int x15_3), (5, .int x31_5)] → W p l e (rmk 3 0 0) s m args below meth c H locs 0 0 (MQ below (QRi (fun r : Int32 => True) s.heap.size) args s 0 0 (fun q => s.heap.size ≤ q)) (F0 m 71 ls [.int s71_0]) := by
                    intro s71_0 H locs ls hs71_0 hP hS hl
                    refine lv_istore (lv' := [(4, .int s71_0), (0, .ref h), (1, .int a1), (3, .int x15_3), (5, .int x31_5)]) hx hb dX11_period_71 hl (by decide) rfl (fun ls hl => ?_)
                    obtain ⟨v44001, ev44001⟩ : ∃ z : Int32, z = x31_5 + 1 := ⟨_, rfl⟩
                    have tv44001 : v44001.toInt = x31_5.toInt + 1 := by rw [ev44001]; exact addT rfl (by decide) (by omega)
                    refine lv_iinc (v := v44001) (lv' := [(5, .int v44001), (4, .int s71_0), (0, .ref h), (1, .int a1), (3, .int x15_3)]) hx hb dX11_period_73 hl (k := 4) rfl (by rw [ev44001]; rfl) (by decide) rfl (fun ls hl => ?_)
                    refine lv_goto (tgt := 31) hx hb dX11_period_76 (by decide) ?_
                    exact ih31 s71_0 v44001 H locs ls (by omega) (by omega) (by omega) (by have k0 : (0 : Int32).toInt = 0 := (by decide); have k1 : (1 : Int32).toInt = 1 := (by decide); omega) hP hS (lv_sub hl [2, 3, 4, 1, 0] rfl)
                  refine lv_icmp_ne (tgt := 70) hx hb dX11_period_63 (by decide) (fun c22008 => ?_) (fun c22008 => ?_)
                  · have zc22008 := neK rfl rfl c22008
                    refine lv_iconst (v := 0) hx hb dX11_period_70 (by decide) ?_
                    exact B71 0 H locs ls (by decide) hP hS (lv_sub hl [0, 1, 2, 4] rfl)
                  · have zc22008 := eqK rfl rfl c22008
                    refine lv_iconst (v := 1) hx hb dX11_period_66 (by decide) ?_
                    refine lv_goto (tgt := 71) hx hb dX11_period_67 (by decide) ?_
                    exact B71 1 H locs ls (by decide) hP hS (lv_sub hl [0, 1, 2, 4] rfl)
          exact B31 _ 1 x15_3 H locs ls (Nat.lt_succ_self _) (by decide) (by omega) (by have k0 : (0 : Int32).toInt = 0 := (by decide); have k1 : (1 : Int32).toInt = 1 := (by decide); omega) hP hS (lv_sub hl [2, 3, 4, 1, 0] rfl)
    exact B15 _ 1 H locs ls (Nat.lt_succ_self _) (by decide) hP hS (lv_sub hl [2, 3, 0] rfl)
  · have zc3 := nleK (show (0 : Int32).toInt = 0 by decide) rfl c3
    refine lv_iload_n hx hb dX11_period_11 rfl (lv_at hl 0 rfl) ?_
    exact retRi hx hb hr hlk hS dX11_period_12 (trivial)

set_option maxRecDepth 100000 in
set_option maxHeartbeats 8000000 in
theorem sX11_drawn (l : Launch) (G : va_G) (cs : Nat → ClassId) (h : Nat) (q : Nat → Nat) (F : Nat → Int32) (A : Nat → Nat → Int32) (D : Int64) (B : Nat → Nat → Int64) (hI : IM F A) (a1 : Int32) (a2 : Int32) (a3 : Int32) : ImpI l yX11_drawn cX11_drawn 5 (some .int) 4 0 0 G (TY cs) [.ref h, .int a1, .int a2, .int a3] (mS cs h q F A D B) (fun (r : Int32) (u : Int32 × Int32 × Int64) => ((-1 : Int) ≤ u.1.toInt ∧ u.1.toInt ≤ 59) ∧ ((-1 : Int) ≤ u.2.1.toInt ∧ u.2.1.toInt ≤ 6) ∧ (True)) (fun u : Int32 × Int32 × Int64 => (mS cs h q (upd (upd F 29 u.1) 30 u.2.1) A u.2.2 B)) := by
  refine mkD (Qc := (QDi G (fun (r : Int32) (u : Int32 × Int32 × Int64) => ((-1 : Int) ≤ u.1.toInt ∧ u.1.toInt ≤ 59) ∧ ((-1 : Int) ≤ u.2.1.toInt ∧ u.2.1.toInt ≤ 6) ∧ (True)) (fun u : Int32 × Int32 × Int64 => (mS cs h q (upd (upd F 29 u.1) 30 u.2.1) A u.2.2 B)))) (by decide) (by simp [lg_sl, Value.category]) ?_
  intro p e s m args below meth c ls A0 hx hb hml hr hlk hown hmn ht hK hP hD hS hA hl
  have hl : lv_has ls 5 [(0, .ref h), (1, .int a1), (2, .int a2), (3, .int a3)] := hl
  refine lv_aload_n hx hb dX11_drawn_0 rfl (lv_at hl 0 rfl) ?_
  refine lv_iload_n hx hb dX11_drawn_1 rfl (lv_at hl 2 rfl) ?_
  refine lv_iload_n hx hb dX11_drawn_2 rfl (lv_at hl 1 rfl) ?_
  refine behR (runSP (As := [.int a1]) (rest := [.int a2, .ref h]) ⟨hx, hb, hml, hown, ht⟩ (sX11_isSeed l G cs a1 ) okS_RX11_441 ⟨by decide, by decide⟩ hK hP [] rfl hl.1 rfl (Nat.le_of_ble_eq_true rfl) dX11_drawn_3 ⟨by decide, by decide⟩) hP hS hA (fun r1 H locs hr1 hP hS => ?_)
  have hr1 : (r1.toInt = 1 ∧ 0 ≤ a1.toInt ∧ a1.toInt ≤ 2000000000) ∨ r1.toInt = 0 := hr1
  have B24 : ∀ (s24_0 : Int32) (s24_1 : Int32) (H : Heap) (locs : List Loc) (ls : Array Slot), (0 : Int) ≤ s24_0.toInt ∧ s24_0.toInt ≤ 1 → (s24_1.toInt = a2.toInt) → (s24_0.toInt = 1 → (0 ≤ a1.toInt ∧ a1.toInt ≤ 2000000000)) → va_P G vwCl (mS cs h q F A D B) H → va_D A0 (mS cs h q F A D B) → va_S A0 s.heap H locs → lv_has ls 5 [(0, .ref h), (1, .int a1), (2, .int a2), (3, .int a3)] → W p l e (rmk 4 0 0) s m args below meth c H locs 0 0 (MQ below ((QDi G (fun (r : Int32) (u : Int32 × Int32 × Int64) => ((-1 : Int) ≤ u.1.toInt ∧ u.1.toInt ≤ 59) ∧ ((-1 : Int) ≤ u.2.1.toInt ∧ u.2.1.toInt ≤ 6) ∧ (True)) (fun u : Int32 × Int32 × Int64 => (mS cs h q (upd (upd F 29 u.1) 30 u.2.1) A u.2.2 B))) A0) args s 0 0 A0) (F0 m 24 ls [.int s24_0, .int s24_1, .ref h]) := by
    intro s24_0 s24_1 H locs ls hs24_0 hsl hsd hP hD hS hl
    refine behR (runVP (As := [.int s24_1, .int s24_0]) (rest := []) ⟨hx, hb, hml, hown, ht⟩ (sX11_asksRound l G cs h q F A D B hI s24_1 s24_0 (by omega)) okV_RX11_303 ⟨by decide, by decide⟩ hK hP [0, 1, 2, 3, 4, 5, 6, 7, 8, 9, 10, 11, 12, 13, 14, 15, 16, 17, 18, 19] rfl 0 rfl rfl hl.1 rfl (Nat.le_of_ble_eq_true rfl) dX11_drawn_24 ⟨by decide, by decide⟩) hP hS hA (fun r15001 H locs hr15001 hP hS => ?_)
    have hr15001 : (r15001.toInt = -2 ∨ r15001.toInt = -6 ∨ (r15001.toInt = 0 ∧ 0 ≤ s24_1.toInt ∧ s24_1.toInt ≤ 3 ∧ 0 ≤ (A 31 s24_1.toNatClampNeg).toInt ∧ s24_0.toInt = 1)) ∧ (r15001.toInt = 0 → RV B s24_1 (A 31 s24_1.toNatClampNeg).toInt) := hr15001
    obtain ⟨hr15001, gr15001⟩ := hr15001
    refine lv_istore (lv' := [(4, .int r15001), (0, .ref h), (1, .int a1), (2, .int a2), (3, .int a3)]) hx hb dX11_drawn_27 hl (by decide) rfl (fun ls hl => ?_)
    refine lv_iload hx hb dX11_drawn_29 (lv_at hl 0 rfl) ?_
    refine lv_if_ge (tgt := 37) hx hb dX11_drawn_31 (by decide) (fun c15002 => ?_) (fun c15002 => ?_)
    · have zc15002 := leK (show (0 : Int32).toInt = 0 by decide) rfl c15002
      refine lv_aload_n hx hb dX11_drawn_37 rfl (lv_at hl 1 rfl) ?_
      refine lv_iload_n hx hb dX11_drawn_38 rfl (lv_at hl 2 rfl) ?_
      refine lv_i2l hx hb dX11_drawn_39 rfl ?_
      have bb15003 := i32b a1
      refine lv_topl (fun v15004 ev15004 => ?_)
      have tv15004 : v15004.toInt = a1.toInt := by rw [ev15004]; exact Int32.toInt_toInt64 _
      refine lv_iload_n hx hb dX11_drawn_40 rfl (lv_at hl 3 rfl) ?_
      refine behDw (wr := []) (runVD (As := [.long v15004, .int a2]) (rest := []) ⟨hx, hb, hml, hown, ht⟩ (sX11_goEvening l G cs h q F A D B hI v15004 a2 (by omega) (by omega)) okV_RX11_444 ⟨by decide, by decide⟩ hK hP hD [0, 1, 2, 3, 4, 5, 6, 7, 8, 9, 10, 11, 12, 13, 14, 15, 16, 17, 18, 19] rfl (by decide) rfl 0 rfl rfl hl.1 rfl (Nat.le_of_ble_eq_true rfl) dX11_drawn_41 ⟨(Nat.le_of_ble_eq_true rfl), (Nat.le_of_ble_eq_true rfl)⟩) hP hD hS hA [0, 1, 2, 3, 4, 5, 6, 7, 8, 9, 10, 11, 12, 13, 14, 15, 16, 17, 18, 19] [] rfl rfl (by decide) (by decide) (fun u H locs hu hP hD hS => ?_)
      obtain ⟨x15005, x15006, d15007⟩ := u
      obtain ⟨hbx15005, hbx15006, hbd15007, hr15008⟩ := hu
      have hbx15005 : (-1 : Int) ≤ x15005.toInt ∧ x15005.toInt ≤ 59 := hbx15005
      have hbx15006 : (-1 : Int) ≤ x15006.toInt ∧ x15006.toInt ≤ 6 := hbx15006
      have hbd15007 : (0 : Int) ≤ d15007.toInt ∧ d15007.toInt ≤ 4294967295 := hbd15007
      have hP : va_P G vwCl (mS cs h q (upd (upd F 29 x15005) 30 x15006) A d15007 B) H := hP
      have hD : va_D A0 (mS cs h q (upd (upd F 29 x15005) 30 x15006) A d15007 B) := hD
      refine lv_iload_n hx hb dX11_drawn_44 rfl (lv_at hl 4 rfl) ?_
      refine lv_if_ne (tgt := 55) hx hb dX11_drawn_45 (by decide) (fun c15009 => ?_) (fun c15009 => ?_)
      · have zc15009 := neK rfl (show (0 : Int32).toInt = 0 by decide) c15009
        refine lv_aload_n hx hb dX11_drawn_55 rfl (lv_at hl 1 rfl) ?_
        refine getF (v := .int x15006) hx hb ht hown hK hP iTX11 0 30 rfl rfl (by decide) fl_RX11_433 rfl dX11_drawn_56 ?_
        exact retDi (x15005, x15006, d15007) hx hb hr hlk hP hD hS dX11_drawn_59 (⟨show (-1 : Int) ≤ x15005.toInt ∧ x15005.toInt ≤ 59 by omega, show (-1 : Int) ≤ x15006.toInt ∧ x15006.toInt ≤ 6 by omega, trivial⟩) (Nat.le_of_ble_eq_true rfl) (Nat.le_of_ble_eq_true rfl)
      · have zc15009 := eqK rfl (show (0 : Int32).toInt = 0 by decide) c15009
        refine lv_aload_n hx hb dX11_drawn_48 rfl (lv_at hl 1 rfl) ?_
        refine getF (v := .int x15005) hx hb ht hown hK hP iTX11 0 29 rfl rfl (by decide) fl_RX11_427 rfl dX11_drawn_49 ?_
        refine lv_goto (tgt := 59) hx hb dX11_drawn_52 (by decide) ?_
        exact retDi (x15005, x15006, d15007) hx hb hr hlk hP hD hS dX11_drawn_59 (⟨show (-1 : Int) ≤ x15005.toInt ∧ x15005.toInt ≤ 59 by omega, show (-1 : Int) ≤ x15006.toInt ∧ x15006.toInt ≤ 6 by omega, trivial⟩) (Nat.le_of_ble_eq_true rfl) (Nat.le_of_ble_eq_true rfl)
    · have zc15002 := nleK (show (0 : Int32).toInt = 0 by decide) rfl c15002
      refine lv_iload hx hb dX11_drawn_34 (lv_at hl 0 rfl) ?_
      exact retDi ((F 29), (F 30), D) hx hb hr hlk hP hD hS dX11_drawn_36 (⟨hI.1 29, hI.1 30, trivial⟩) (Nat.le_of_ble_eq_true rfl) (Nat.le_of_ble_eq_true rfl)
  have B23 : ∀ (s23_0 : Int32) (H : Heap) (locs : List Loc) (ls : Array Slot), (s23_0.toInt = a2.toInt) → va_P G vwCl (mS cs h q F A D B) H → va_D A0 (mS cs h q F A D B) → va_S A0 s.heap H locs → lv_has ls 5 [(0, .ref h), (1, .int a1), (2, .int a2), (3, .int a3)] → W p l e (rmk 4 0 0) s m args below meth c H locs 0 0 (MQ below ((QDi G (fun (r : Int32) (u : Int32 × Int32 × Int64) => ((-1 : Int) ≤ u.1.toInt ∧ u.1.toInt ≤ 59) ∧ ((-1 : Int) ≤ u.2.1.toInt ∧ u.2.1.toInt ≤ 6) ∧ (True)) (fun u : Int32 × Int32 × Int64 => (mS cs h q (upd (upd F 29 u.1) 30 u.2.1) A u.2.2 B))) A0) args s 0 0 A0) (F0 m 23 ls [.int s23_0, .ref h]) := by
    intro s23_0 H locs ls hsl hP hD hS hl
    refine lv_iconst (v := 0) hx hb dX11_drawn_23 (by decide) ?_
    exact B24 0 s23_0 H locs ls (by decide) (by have k0 : (0 : Int32).toInt = 0 := (by decide); have k1 : (1 : Int32).toInt = 1 := (by decide); omega) (by have k0 : (0 : Int32).toInt = 0 := (by decide); have k1 : (1 : Int32).toInt = 1 := (by decide); omega) hP hD hS (lv_sub hl [0, 1, 2, 3] rfl)
  refine lv_if_eq (tgt := 23) hx hb dX11_drawn_6 (by decide) (fun c2 => ?_) (fun c2 => ?_)
  · have zc2 := eqK rfl (show (0 : Int32).toInt = 0 by decide) c2
    exact B23 a2 H locs ls (by have k0 : (0 : Int32).toInt = 0 := (by decide); have k1 : (1 : Int32).toInt = 1 := (by decide); omega) hP hD hS (lv_sub hl [0, 1, 2, 3] rfl)
  · have zc2 := neK rfl (show (0 : Int32).toInt = 0 by decide) c2
    refine lv_iload_n hx hb dX11_drawn_9 rfl (lv_at hl 3 rfl) ?_
    refine lv_i2l hx hb dX11_drawn_10 rfl ?_
    have bb3 := i32b a3
    refine lv_topl (fun v4 ev4 => ?_)
    have tv4 : v4.toInt = a3.toInt := by rw [ev4]; exact Int32.toInt_toInt64 _
    refine lv_lconst (v := 0) hx hb dX11_drawn_11 (by decide) ?_
    refine lv_lconst (v := 1) hx hb dX11_drawn_12 (by decide) ?_
    refine behR (runSP (As := [.long v4, .long 0, .long 1]) (rest := [.int a2, .ref h]) ⟨hx, hb, hml, hown, ht⟩ (sX11_in l G cs v4 0 1 ) okS_RX11_79 ⟨by decide, by decide⟩ hK hP [] rfl hl.1 rfl (Nat.le_of_ble_eq_true rfl) dX11_drawn_13 ⟨by decide, by decide⟩) hP hS hA (fun r5 H locs hr5 hP hS => ?_)
    have kk6 : (0 : Int64).toInt = 0 := by decide
    have kk7 : (1 : Int64).toInt = 1 := by decide
    have hr5 : (r5.toInt = 1 ∧ (0 : Int64).toInt ≤ v4.toInt ∧ v4.toInt ≤ (1 : Int64).toInt) ∨ (r5.toInt = 0 ∧ (v4.toInt < (0 : Int64).toInt ∨ (1 : Int64).toInt < v4.toInt)) := hr5
    refine lv_if_eq (tgt := 23) hx hb dX11_drawn_16 (by decide) (fun c8 => ?_) (fun c8 => ?_)
    · have zc8 := eqK rfl (show (0 : Int32).toInt = 0 by decide) c8
      exact B23 a2 H locs ls (by have k0 : (0 : Int32).toInt = 0 := (by decide); have k1 : (1 : Int32).toInt = 1 := (by decide); omega) hP hD hS (lv_sub hl [0, 1, 2, 3] rfl)
    · have zc8 := neK rfl (show (0 : Int32).toInt = 0 by decide) c8
      refine lv_iconst (v := 1) hx hb dX11_drawn_19 (by decide) ?_
      refine lv_goto (tgt := 24) hx hb dX11_drawn_20 (by decide) ?_
      exact B24 1 a2 H locs ls (by decide) (by have k0 : (0 : Int32).toInt = 0 := (by decide); have k1 : (1 : Int32).toInt = 1 := (by decide); omega) (by have k0 : (0 : Int32).toInt = 0 := (by decide); have k1 : (1 : Int32).toInt = 1 := (by decide); omega) hP hD hS (lv_sub hl [0, 1, 2, 3] rfl)

set_option maxRecDepth 100000 in
set_option maxHeartbeats 8000000 in
theorem sX11_lot (l : Launch) (G : va_G) (cs : Nat → ClassId) (h : Nat) (q : Nat → Nat) (F : Nat → Int32) (A : Nat → Nat → Int32) (D : Int64) (B : Nat → Nat → Int64) (hI : IM F A) (a1 : Int32) (a2 : Int32) (a3 : Int32) : ImpI l yX11_lot cX11_lot 7 (some .int) 4 0 0 G (TY cs) [.ref h, .int a1, .int a2, .int a3] (mS cs h q F A D B) (fun (r : Int32) (u : Int32 × Int32 × Int64) => ((-1 : Int) ≤ u.1.toInt ∧ u.1.toInt ≤ 59) ∧ ((-1 : Int) ≤ u.2.1.toInt ∧ u.2.1.toInt ≤ 6) ∧ (True)) (fun u : Int32 × Int32 × Int64 => (mS cs h q (upd (upd F 29 u.1) 30 u.2.1) A u.2.2 B)) := by
  refine mkD (Qc := (QDi G (fun (r : Int32) (u : Int32 × Int32 × Int64) => ((-1 : Int) ≤ u.1.toInt ∧ u.1.toInt ≤ 59) ∧ ((-1 : Int) ≤ u.2.1.toInt ∧ u.2.1.toInt ≤ 6) ∧ (True)) (fun u : Int32 × Int32 × Int64 => (mS cs h q (upd (upd F 29 u.1) 30 u.2.1) A u.2.2 B)))) (by decide) (by simp [lg_sl, Value.category]) ?_
  intro p e s m args below meth c ls A0 hx hb hml hr hlk hown hmn ht hK hP hD hS hA hl
  have hl : lv_has ls 7 [(0, .ref h), (1, .int a1), (2, .int a2), (3, .int a3)] := hl
  refine lv_aload_n hx hb dX11_lot_0 rfl (lv_at hl 0 rfl) ?_
  refine lv_iload_n hx hb dX11_lot_1 rfl (lv_at hl 2 rfl) ?_
  refine lv_iload_n hx hb dX11_lot_2 rfl (lv_at hl 1 rfl) ?_
  refine behR (runSP (As := [.int a1]) (rest := [.int a2, .ref h]) ⟨hx, hb, hml, hown, ht⟩ (sX11_isSeed l G cs a1 ) okS_RX11_441 ⟨by decide, by decide⟩ hK hP [] rfl hl.1 rfl (Nat.le_of_ble_eq_true rfl) dX11_lot_3 ⟨by decide, by decide⟩) hP hS hA (fun r1 H locs hr1 hP hS => ?_)
  have hr1 : (r1.toInt = 1 ∧ 0 ≤ a1.toInt ∧ a1.toInt ≤ 2000000000) ∨ r1.toInt = 0 := hr1
  have B26 : ∀ (s26_0 : Int32) (s26_1 : Int32) (H : Heap) (locs : List Loc) (ls : Array Slot), (0 : Int) ≤ s26_0.toInt ∧ s26_0.toInt ≤ 1 → (s26_1.toInt = a2.toInt) → (s26_0.toInt = 1 → (0 ≤ a1.toInt ∧ a1.toInt ≤ 2000000000 ∧ 1 ≤ a3.toInt ∧ a3.toInt ≤ 20)) → va_P G vwCl (mS cs h q F A D B) H → va_D A0 (mS cs h q F A D B) → va_S A0 s.heap H locs → lv_has ls 7 [(0, .ref h), (1, .int a1), (2, .int a2), (3, .int a3)] → W p l e (rmk 4 0 0) s m args below meth c H locs 0 0 (MQ below ((QDi G (fun (r : Int32) (u : Int32 × Int32 × Int64) => ((-1 : Int) ≤ u.1.toInt ∧ u.1.toInt ≤ 59) ∧ ((-1 : Int) ≤ u.2.1.toInt ∧ u.2.1.toInt ≤ 6) ∧ (True)) (fun u : Int32 × Int32 × Int64 => (mS cs h q (upd (upd F 29 u.1) 30 u.2.1) A u.2.2 B))) A0) args s 0 0 A0) (F0 m 26 ls [.int s26_0, .int s26_1, .ref h]) := by
    intro s26_0 s26_1 H locs ls hs26_0 hsl hsd hP hD hS hl
    refine behR (runVP (As := [.int s26_1, .int s26_0]) (rest := []) ⟨hx, hb, hml, hown, ht⟩ (sX11_asksRound l G cs h q F A D B hI s26_1 s26_0 (by omega)) okV_RX11_303 ⟨by decide, by decide⟩ hK hP [0, 1, 2, 3, 4, 5, 6, 7, 8, 9, 10, 11, 12, 13, 14, 15, 16, 17, 18, 19] rfl 0 rfl rfl hl.1 rfl (Nat.le_of_ble_eq_true rfl) dX11_lot_26 ⟨by decide, by decide⟩) hP hS hA (fun r15001 H locs hr15001 hP hS => ?_)
    have hr15001 : (r15001.toInt = -2 ∨ r15001.toInt = -6 ∨ (r15001.toInt = 0 ∧ 0 ≤ s26_1.toInt ∧ s26_1.toInt ≤ 3 ∧ 0 ≤ (A 31 s26_1.toNatClampNeg).toInt ∧ s26_0.toInt = 1)) ∧ (r15001.toInt = 0 → RV B s26_1 (A 31 s26_1.toNatClampNeg).toInt) := hr15001
    obtain ⟨hr15001, gr15001⟩ := hr15001
    refine lv_istore (lv' := [(4, .int r15001), (0, .ref h), (1, .int a1), (2, .int a2), (3, .int a3)]) hx hb dX11_lot_29 hl (by decide) rfl (fun ls hl => ?_)
    refine lv_iload hx hb dX11_lot_31 (lv_at hl 0 rfl) ?_
    refine lv_if_ge (tgt := 39) hx hb dX11_lot_33 (by decide) (fun c15002 => ?_) (fun c15002 => ?_)
    · have zc15002 := leK (show (0 : Int32).toInt = 0 by decide) rfl c15002
      refine lv_iconst (v := 0) hx hb dX11_lot_39 (by decide) ?_
      refine lv_istore (lv' := [(5, .int 0), (4, .int r15001), (0, .ref h), (1, .int a1), (2, .int a2), (3, .int a3)]) hx hb dX11_lot_40 hl (by decide) rfl (fun ls hl => ?_)
      refine lv_iconst (v := 0) hx hb dX11_lot_42 (by decide) ?_
      refine lv_istore (lv' := [(6, .int 0), (5, .int 0), (4, .int r15001), (0, .ref h), (1, .int a1), (2, .int a2), (3, .int a3)]) hx hb dX11_lot_43 hl (by decide) rfl (fun ls hl => ?_)
      have B45 : ∀ (n : Nat) (x45_5 : Int32) (x45_6 : Int32) (f29_45 : Int32) (f30_45 : Int32) (d0_45 : Int64) (H : Heap) (locs : List Loc) (ls : Array Slot), (20 - x45_6.toInt).toNat < n → (0 : Int) ≤ x45_6.toInt ∧ x45_6.toInt ≤ 20 → (-1 : Int) ≤ f29_45.toInt ∧ f29_45.toInt ≤ 59 → (-1 : Int) ≤ f30_45.toInt ∧ f30_45.toInt ≤ 6 → va_P G vwCl (mS cs h q (upd (upd F 29 f29_45) 30 f30_45) A d0_45 B) H → va_D A0 (mS cs h q (upd (upd F 29 f29_45) 30 f30_45) A d0_45 B) → va_S A0 s.heap H locs → lv_has ls 7 [(0, .ref h), (1, .int a1), (2, .int a2), (3, .int a3), (5, .int x45_5), (6, .int x45_6)] → W p l e (rmk 4 0 0) s m args below meth c H locs 0 0 (MQ below ((QDi G (fun (r : Int32) (u : Int32 × Int32 × Int64) => ((-1 : Int) ≤ u.1.toInt ∧ u.1.toInt ≤ 59) ∧ ((-1 : Int) ≤ u.2.1.toInt ∧ u.2.1.toInt ≤ 6) ∧ (True)) (fun u : Int32 × Int32 × Int64 => (mS cs h q (upd (upd F 29 u.1) 30 u.2.1) A u.2.2 B))) A0) args s 0 0 A0) (F0 m 45 ls []) := by
        intro n
        induction n with
        | zero => intro x45_5 x45_6 f29_45 f30_45 d0_45 H locs ls hmeas hx45_6 hf29_45 hf30_45 hP hD hS hl; exact absurd hmeas (Nat.not_lt_zero _)
        | succ n ih45 =>
          intro x45_5 x45_6 f29_45 f30_45 d0_45 H locs ls hmeas hx45_6 hf29_45 hf30_45 hP hD hS hl
          refine lv_iload hx hb dX11_lot_45 (lv_at hl 5 rfl) ?_
          refine lv_iload_n hx hb dX11_lot_47 rfl (lv_at hl 3 rfl) ?_
          refine lv_icmp_ge (tgt := 86) hx hb dX11_lot_48 (by decide) (fun c25001 => ?_) (fun c25001 => ?_)
          · have zc25001 := leK rfl rfl c25001
            refine lv_iload hx hb dX11_lot_86 (lv_at hl 4 rfl) ?_
            exact retDi (f29_45, f30_45, d0_45) hx hb hr hlk hP hD hS dX11_lot_88 (⟨show (-1 : Int) ≤ f29_45.toInt ∧ f29_45.toInt ≤ 59 by omega, show (-1 : Int) ≤ f30_45.toInt ∧ f30_45.toInt ≤ 6 by omega, trivial⟩) (Nat.le_of_ble_eq_true rfl) (Nat.le_of_ble_eq_true rfl)
          · have zc25001 := nleK rfl rfl c25001
            refine lv_aload_n hx hb dX11_lot_51 rfl (lv_at hl 0 rfl) ?_
            refine lv_iload_n hx hb dX11_lot_52 rfl (lv_at hl 1 rfl) ?_
            refine lv_i2l hx hb dX11_lot_53 rfl ?_
            have bb25002 := i32b a1
            refine lv_topl (fun v25003 ev25003 => ?_)
            have tv25003 : v25003.toInt = a1.toInt := by rw [ev25003]; exact Int32.toInt_toInt64 _
            refine lv_iload hx hb dX11_lot_54 (lv_at hl 5 rfl) ?_
            refine lv_i2l hx hb dX11_lot_56 rfl ?_
            refine lv_topl (fun v25004 ev25004 => ?_)
            have tv25004 : v25004.toInt = x45_6.toInt := by rw [ev25004]; exact Int32.toInt_toInt64 _
            refine lv_ladd hx hb dX11_lot_57 ?_
            refine lv_topl (fun v25005 ev25005 => ?_)
            have tv25005 : v25005.toInt = v25003.toInt + v25004.toInt := by rw [ev25005]; exact addL rfl rfl (by omega)
            refine lv_iload_n hx hb dX11_lot_58 rfl (lv_at hl 2 rfl) ?_
            refine behDw (wr := []) (runVD (As := [.long v25005, .int a2]) (rest := []) ⟨hx, hb, hml, hown, ht⟩ (sX11_goEvening l G cs h q (upd (upd F 29 f29_45) 30 f30_45) A d0_45 B (IM_put (k := 30) (IM_put (k := 29) hI (show (-1 : Int) ≤ f29_45.toInt ∧ f29_45.toInt ≤ 59 by omega)) (show (-1 : Int) ≤ f30_45.toInt ∧ f30_45.toInt ≤ 6 by omega)) v25005 a2 (by omega) (by omega)) okV_RX11_444 ⟨by decide, by decide⟩ hK hP hD [0, 1, 2, 3, 4, 5, 6, 7, 8, 9, 10, 11, 12, 13, 14, 15, 16, 17, 18, 19] rfl (by decide) rfl 0 rfl rfl hl.1 rfl (Nat.le_of_ble_eq_true rfl) dX11_lot_59 ⟨(Nat.le_of_ble_eq_true rfl), (Nat.le_of_ble_eq_true rfl)⟩) hP hD hS hA [0, 1, 2, 3, 4, 5, 6, 7, 8, 9, 10, 11, 12, 13, 14, 15, 16, 17, 18, 19] [] rfl rfl (by decide) (by decide) (fun u H locs hu hP hD hS => ?_)
            obtain ⟨x25006, x25007, d25008⟩ := u
            obtain ⟨hbx25006, hbx25007, hbd25008, hr25009⟩ := hu
            have hbx25006 : (-1 : Int) ≤ x25006.toInt ∧ x25006.toInt ≤ 59 := hbx25006
            have hbx25007 : (-1 : Int) ≤ x25007.toInt ∧ x25007.toInt ≤ 6 := hbx25007
            have hbd25008 : (0 : Int) ≤ d25008.toInt ∧ d25008.toInt ≤ 4294967295 := hbd25008
            have hP : va_P G vwCl (mS cs h q (upd (upd F 29 x25006) 30 x25007) A d25008 B) H := hP
            have hD : va_D A0 (mS cs h q (upd (upd F 29 x25006) 30 x25007) A d25008 B) := hD
            refine lv_iload hx hb dX11_lot_62 (lv_at hl 4 rfl) ?_
            refine lv_aload_n hx hb dX11_lot_64 rfl (lv_at hl 0 rfl) ?_
            refine getF (v := .int x25006) hx hb ht hown hK hP iTX11 0 29 rfl rfl (by decide) fl_RX11_427 rfl dX11_lot_65 ?_
            refine lv_iconst (v := (-1)) hx hb dX11_lot_68 (by decide) ?_
            have B77 : ∀ (s77_0 : Int32) (s77_1 : Int32) (H : Heap) (locs : List Loc) (ls : Array Slot), (0 : Int) ≤ s77_0.toInt ∧ s77_0.toInt ≤ 1 → va_P G vwCl (mS cs h q (upd (upd F 29 x25006) 30 x25007) A d25008 B) H → va_D A0 (mS cs h q (upd (upd F 29 x25006) 30 x25007) A d25008 B) → va_S A0 s.heap H locs → lv_has ls 7 [(0, .ref h), (1, .int a1), (2, .int a2), (3, .int a3), (6, .int x45_6)] → W p l e (rmk 4 0 0) s m args below meth c H locs 0 0 (MQ below ((QDi G (fun (r : Int32) (u : Int32 × Int32 × Int64) => ((-1 : Int) ≤ u.1.toInt ∧ u.1.toInt ≤ 59) ∧ ((-1 : Int) ≤ u.2.1.toInt ∧ u.2.1.toInt ≤ 6) ∧ (True)) (fun u : Int32 × Int32 × Int64 => (mS cs h q (upd (upd F 29 u.1) 30 u.2.1) A u.2.2 B))) A0) args s 0 0 A0) (F0 m 77 ls [.int s77_0, .int s77_1]) := by
              intro s77_0 s77_1 H locs ls hs77_0 hP hD hS hl
              refine lv_iadd hx hb dX11_lot_77 ?_
              refine lv_topi (fun v44001 ev44001 => ?_)
              refine lv_istore (lv' := [(5, .int v44001), (0, .ref h), (1, .int a1), (2, .int a2), (3, .int a3), (6, .int x45_6)]) hx hb dX11_lot_78 hl (by decide) rfl (fun ls hl => ?_)
              obtain ⟨v44002, ev44002⟩ : ∃ z : Int32, z = x45_6 + 1 := ⟨_, rfl⟩
              have tv44002 : v44002.toInt = x45_6.toInt + 1 := by rw [ev44002]; exact addT rfl (by decide) (by omega)
              refine lv_iinc (v := v44002) (lv' := [(6, .int v44002), (5, .int v44001), (0, .ref h), (1, .int a1), (2, .int a2), (3, .int a3)]) hx hb dX11_lot_80 hl (k := 5) rfl (by rw [ev44002]; rfl) (by decide) rfl (fun ls hl => ?_)
              refine lv_goto (tgt := 45) hx hb dX11_lot_83 (by decide) ?_
              exact ih45 v44001 v44002 x25006 x25007 d25008 H locs ls (by omega) (by omega) (by omega) (by omega) hP hD hS (lv_sub hl [2, 3, 4, 5, 1, 0] rfl)
            refine lv_icmp_ne (tgt := 76) hx hb dX11_lot_69 (by decide) (fun c25010 => ?_) (fun c25010 => ?_)
            · have zc25010 := neK rfl (show (-1 : Int32).toInt = (-1) by decide) c25010
              refine lv_iconst (v := 1) hx hb dX11_lot_76 (by decide) ?_
              exact B77 1 x45_5 H locs ls (by decide) hP hD hS (lv_sub hl [0, 1, 2, 3, 5] rfl)
            · have zc25010 := eqK rfl (show (-1 : Int32).toInt = (-1) by decide) c25010
              refine lv_iconst (v := 0) hx hb dX11_lot_72 (by decide) ?_
              refine lv_goto (tgt := 77) hx hb dX11_lot_73 (by decide) ?_
              exact B77 0 x45_5 H locs ls (by decide) hP hD hS (lv_sub hl [0, 1, 2, 3, 5] rfl)
      exact B45 _ 0 0 (F 29) (F 30) D H locs ls (Nat.lt_succ_self _) (by decide) (hI.1 29) (hI.1 30) hP hD hS (lv_sub hl [3, 4, 5, 6, 1, 0] rfl)
    · have zc15002 := nleK (show (0 : Int32).toInt = 0 by decide) rfl c15002
      refine lv_iload hx hb dX11_lot_36 (lv_at hl 0 rfl) ?_
      exact retDi ((F 29), (F 30), D) hx hb hr hlk hP hD hS dX11_lot_38 (⟨hI.1 29, hI.1 30, trivial⟩) (Nat.le_of_ble_eq_true rfl) (Nat.le_of_ble_eq_true rfl)
  have B25 : ∀ (s25_0 : Int32) (H : Heap) (locs : List Loc) (ls : Array Slot), (s25_0.toInt = a2.toInt) → va_P G vwCl (mS cs h q F A D B) H → va_D A0 (mS cs h q F A D B) → va_S A0 s.heap H locs → lv_has ls 7 [(0, .ref h), (1, .int a1), (2, .int a2), (3, .int a3)] → W p l e (rmk 4 0 0) s m args below meth c H locs 0 0 (MQ below ((QDi G (fun (r : Int32) (u : Int32 × Int32 × Int64) => ((-1 : Int) ≤ u.1.toInt ∧ u.1.toInt ≤ 59) ∧ ((-1 : Int) ≤ u.2.1.toInt ∧ u.2.1.toInt ≤ 6) ∧ (True)) (fun u : Int32 × Int32 × Int64 => (mS cs h q (upd (upd F 29 u.1) 30 u.2.1) A u.2.2 B))) A0) args s 0 0 A0) (F0 m 25 ls [.int s25_0, .ref h]) := by
    intro s25_0 H locs ls hsl hP hD hS hl
    refine lv_iconst (v := 0) hx hb dX11_lot_25 (by decide) ?_
    exact B26 0 s25_0 H locs ls (by decide) (by have k0 : (0 : Int32).toInt = 0 := (by decide); have k1 : (1 : Int32).toInt = 1 := (by decide); omega) (by have k0 : (0 : Int32).toInt = 0 := (by decide); have k1 : (1 : Int32).toInt = 1 := (by decide); omega) hP hD hS (lv_sub hl [0, 1, 2, 3] rfl)
  refine lv_if_eq (tgt := 25) hx hb dX11_lot_6 (by decide) (fun c2 => ?_) (fun c2 => ?_)
  · have zc2 := eqK rfl (show (0 : Int32).toInt = 0 by decide) c2
    exact B25 a2 H locs ls (by have k0 : (0 : Int32).toInt = 0 := (by decide); have k1 : (1 : Int32).toInt = 1 := (by decide); omega) hP hD hS (lv_sub hl [0, 1, 2, 3] rfl)
  · have zc2 := neK rfl (show (0 : Int32).toInt = 0 by decide) c2
    refine lv_iload_n hx hb dX11_lot_9 rfl (lv_at hl 3 rfl) ?_
    refine lv_i2l hx hb dX11_lot_10 rfl ?_
    have bb3 := i32b a3
    refine lv_topl (fun v4 ev4 => ?_)
    have tv4 : v4.toInt = a3.toInt := by rw [ev4]; exact Int32.toInt_toInt64 _
    refine lv_lconst (v := 1) hx hb dX11_lot_11 (by decide) ?_
    refine lv_ldc2 hx hb hown (ht _ kl_RX11_448) dX11_lot_12 ?_
    refine behR (runSP (As := [.long v4, .long 1, .long 20]) (rest := [.int a2, .ref h]) ⟨hx, hb, hml, hown, ht⟩ (sX11_in l G cs v4 1 20 ) okS_RX11_79 ⟨by decide, by decide⟩ hK hP [] rfl hl.1 rfl (Nat.le_of_ble_eq_true rfl) dX11_lot_15 ⟨by decide, by decide⟩) hP hS hA (fun r5 H locs hr5 hP hS => ?_)
    have kk6 : (1 : Int64).toInt = 1 := by decide
    have kk7 : (20 : Int64).toInt = 20 := by decide
    have hr5 : (r5.toInt = 1 ∧ (1 : Int64).toInt ≤ v4.toInt ∧ v4.toInt ≤ (20 : Int64).toInt) ∨ (r5.toInt = 0 ∧ (v4.toInt < (1 : Int64).toInt ∨ (20 : Int64).toInt < v4.toInt)) := hr5
    refine lv_if_eq (tgt := 25) hx hb dX11_lot_18 (by decide) (fun c8 => ?_) (fun c8 => ?_)
    · have zc8 := eqK rfl (show (0 : Int32).toInt = 0 by decide) c8
      exact B25 a2 H locs ls (by have k0 : (0 : Int32).toInt = 0 := (by decide); have k1 : (1 : Int32).toInt = 1 := (by decide); omega) hP hD hS (lv_sub hl [0, 1, 2, 3] rfl)
    · have zc8 := neK rfl (show (0 : Int32).toInt = 0 by decide) c8
      refine lv_iconst (v := 1) hx hb dX11_lot_21 (by decide) ?_
      refine lv_goto (tgt := 26) hx hb dX11_lot_22 (by decide) ?_
      exact B26 1 a2 H locs ls (by decide) (by have k0 : (0 : Int32).toInt = 0 := (by decide); have k1 : (1 : Int32).toInt = 1 := (by decide); omega) (by have k0 : (0 : Int32).toInt = 0 := (by decide); have k1 : (1 : Int32).toInt = 1 := (by decide); omega) hP hD hS (lv_sub hl [0, 1, 2, 3] rfl)

